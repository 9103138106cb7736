/-! ===== new things ===== -/
theorem va_RA_in {s : State} {cA cB : ClassId} {ty : FieldType} (h1 : va_RA s cA ty) (h2 : va_RA s cB ty) : cA = cB := by
  cases ty with
  | object C =>
    obtain ⟨_, _, _, _, _, e1⟩ := h1
    obtain ⟨_, _, _, _, _, e2⟩ := h2
    exact Option.some.inj (e1.symm.trans e2)
  | _ => exact Option.some.inj (h1.symm.trans h2)
theorem ci_0 : cI (fun _ => 0) = fun _ => 0 := funext fun _ => iI_0.symm
theorem cl_0 : cL (fun _ => 0) = fun _ => 0 := funext fun _ => rfl
theorem vz_I (N : Nat) (cA : ClassId) : vp_cell cA (N, .inl (cI (fun _ => 0))) = arrV cA N (fun _ => defaultValue .int) := by
  rw [vp_cell_i, ci_0]
  rfl
theorem vz_Z (N : Nat) (cA : ClassId) : vp_cell cA (N, .inl (cI (fun _ => 0))) = arrV cA N (fun _ => defaultValue .boolean) := by
  rw [vp_cell_i, ci_0]
  rfl
theorem vz_J (N : Nat) (cA : ClassId) : vp_cell cA (N, .inr (.inl (cL (fun _ => 0)))) = arrV cA N (fun _ => defaultValue .long) := by
  rw [vp_cell_l, cl_0]
  rfl
section ZNEW
variable {p : Program} {l : Launch} {e : Env} {R : Room} {s : State} {m : MethodId} {args : Array Value} {below : List Frame} {meth : Method} {c : Code} {H : Heap} {locs : List Loc} {cells slots : Nat} {Q : State → Prop}
variable {cc : ByteArray} {pc : Nat} {ls : Array Slot} {rest : List Value} {D : va_G} {A : Nat → Prop} {tys : List (ClassId × FieldType)} {ws : va_W} {H0 : Heap}
theorem z_newa (hx : p.tables.exec = Jvm.exec) (hb : c.code = cc) {atype : ArrayType} (harr : (Cond.arrayClass (newarray.typeOf atype)).before args s = true) {ty : FieldType} (hty : newarray.typeOf atype = ty) (hK : va_K D vwCl tys s) (t0 : Nat) {cA : ClassId} (ht : tys[t0]? = some (cA, ty)) (hP : va_P D vwCl ws H) (hD : va_D A ws) (hS : va_S A H0 H locs) (hA : ∀ q, H0.size ≤ q → A q)
    {z : Int} {N : Nat} {a0 : vp_A} (ha : ∀ cA : ClassId, vp_cell cA a0 = arrV cA N (fun _ => defaultValue ty)) (hz : 0 ≤ z ∧ z < 2 ^ 31) (hN : z.toNat = N) (hbytes : N * componentBytes ty ≤ 536870912) (hcells : cells + 1 ≤ R.cells) (hslots : slots + N ≤ R.slots) (hdg : decode cc pc = .ok (.newarray atype, 2))
    (kk : ∀ (q : Nat) (H1 : Heap), va_P D vwCl (ws ++ [(q, .inl (cA, a0))]) H1 → va_D A (ws ++ [(q, .inl (cA, a0))]) → va_S A H0 H1 locs →
      W p l e R s m args below meth c H1 locs (cells + 1) (slots + N) Q (F0 m (pc + 2) ls (.ref q :: rest))) : W p l e R s m args below meth c H locs cells slots Q (F0 m pc ls (zi z :: rest)) :=
  va_newa hx hb harr hty hK hP hD hS hA ha (by rw [iI_0, iI_lt (by omega) (by omega)]; omega) ((iI_cl hz).trans hN) hbytes hcells hslots hdg (fun q cB H1 k1 p1 d1 s1 => by
    have e : cB = cA := va_RA_in (k1.2 tys.length (cB, ty) (by simp)).2 (hK.2 t0 _ ht).2
    subst e
    exact kk q H1 p1 d1 s1)
theorem z_newq (hx : p.tables.exec = Jvm.exec) (hb : c.code = cc) {own C : String} {index : Nat} (hown : s.vm.findClass own = some m.cls) (hclink : (Cond.classLink own index C).before args s = true) (hover : va_AO C s) (hK : va_K D vwCl tys s) (t0 : Nat) {cA : ClassId} (ht : tys[t0]? = some (cA, .object C)) (hP : va_P D vwCl ws H) (hD : va_D A ws) (hS : va_S A H0 H locs) (hA : ∀ q, H0.size ≤ q → A q)
    {z : Int} {N : Nat} (hz : 0 ≤ z ∧ z < 2 ^ 31) (hN : z.toNat = N) (hbytes : N * 4 ≤ 536870912) (hcells : cells + 1 ≤ R.cells) (hslots : slots + N ≤ R.slots) (hdg : decode cc pc = .ok (.anewarray index, 3))
    (kk : ∀ (q : Nat) (H1 : Heap), va_P D vwCl (ws ++ [(q, .inl (cA, N, .inr (.inr (.inr (.inr (fun _ => none))))))]) H1 → va_D A (ws ++ [(q, .inl (cA, N, .inr (.inr (.inr (.inr (fun _ => none))))))]) → va_S A H0 H1 locs →
      W p l e R s m args below meth c H1 locs (cells + 1) (slots + N) Q (F0 m (pc + 3) ls (.ref q :: rest))) : W p l e R s m args below meth c H locs cells slots Q (F0 m pc ls (zi z :: rest)) :=
  va_newq hx hb hown hclink hover hK hP hD hS hA (by rw [iI_0, iI_lt (by omega) (by omega)]; omega) ((iI_cl hz).trans hN) hbytes hcells hslots hdg (fun q cB H1 k1 p1 d1 s1 => by
    have e : cB = cA := va_RA_in (k1.2 tys.length (cB, .object C) (by simp)).2 (hK.2 t0 _ ht).2
    subst e
    exact kk q H1 p1 d1 s1)
end ZNEW
set_option maxHeartbeats 8000000 in
set_option maxRecDepth 100000 in
theorem c_X10_init (l : Launch) (D : va_G) (y : Nat → ClassId) (o1 : Nat)  (sz : Nat) : Met l yX10_init wsX10_init ({ frames := 1, cells := 1, slots := 40, locals := 12 } : Room) (wPc D y [] [(o1, .inr (9, [.null, zi 0]))] sz [.ref o1]) (wQ D (fun (p1 : Nat) => none) (fun (p1 : Nat) => True) (fun (p1 : Nat) => [(o1, .inr (9, [.ref p1, zi 0])), (p1, .inl (y 0, 40, .inl (cI (fun _ => 0))))]) (va_A [(o1, .inr (9, [.null, zi 0]))] sz)) 1 40 (va_A [(o1, .inr (9, [.null, zi 0]))] sz) := by
  refine W_of (own := RX10) (cc := cX10_init) (maxL := 1) (ret := none) (by decide) rfl rfl (Nat.le_of_ble_eq_true rfl) (fun p e s m below meth c ls A hx hb hr hC hlocks hin0 hR0 hN hP hD hA hG hl => ?_)
  have hC0 := hC
  obtain ⟨-, -, hml, hown, hts⟩ := hC0
  have hK := hG.1
  have hS : va_S A s.heap s.heap [] := va_S.rf
  have hPr := hR0
  have hinX10 : ∀ w ∈ wsX100, w ∈ wsX10_init := fun _ h => List.mem_cons_of_mem _ (List.mem_append_right _ h)
  have k1 := hts (.methodLink RX10 3 objectInit) (List.mem_of_getElem? (i := 1) rfl)
  have k2 := hts (.instanceMethod objectInit) (List.mem_of_getElem? (i := 2) rfl)
  have k4 := hts (.arrayClass .int) (List.mem_of_getElem? (i := 4) rfl)
  have k5 := hts (.fieldLink RX10 9 "BoatsOfPaper$Text" "bytes" "[I") (List.mem_of_getElem? (i := 5) rfl)
  have k6 := hts (.fieldLink RX10 15 "BoatsOfPaper$Text" "length" "I") (List.mem_of_getElem? (i := 6) rfl)
  have hl : lv_has ls 1 [(0, .ref o1)] := hl
  refine lv_aload_n hx hb dX10_init_0 rfl (lv_at hl 0 rfl) ?_
  refine W.objInit hx hb hown k1 k2 (hts _ (List.mem_of_getElem? (i := 3) rfl)) rfl (by rw [hml]; exact hl.1) rfl dX10_init_1 (Nat.le_of_ble_eq_true rfl) (Nat.le_of_ble_eq_true rfl) ?_
  refine W.eq (g2 := F0 m 4 ls []) rfl ?_
  refine lv_aload_n hx hb dX10_init_4 rfl (lv_at hl 0 rfl) ?_
  refine z_bipush hx hb dX10_init_5 (by decide) ?_
  refine z_newa (a0 := (40, .inl (cI (fun _ => 0)))) (N := 40) (atype := .int) (ty := .int) hx hb k4 rfl hK 0 rfl hP hD hS hA (vz_I 40) (by omega) rfl (by show 40 * 4 ≤ 536870912; omega) (Nat.le_of_ble_eq_true rfl) (Nat.le_of_ble_eq_true rfl) dX10_init_7 (fun q_1 H hP hD hS => ?_)
  have hP : va_P D vwCl [(o1, .inr (9, [.null, zi 0])), (q_1, .inl (y 0, 40, .inl (cI (fun _ => 0))))] H := hP
  have hD : va_D A [(o1, .inr (9, [.null, zi 0])), (q_1, .inl (y 0, 40, .inl (cI (fun _ => 0))))] := hD
  refine va_putF hx hb hts hinX10 tyX10 tyX10_ok nmX10 hown hK hP hD hS 0 rfl rfl 0 (by decide) k5 (fun _ h => h) rfl hin0 rfl (tyX10_ok 0 (by decide)) rfl rfl (Nat.le_of_ble_eq_true rfl) dX10_init_9 (fun H locs hP hD hS => ?_)
  have hP : va_P D vwCl [(o1, .inr (9, [.ref q_1, zi 0])), (q_1, .inl (y 0, 40, .inl (cI (fun _ => 0))))] H := hP
  have hD : va_D A [(o1, .inr (9, [.ref q_1, zi 0])), (q_1, .inl (y 0, 40, .inl (cI (fun _ => 0))))] := hD
  refine lv_aload_n hx hb dX10_init_12 rfl (lv_at hl 0 rfl) ?_
  refine z_iconst hx hb dX10_init_13 ?_
  refine va_put hx hb hts hinX10 tyX10 tyX10_ok nmX10 hown hK hP hD hS 0 rfl rfl 1 (by decide) k6 (fun _ h => h) rfl (tyX10_ok 1 (by decide)) rfl rfl (Nat.le_of_ble_eq_true rfl) dX10_init_14 (fun H locs hP hD hS => ?_)
  have hP : va_P D vwCl [(o1, .inr (9, [.ref q_1, zi 0])), (q_1, .inl (y 0, 40, .inl (cI (fun _ => 0))))] H := hP
  have hD : va_D A [(o1, .inr (9, [.ref q_1, zi 0])), (q_1, .inl (y 0, 40, .inl (cI (fun _ => 0))))] := hD
  exact z_vretW hx hb hr hlocks q_1 rfl (trivial) (hP.sub [0, 1] rfl) (hD.sub [0, 1] (by decide) rfl) hS dX10_init_17
set_option maxHeartbeats 8000000 in
set_option maxRecDepth 100000 in
theorem c_X6_init (l : Launch) (D : va_G) (y : Nat → ClassId) (o1 : Nat)  (sz : Nat) : Met l yX6_init wsX6_init ({ frames := 1, cells := 1, slots := 36, locals := 12 } : Room) (wPc D y [] [(o1, .inr (5, [.null, zi 0, zi 0, zi 0, zi 0]))] sz [.ref o1]) (wQ D (fun (p1 : Nat) => none) (fun (p1 : Nat) => True) (fun (p1 : Nat) => [(o1, .inr (5, [.ref p1, zi 1, zi 1, zi 3, zi 2])), (p1, .inl (y 0, 36, .inl (cI (iu (fun _ => 0) 0 1))))]) (va_A [(o1, .inr (5, [.null, zi 0, zi 0, zi 0, zi 0]))] sz)) 1 36 (va_A [(o1, .inr (5, [.null, zi 0, zi 0, zi 0, zi 0]))] sz) := by
  refine W_of (own := RX6) (cc := cX6_init) (maxL := 1) (ret := none) (by decide) rfl rfl (Nat.le_of_ble_eq_true rfl) (fun p e s m below meth c ls A hx hb hr hC hlocks hin0 hR0 hN hP hD hA hG hl => ?_)
  have hC0 := hC
  obtain ⟨-, -, hml, hown, hts⟩ := hC0
  have hK := hG.1
  have hS : va_S A s.heap s.heap [] := va_S.rf
  have hPr := hR0
  have hinX6 : ∀ w ∈ wsX60, w ∈ wsX6_init := fun _ h => List.mem_cons_of_mem _ (List.mem_append_right _ h)
  have k1 := hts (.methodLink RX6 3 objectInit) (List.mem_of_getElem? (i := 1) rfl)
  have k2 := hts (.instanceMethod objectInit) (List.mem_of_getElem? (i := 2) rfl)
  have k4 := hts (.arrayClass .int) (List.mem_of_getElem? (i := 4) rfl)
  have k5 := hts (.fieldLink RX6 9 "BoatsOfPaper$Gutter" "kinds" "[I") (List.mem_of_getElem? (i := 5) rfl)
  have k6 := hts (.fieldLink RX6 15 "BoatsOfPaper$Gutter" "lanes" "I") (List.mem_of_getElem? (i := 6) rfl)
  have k7 := hts (.fieldLink RX6 19 "BoatsOfPaper$Gutter" "places" "I") (List.mem_of_getElem? (i := 7) rfl)
  have k8 := hts (.fieldLink RX6 22 "BoatsOfPaper$Gutter" "leafTenths" "I") (List.mem_of_getElem? (i := 8) rfl)
  have k9 := hts (.fieldLink RX6 25 "BoatsOfPaper$Gutter" "drainTenths" "I") (List.mem_of_getElem? (i := 9) rfl)
  have hl : lv_has ls 1 [(0, .ref o1)] := hl
  refine lv_aload_n hx hb dX6_init_0 rfl (lv_at hl 0 rfl) ?_
  refine W.objInit hx hb hown k1 k2 (hts _ (List.mem_of_getElem? (i := 3) rfl)) rfl (by rw [hml]; exact hl.1) rfl dX6_init_1 (Nat.le_of_ble_eq_true rfl) (Nat.le_of_ble_eq_true rfl) ?_
  refine W.eq (g2 := F0 m 4 ls []) rfl ?_
  refine lv_aload_n hx hb dX6_init_4 rfl (lv_at hl 0 rfl) ?_
  refine z_bipush hx hb dX6_init_5 (by decide) ?_
  refine z_newa (a0 := (36, .inl (cI (fun _ => 0)))) (N := 36) (atype := .int) (ty := .int) hx hb k4 rfl hK 0 rfl hP hD hS hA (vz_I 36) (by omega) rfl (by show 36 * 4 ≤ 536870912; omega) (Nat.le_of_ble_eq_true rfl) (Nat.le_of_ble_eq_true rfl) dX6_init_7 (fun q_1 H hP hD hS => ?_)
  have hP : va_P D vwCl [(o1, .inr (5, [.null, zi 0, zi 0, zi 0, zi 0])), (q_1, .inl (y 0, 36, .inl (cI (fun _ => 0))))] H := hP
  have hD : va_D A [(o1, .inr (5, [.null, zi 0, zi 0, zi 0, zi 0])), (q_1, .inl (y 0, 36, .inl (cI (fun _ => 0))))] := hD
  refine va_putF hx hb hts hinX6 tyX6 tyX6_ok nmX6 hown hK hP hD hS 0 rfl rfl 0 (by decide) k5 (fun _ h => h) rfl hin0 rfl (tyX6_ok 0 (by decide)) rfl rfl (Nat.le_of_ble_eq_true rfl) dX6_init_9 (fun H locs hP hD hS => ?_)
  have hP : va_P D vwCl [(o1, .inr (5, [.ref q_1, zi 0, zi 0, zi 0, zi 0])), (q_1, .inl (y 0, 36, .inl (cI (fun _ => 0))))] H := hP
  have hD : va_D A [(o1, .inr (5, [.ref q_1, zi 0, zi 0, zi 0, zi 0])), (q_1, .inl (y 0, 36, .inl (cI (fun _ => 0))))] := hD
  refine lv_aload_n hx hb dX6_init_12 rfl (lv_at hl 0 rfl) ?_
  refine z_iconst hx hb dX6_init_13 ?_
  refine va_put hx hb hts hinX6 tyX6 tyX6_ok nmX6 hown hK hP hD hS 0 rfl rfl 1 (by decide) k6 (fun _ h => h) rfl (tyX6_ok 1 (by decide)) rfl rfl (Nat.le_of_ble_eq_true rfl) dX6_init_14 (fun H locs hP hD hS => ?_)
  have hP : va_P D vwCl [(o1, .inr (5, [.ref q_1, zi 1, zi 0, zi 0, zi 0])), (q_1, .inl (y 0, 36, .inl (cI (fun _ => 0))))] H := hP
  have hD : va_D A [(o1, .inr (5, [.ref q_1, zi 1, zi 0, zi 0, zi 0])), (q_1, .inl (y 0, 36, .inl (cI (fun _ => 0))))] := hD
  refine lv_aload_n hx hb dX6_init_17 rfl (lv_at hl 0 rfl) ?_
  refine z_iconst hx hb dX6_init_18 ?_
  refine va_put hx hb hts hinX6 tyX6 tyX6_ok nmX6 hown hK hP hD hS 0 rfl rfl 2 (by decide) k7 (fun _ h => h) rfl (tyX6_ok 2 (by decide)) rfl rfl (Nat.le_of_ble_eq_true rfl) dX6_init_19 (fun H locs hP hD hS => ?_)
  have hP : va_P D vwCl [(o1, .inr (5, [.ref q_1, zi 1, zi 1, zi 0, zi 0])), (q_1, .inl (y 0, 36, .inl (cI (fun _ => 0))))] H := hP
  have hD : va_D A [(o1, .inr (5, [.ref q_1, zi 1, zi 1, zi 0, zi 0])), (q_1, .inl (y 0, 36, .inl (cI (fun _ => 0))))] := hD
  refine lv_aload_n hx hb dX6_init_22 rfl (lv_at hl 0 rfl) ?_
  refine z_iconst hx hb dX6_init_23 ?_
  refine va_put hx hb hts hinX6 tyX6 tyX6_ok nmX6 hown hK hP hD hS 0 rfl rfl 3 (by decide) k8 (fun _ h => h) rfl (tyX6_ok 3 (by decide)) rfl rfl (Nat.le_of_ble_eq_true rfl) dX6_init_24 (fun H locs hP hD hS => ?_)
  have hP : va_P D vwCl [(o1, .inr (5, [.ref q_1, zi 1, zi 1, zi 3, zi 0])), (q_1, .inl (y 0, 36, .inl (cI (fun _ => 0))))] H := hP
  have hD : va_D A [(o1, .inr (5, [.ref q_1, zi 1, zi 1, zi 3, zi 0])), (q_1, .inl (y 0, 36, .inl (cI (fun _ => 0))))] := hD
  refine lv_aload_n hx hb dX6_init_27 rfl (lv_at hl 0 rfl) ?_
  refine z_iconst hx hb dX6_init_28 ?_
  refine va_put hx hb hts hinX6 tyX6 tyX6_ok nmX6 hown hK hP hD hS 0 rfl rfl 4 (by decide) k9 (fun _ h => h) rfl (tyX6_ok 4 (by decide)) rfl rfl (Nat.le_of_ble_eq_true rfl) dX6_init_29 (fun H locs hP hD hS => ?_)
  have hP : va_P D vwCl [(o1, .inr (5, [.ref q_1, zi 1, zi 1, zi 3, zi 2])), (q_1, .inl (y 0, 36, .inl (cI (fun _ => 0))))] H := hP
  have hD : va_D A [(o1, .inr (5, [.ref q_1, zi 1, zi 1, zi 3, zi 2])), (q_1, .inl (y 0, 36, .inl (cI (fun _ => 0))))] := hD
  refine lv_aload_n hx hb dX6_init_32 rfl (lv_at hl 0 rfl) ?_
  refine va_get hx hb hts hinX6 hown hK hP 0 rfl rfl 0 (by decide) k5 (fun _ h => h) rfl dX6_init_33 ?_
  refine z_iconst hx hb dX6_init_36 ?_
  refine z_iconst hx hb dX6_init_37 ?_
  refine z_iast hx hb hK hP hD hS 1 0 rfl rfl (by omega) (by decide) dX6_init_38 (fun H locs hP hD hS => ?_)
  have hP : va_P D vwCl [(o1, .inr (5, [.ref q_1, zi 1, zi 1, zi 3, zi 2])), (q_1, .inl (y 0, 36, .inl (cI (iu (fun _ => 0) 0 1))))] H := hP
  have hD : va_D A [(o1, .inr (5, [.ref q_1, zi 1, zi 1, zi 3, zi 2])), (q_1, .inl (y 0, 36, .inl (cI (iu (fun _ => 0) 0 1))))] := hD
  exact z_vretW hx hb hr hlocks q_1 rfl (trivial) (hP.sub [0, 1] rfl) (hD.sub [0, 1] (by decide) rfl) hS dX6_init_39
set_option maxHeartbeats 8000000 in
set_option maxRecDepth 100000 in
theorem c_X1_init (l : Launch) (D : va_G) (y : Nat → ClassId) (o1 : Nat)  (sz : Nat) : Met l yX1_init wsX1_init ({ frames := 1, cells := 3, slots := 24, locals := 12 } : Room) (wPc D y [] [(o1, .inr (1, [zi 0, zi 0, zi 0, zi 0, zi 0, zi 0, zi 0, .null, .null, .null]))] sz [.ref o1]) (wQ D (fun (x9 : Nat × Nat × Nat) => match x9 with | (p1, p2, p3) => none) (fun (x9 : Nat × Nat × Nat) => match x9 with | (p1, p2, p3) => True) (fun (x9 : Nat × Nat × Nat) => match x9 with | (p1, p2, p3) => [(o1, .inr (1, [zi 3, zi 3, zi 1, zi 1, zi 10, zi 0, zi 0, .ref p1, .ref p2, .ref p3])), (p1, .inl (y 0, 8, .inl (cI (fun _ => 0)))), (p2, .inl (y 0, 8, .inl (cI (fun _ => 0)))), (p3, .inl (y 0, 8, .inl (cI (fun _ => 0))))]) (va_A [(o1, .inr (1, [zi 0, zi 0, zi 0, zi 0, zi 0, zi 0, zi 0, .null, .null, .null]))] sz)) 3 24 (va_A [(o1, .inr (1, [zi 0, zi 0, zi 0, zi 0, zi 0, zi 0, zi 0, .null, .null, .null]))] sz) := by
  refine W_of (own := RX1) (cc := cX1_init) (maxL := 1) (ret := none) (by decide) rfl rfl (Nat.le_of_ble_eq_true rfl) (fun p e s m below meth c ls A hx hb hr hC hlocks hin0 hR0 hN hP hD hA hG hl => ?_)
  have hC0 := hC
  obtain ⟨-, -, hml, hown, hts⟩ := hC0
  have hK := hG.1
  have hS : va_S A s.heap s.heap [] := va_S.rf
  have hPr := hR0
  have hinX1 : ∀ w ∈ wsX10, w ∈ wsX1_init := fun _ h => List.mem_cons_of_mem _ (List.mem_append_right _ h)
  have k1 := hts (.methodLink RX1 3 objectInit) (List.mem_of_getElem? (i := 1) rfl)
  have k2 := hts (.instanceMethod objectInit) (List.mem_of_getElem? (i := 2) rfl)
  have k4 := hts (.fieldLink RX1 9 "BoatsOfPaper$Boat" "l" "I") (List.mem_of_getElem? (i := 4) rfl)
  have k5 := hts (.fieldLink RX1 15 "BoatsOfPaper$Boat" "w" "I") (List.mem_of_getElem? (i := 5) rfl)
  have k6 := hts (.fieldLink RX1 18 "BoatsOfPaper$Boat" "t" "I") (List.mem_of_getElem? (i := 6) rfl)
  have k7 := hts (.fieldLink RX1 21 "BoatsOfPaper$Boat" "h" "I") (List.mem_of_getElem? (i := 7) rfl)
  have k8 := hts (.fieldLink RX1 24 "BoatsOfPaper$Boat" "drinks" "I") (List.mem_of_getElem? (i := 8) rfl)
  have k9 := hts (.fieldLink RX1 27 "BoatsOfPaper$Boat" "waxed" "I") (List.mem_of_getElem? (i := 9) rfl)
  have k10 := hts (.fieldLink RX1 30 "BoatsOfPaper$Boat" "coins" "I") (List.mem_of_getElem? (i := 10) rfl)
  have k11 := hts (.arrayClass .int) (List.mem_of_getElem? (i := 11) rfl)
  have k12 := hts (.fieldLink RX1 33 "BoatsOfPaper$Boat" "coinI" "[I") (List.mem_of_getElem? (i := 12) rfl)
  have k13 := hts (.fieldLink RX1 37 "BoatsOfPaper$Boat" "coinJ" "[I") (List.mem_of_getElem? (i := 13) rfl)
  have k14 := hts (.fieldLink RX1 40 "BoatsOfPaper$Boat" "coinWeight" "[I") (List.mem_of_getElem? (i := 14) rfl)
  have hl : lv_has ls 1 [(0, .ref o1)] := hl
  refine lv_aload_n hx hb dX1_init_0 rfl (lv_at hl 0 rfl) ?_
  refine W.objInit hx hb hown k1 k2 (hts _ (List.mem_of_getElem? (i := 3) rfl)) rfl (by rw [hml]; exact hl.1) rfl dX1_init_1 (Nat.le_of_ble_eq_true rfl) (Nat.le_of_ble_eq_true rfl) ?_
  refine W.eq (g2 := F0 m 4 ls []) rfl ?_
  refine lv_aload_n hx hb dX1_init_4 rfl (lv_at hl 0 rfl) ?_
  refine z_iconst hx hb dX1_init_5 ?_
  refine va_put hx hb hts hinX1 tyX1 tyX1_ok nmX1 hown hK hP hD hS 0 rfl rfl 0 (by decide) k4 (fun _ h => h) rfl (tyX1_ok 0 (by decide)) rfl rfl (Nat.le_of_ble_eq_true rfl) dX1_init_6 (fun H locs hP hD hS => ?_)
  have hP : va_P D vwCl [(o1, .inr (1, [zi 3, zi 0, zi 0, zi 0, zi 0, zi 0, zi 0, .null, .null, .null]))] H := hP
  have hD : va_D A [(o1, .inr (1, [zi 3, zi 0, zi 0, zi 0, zi 0, zi 0, zi 0, .null, .null, .null]))] := hD
  refine lv_aload_n hx hb dX1_init_9 rfl (lv_at hl 0 rfl) ?_
  refine z_iconst hx hb dX1_init_10 ?_
  refine va_put hx hb hts hinX1 tyX1 tyX1_ok nmX1 hown hK hP hD hS 0 rfl rfl 1 (by decide) k5 (fun _ h => h) rfl (tyX1_ok 1 (by decide)) rfl rfl (Nat.le_of_ble_eq_true rfl) dX1_init_11 (fun H locs hP hD hS => ?_)
  have hP : va_P D vwCl [(o1, .inr (1, [zi 3, zi 3, zi 0, zi 0, zi 0, zi 0, zi 0, .null, .null, .null]))] H := hP
  have hD : va_D A [(o1, .inr (1, [zi 3, zi 3, zi 0, zi 0, zi 0, zi 0, zi 0, .null, .null, .null]))] := hD
  refine lv_aload_n hx hb dX1_init_14 rfl (lv_at hl 0 rfl) ?_
  refine z_iconst hx hb dX1_init_15 ?_
  refine va_put hx hb hts hinX1 tyX1 tyX1_ok nmX1 hown hK hP hD hS 0 rfl rfl 2 (by decide) k6 (fun _ h => h) rfl (tyX1_ok 2 (by decide)) rfl rfl (Nat.le_of_ble_eq_true rfl) dX1_init_16 (fun H locs hP hD hS => ?_)
  have hP : va_P D vwCl [(o1, .inr (1, [zi 3, zi 3, zi 1, zi 0, zi 0, zi 0, zi 0, .null, .null, .null]))] H := hP
  have hD : va_D A [(o1, .inr (1, [zi 3, zi 3, zi 1, zi 0, zi 0, zi 0, zi 0, .null, .null, .null]))] := hD
  refine lv_aload_n hx hb dX1_init_19 rfl (lv_at hl 0 rfl) ?_
  refine z_iconst hx hb dX1_init_20 ?_
  refine va_put hx hb hts hinX1 tyX1 tyX1_ok nmX1 hown hK hP hD hS 0 rfl rfl 3 (by decide) k7 (fun _ h => h) rfl (tyX1_ok 3 (by decide)) rfl rfl (Nat.le_of_ble_eq_true rfl) dX1_init_21 (fun H locs hP hD hS => ?_)
  have hP : va_P D vwCl [(o1, .inr (1, [zi 3, zi 3, zi 1, zi 1, zi 0, zi 0, zi 0, .null, .null, .null]))] H := hP
  have hD : va_D A [(o1, .inr (1, [zi 3, zi 3, zi 1, zi 1, zi 0, zi 0, zi 0, .null, .null, .null]))] := hD
  refine lv_aload_n hx hb dX1_init_24 rfl (lv_at hl 0 rfl) ?_
  refine z_bipush hx hb dX1_init_25 (by decide) ?_
  refine va_put hx hb hts hinX1 tyX1 tyX1_ok nmX1 hown hK hP hD hS 0 rfl rfl 4 (by decide) k8 (fun _ h => h) rfl (tyX1_ok 4 (by decide)) rfl rfl (Nat.le_of_ble_eq_true rfl) dX1_init_27 (fun H locs hP hD hS => ?_)
  have hP : va_P D vwCl [(o1, .inr (1, [zi 3, zi 3, zi 1, zi 1, zi 10, zi 0, zi 0, .null, .null, .null]))] H := hP
  have hD : va_D A [(o1, .inr (1, [zi 3, zi 3, zi 1, zi 1, zi 10, zi 0, zi 0, .null, .null, .null]))] := hD
  refine lv_aload_n hx hb dX1_init_30 rfl (lv_at hl 0 rfl) ?_
  refine z_iconst hx hb dX1_init_31 ?_
  refine va_put hx hb hts hinX1 tyX1 tyX1_ok nmX1 hown hK hP hD hS 0 rfl rfl 5 (by decide) k9 (fun _ h => h) rfl (tyX1_ok 5 (by decide)) rfl rfl (Nat.le_of_ble_eq_true rfl) dX1_init_32 (fun H locs hP hD hS => ?_)
  have hP : va_P D vwCl [(o1, .inr (1, [zi 3, zi 3, zi 1, zi 1, zi 10, zi 0, zi 0, .null, .null, .null]))] H := hP
  have hD : va_D A [(o1, .inr (1, [zi 3, zi 3, zi 1, zi 1, zi 10, zi 0, zi 0, .null, .null, .null]))] := hD
  refine lv_aload_n hx hb dX1_init_35 rfl (lv_at hl 0 rfl) ?_
  refine z_iconst hx hb dX1_init_36 ?_
  refine va_put hx hb hts hinX1 tyX1 tyX1_ok nmX1 hown hK hP hD hS 0 rfl rfl 6 (by decide) k10 (fun _ h => h) rfl (tyX1_ok 6 (by decide)) rfl rfl (Nat.le_of_ble_eq_true rfl) dX1_init_37 (fun H locs hP hD hS => ?_)
  have hP : va_P D vwCl [(o1, .inr (1, [zi 3, zi 3, zi 1, zi 1, zi 10, zi 0, zi 0, .null, .null, .null]))] H := hP
  have hD : va_D A [(o1, .inr (1, [zi 3, zi 3, zi 1, zi 1, zi 10, zi 0, zi 0, .null, .null, .null]))] := hD
  refine lv_aload_n hx hb dX1_init_40 rfl (lv_at hl 0 rfl) ?_
  refine z_bipush hx hb dX1_init_41 (by decide) ?_
  refine z_newa (a0 := (8, .inl (cI (fun _ => 0)))) (N := 8) (atype := .int) (ty := .int) hx hb k11 rfl hK 0 rfl hP hD hS hA (vz_I 8) (by omega) rfl (by show 8 * 4 ≤ 536870912; omega) (Nat.le_of_ble_eq_true rfl) (Nat.le_of_ble_eq_true rfl) dX1_init_43 (fun q_1 H hP hD hS => ?_)
  have hP : va_P D vwCl [(o1, .inr (1, [zi 3, zi 3, zi 1, zi 1, zi 10, zi 0, zi 0, .null, .null, .null])), (q_1, .inl (y 0, 8, .inl (cI (fun _ => 0))))] H := hP
  have hD : va_D A [(o1, .inr (1, [zi 3, zi 3, zi 1, zi 1, zi 10, zi 0, zi 0, .null, .null, .null])), (q_1, .inl (y 0, 8, .inl (cI (fun _ => 0))))] := hD
  refine va_putF hx hb hts hinX1 tyX1 tyX1_ok nmX1 hown hK hP hD hS 0 rfl rfl 7 (by decide) k12 (fun _ h => h) rfl hin0 rfl (tyX1_ok 7 (by decide)) rfl rfl (Nat.le_of_ble_eq_true rfl) dX1_init_45 (fun H locs hP hD hS => ?_)
  have hP : va_P D vwCl [(o1, .inr (1, [zi 3, zi 3, zi 1, zi 1, zi 10, zi 0, zi 0, .ref q_1, .null, .null])), (q_1, .inl (y 0, 8, .inl (cI (fun _ => 0))))] H := hP
  have hD : va_D A [(o1, .inr (1, [zi 3, zi 3, zi 1, zi 1, zi 10, zi 0, zi 0, .ref q_1, .null, .null])), (q_1, .inl (y 0, 8, .inl (cI (fun _ => 0))))] := hD
  refine lv_aload_n hx hb dX1_init_48 rfl (lv_at hl 0 rfl) ?_
  refine z_bipush hx hb dX1_init_49 (by decide) ?_
  refine z_newa (a0 := (8, .inl (cI (fun _ => 0)))) (N := 8) (atype := .int) (ty := .int) hx hb k11 rfl hK 0 rfl hP hD hS hA (vz_I 8) (by omega) rfl (by show 8 * 4 ≤ 536870912; omega) (Nat.le_of_ble_eq_true rfl) (Nat.le_of_ble_eq_true rfl) dX1_init_51 (fun q_2 H hP hD hS => ?_)
  have hP : va_P D vwCl [(o1, .inr (1, [zi 3, zi 3, zi 1, zi 1, zi 10, zi 0, zi 0, .ref q_1, .null, .null])), (q_1, .inl (y 0, 8, .inl (cI (fun _ => 0)))), (q_2, .inl (y 0, 8, .inl (cI (fun _ => 0))))] H := hP
  have hD : va_D A [(o1, .inr (1, [zi 3, zi 3, zi 1, zi 1, zi 10, zi 0, zi 0, .ref q_1, .null, .null])), (q_1, .inl (y 0, 8, .inl (cI (fun _ => 0)))), (q_2, .inl (y 0, 8, .inl (cI (fun _ => 0))))] := hD
  refine va_putF hx hb hts hinX1 tyX1 tyX1_ok nmX1 hown hK hP hD hS 0 rfl rfl 8 (by decide) k13 (fun _ h => h) rfl hin0 rfl (tyX1_ok 8 (by decide)) rfl rfl (Nat.le_of_ble_eq_true rfl) dX1_init_53 (fun H locs hP hD hS => ?_)
  have hP : va_P D vwCl [(o1, .inr (1, [zi 3, zi 3, zi 1, zi 1, zi 10, zi 0, zi 0, .ref q_1, .ref q_2, .null])), (q_1, .inl (y 0, 8, .inl (cI (fun _ => 0)))), (q_2, .inl (y 0, 8, .inl (cI (fun _ => 0))))] H := hP
  have hD : va_D A [(o1, .inr (1, [zi 3, zi 3, zi 1, zi 1, zi 10, zi 0, zi 0, .ref q_1, .ref q_2, .null])), (q_1, .inl (y 0, 8, .inl (cI (fun _ => 0)))), (q_2, .inl (y 0, 8, .inl (cI (fun _ => 0))))] := hD
  refine lv_aload_n hx hb dX1_init_56 rfl (lv_at hl 0 rfl) ?_
  refine z_bipush hx hb dX1_init_57 (by decide) ?_
  refine z_newa (a0 := (8, .inl (cI (fun _ => 0)))) (N := 8) (atype := .int) (ty := .int) hx hb k11 rfl hK 0 rfl hP hD hS hA (vz_I 8) (by omega) rfl (by show 8 * 4 ≤ 536870912; omega) (Nat.le_of_ble_eq_true rfl) (Nat.le_of_ble_eq_true rfl) dX1_init_59 (fun q_3 H hP hD hS => ?_)
  have hP : va_P D vwCl [(o1, .inr (1, [zi 3, zi 3, zi 1, zi 1, zi 10, zi 0, zi 0, .ref q_1, .ref q_2, .null])), (q_1, .inl (y 0, 8, .inl (cI (fun _ => 0)))), (q_2, .inl (y 0, 8, .inl (cI (fun _ => 0)))), (q_3, .inl (y 0, 8, .inl (cI (fun _ => 0))))] H := hP
  have hD : va_D A [(o1, .inr (1, [zi 3, zi 3, zi 1, zi 1, zi 10, zi 0, zi 0, .ref q_1, .ref q_2, .null])), (q_1, .inl (y 0, 8, .inl (cI (fun _ => 0)))), (q_2, .inl (y 0, 8, .inl (cI (fun _ => 0)))), (q_3, .inl (y 0, 8, .inl (cI (fun _ => 0))))] := hD
  refine va_putF hx hb hts hinX1 tyX1 tyX1_ok nmX1 hown hK hP hD hS 0 rfl rfl 9 (by decide) k14 (fun _ h => h) rfl hin0 rfl (tyX1_ok 9 (by decide)) rfl rfl (Nat.le_of_ble_eq_true rfl) dX1_init_61 (fun H locs hP hD hS => ?_)
  have hP : va_P D vwCl [(o1, .inr (1, [zi 3, zi 3, zi 1, zi 1, zi 10, zi 0, zi 0, .ref q_1, .ref q_2, .ref q_3])), (q_1, .inl (y 0, 8, .inl (cI (fun _ => 0)))), (q_2, .inl (y 0, 8, .inl (cI (fun _ => 0)))), (q_3, .inl (y 0, 8, .inl (cI (fun _ => 0))))] H := hP
  have hD : va_D A [(o1, .inr (1, [zi 3, zi 3, zi 1, zi 1, zi 10, zi 0, zi 0, .ref q_1, .ref q_2, .ref q_3])), (q_1, .inl (y 0, 8, .inl (cI (fun _ => 0)))), (q_2, .inl (y 0, 8, .inl (cI (fun _ => 0)))), (q_3, .inl (y 0, 8, .inl (cI (fun _ => 0))))] := hD
  exact z_vretW hx hb hr hlocks (q_1, q_2, q_3) rfl (trivial) (hP.sub [0, 1, 2, 3] rfl) (hD.sub [0, 1, 2, 3] (by decide) rfl) hS dX1_init_64
set_option maxHeartbeats 8000000 in
set_option maxRecDepth 100000 in
theorem c_X8_init (l : Launch) (D : va_G) (y : Nat → ClassId) (o1 : Nat)  (sz : Nat) : Met l yX8_init wsX8_init ({ frames := 1, cells := 2, slots := 24, locals := 12 } : Room) (wPc D y [] [(o1, .inr (7, [.null, .null, zi 0, zi 0, zi 0]))] sz [.ref o1]) (wQ D (fun (x9 : Nat × Nat) => match x9 with | (p1, p2) => none) (fun (x9 : Nat × Nat) => match x9 with | (p1, p2) => True) (fun (x9 : Nat × Nat) => match x9 with | (p1, p2) => [(o1, .inr (7, [.ref p1, .ref p2, zi 0, zi 0, zi 0])), (p1, .inl (y 0, 12, .inl (cI (fun _ => 0)))), (p2, .inl (y 2, 12, .inl (cI (fun _ => 0))))]) (va_A [(o1, .inr (7, [.null, .null, zi 0, zi 0, zi 0]))] sz)) 2 24 (va_A [(o1, .inr (7, [.null, .null, zi 0, zi 0, zi 0]))] sz) := by
  refine W_of (own := RX8) (cc := cX8_init) (maxL := 1) (ret := none) (by decide) rfl rfl (Nat.le_of_ble_eq_true rfl) (fun p e s m below meth c ls A hx hb hr hC hlocks hin0 hR0 hN hP hD hA hG hl => ?_)
  have hC0 := hC
  obtain ⟨-, -, hml, hown, hts⟩ := hC0
  have hK := hG.1
  have hS : va_S A s.heap s.heap [] := va_S.rf
  have hPr := hR0
  have hinX8 : ∀ w ∈ wsX80, w ∈ wsX8_init := fun _ h => List.mem_cons_of_mem _ (List.mem_append_right _ h)
  have k1 := hts (.methodLink RX8 3 objectInit) (List.mem_of_getElem? (i := 1) rfl)
  have k2 := hts (.instanceMethod objectInit) (List.mem_of_getElem? (i := 2) rfl)
  have k4 := hts (.arrayClass .int) (List.mem_of_getElem? (i := 4) rfl)
  have k5 := hts (.fieldLink RX8 9 "BoatsOfPaper$Runs" "lengths" "[I") (List.mem_of_getElem? (i := 5) rfl)
  have k6 := hts (.arrayClass .boolean) (List.mem_of_getElem? (i := 6) rfl)
  have k7 := hts (.fieldLink RX8 15 "BoatsOfPaper$Runs" "isRed" "[Z") (List.mem_of_getElem? (i := 7) rfl)
  have k8 := hts (.fieldLink RX8 19 "BoatsOfPaper$Runs" "size" "I") (List.mem_of_getElem? (i := 8) rfl)
  have k9 := hts (.fieldLink RX8 23 "BoatsOfPaper$Runs" "luckyDeals" "I") (List.mem_of_getElem? (i := 9) rfl)
  have k10 := hts (.fieldLink RX8 26 "BoatsOfPaper$Runs" "allDeals" "I") (List.mem_of_getElem? (i := 10) rfl)
  have hl : lv_has ls 1 [(0, .ref o1)] := hl
  refine lv_aload_n hx hb dX8_init_0 rfl (lv_at hl 0 rfl) ?_
  refine W.objInit hx hb hown k1 k2 (hts _ (List.mem_of_getElem? (i := 3) rfl)) rfl (by rw [hml]; exact hl.1) rfl dX8_init_1 (Nat.le_of_ble_eq_true rfl) (Nat.le_of_ble_eq_true rfl) ?_
  refine W.eq (g2 := F0 m 4 ls []) rfl ?_
  refine lv_aload_n hx hb dX8_init_4 rfl (lv_at hl 0 rfl) ?_
  refine z_bipush hx hb dX8_init_5 (by decide) ?_
  refine z_newa (a0 := (12, .inl (cI (fun _ => 0)))) (N := 12) (atype := .int) (ty := .int) hx hb k4 rfl hK 0 rfl hP hD hS hA (vz_I 12) (by omega) rfl (by show 12 * 4 ≤ 536870912; omega) (Nat.le_of_ble_eq_true rfl) (Nat.le_of_ble_eq_true rfl) dX8_init_7 (fun q_1 H hP hD hS => ?_)
  have hP : va_P D vwCl [(o1, .inr (7, [.null, .null, zi 0, zi 0, zi 0])), (q_1, .inl (y 0, 12, .inl (cI (fun _ => 0))))] H := hP
  have hD : va_D A [(o1, .inr (7, [.null, .null, zi 0, zi 0, zi 0])), (q_1, .inl (y 0, 12, .inl (cI (fun _ => 0))))] := hD
  refine va_putF hx hb hts hinX8 tyX8 tyX8_ok nmX8 hown hK hP hD hS 0 rfl rfl 0 (by decide) k5 (fun _ h => h) rfl hin0 rfl (tyX8_ok 0 (by decide)) rfl rfl (Nat.le_of_ble_eq_true rfl) dX8_init_9 (fun H locs hP hD hS => ?_)
  have hP : va_P D vwCl [(o1, .inr (7, [.ref q_1, .null, zi 0, zi 0, zi 0])), (q_1, .inl (y 0, 12, .inl (cI (fun _ => 0))))] H := hP
  have hD : va_D A [(o1, .inr (7, [.ref q_1, .null, zi 0, zi 0, zi 0])), (q_1, .inl (y 0, 12, .inl (cI (fun _ => 0))))] := hD
  refine lv_aload_n hx hb dX8_init_12 rfl (lv_at hl 0 rfl) ?_
  refine z_bipush hx hb dX8_init_13 (by decide) ?_
  refine z_newa (a0 := (12, .inl (cI (fun _ => 0)))) (N := 12) (atype := .boolean) (ty := .boolean) hx hb k6 rfl hK 2 rfl hP hD hS hA (vz_Z 12) (by omega) rfl (by show 12 * 1 ≤ 536870912; omega) (Nat.le_of_ble_eq_true rfl) (Nat.le_of_ble_eq_true rfl) dX8_init_15 (fun q_2 H hP hD hS => ?_)
  have hP : va_P D vwCl [(o1, .inr (7, [.ref q_1, .null, zi 0, zi 0, zi 0])), (q_1, .inl (y 0, 12, .inl (cI (fun _ => 0)))), (q_2, .inl (y 2, 12, .inl (cI (fun _ => 0))))] H := hP
  have hD : va_D A [(o1, .inr (7, [.ref q_1, .null, zi 0, zi 0, zi 0])), (q_1, .inl (y 0, 12, .inl (cI (fun _ => 0)))), (q_2, .inl (y 2, 12, .inl (cI (fun _ => 0))))] := hD
  refine va_putF hx hb hts hinX8 tyX8 tyX8_ok nmX8 hown hK hP hD hS 0 rfl rfl 1 (by decide) k7 (fun _ h => h) rfl hin0 rfl (tyX8_ok 1 (by decide)) rfl rfl (Nat.le_of_ble_eq_true rfl) dX8_init_17 (fun H locs hP hD hS => ?_)
  have hP : va_P D vwCl [(o1, .inr (7, [.ref q_1, .ref q_2, zi 0, zi 0, zi 0])), (q_1, .inl (y 0, 12, .inl (cI (fun _ => 0)))), (q_2, .inl (y 2, 12, .inl (cI (fun _ => 0))))] H := hP
  have hD : va_D A [(o1, .inr (7, [.ref q_1, .ref q_2, zi 0, zi 0, zi 0])), (q_1, .inl (y 0, 12, .inl (cI (fun _ => 0)))), (q_2, .inl (y 2, 12, .inl (cI (fun _ => 0))))] := hD
  refine lv_aload_n hx hb dX8_init_20 rfl (lv_at hl 0 rfl) ?_
  refine z_iconst hx hb dX8_init_21 ?_
  refine va_put hx hb hts hinX8 tyX8 tyX8_ok nmX8 hown hK hP hD hS 0 rfl rfl 2 (by decide) k8 (fun _ h => h) rfl (tyX8_ok 2 (by decide)) rfl rfl (Nat.le_of_ble_eq_true rfl) dX8_init_22 (fun H locs hP hD hS => ?_)
  have hP : va_P D vwCl [(o1, .inr (7, [.ref q_1, .ref q_2, zi 0, zi 0, zi 0])), (q_1, .inl (y 0, 12, .inl (cI (fun _ => 0)))), (q_2, .inl (y 2, 12, .inl (cI (fun _ => 0))))] H := hP
  have hD : va_D A [(o1, .inr (7, [.ref q_1, .ref q_2, zi 0, zi 0, zi 0])), (q_1, .inl (y 0, 12, .inl (cI (fun _ => 0)))), (q_2, .inl (y 2, 12, .inl (cI (fun _ => 0))))] := hD
  refine lv_aload_n hx hb dX8_init_25 rfl (lv_at hl 0 rfl) ?_
  refine z_iconst hx hb dX8_init_26 ?_
  refine va_put hx hb hts hinX8 tyX8 tyX8_ok nmX8 hown hK hP hD hS 0 rfl rfl 3 (by decide) k9 (fun _ h => h) rfl (tyX8_ok 3 (by decide)) rfl rfl (Nat.le_of_ble_eq_true rfl) dX8_init_27 (fun H locs hP hD hS => ?_)
  have hP : va_P D vwCl [(o1, .inr (7, [.ref q_1, .ref q_2, zi 0, zi 0, zi 0])), (q_1, .inl (y 0, 12, .inl (cI (fun _ => 0)))), (q_2, .inl (y 2, 12, .inl (cI (fun _ => 0))))] H := hP
  have hD : va_D A [(o1, .inr (7, [.ref q_1, .ref q_2, zi 0, zi 0, zi 0])), (q_1, .inl (y 0, 12, .inl (cI (fun _ => 0)))), (q_2, .inl (y 2, 12, .inl (cI (fun _ => 0))))] := hD
  refine lv_aload_n hx hb dX8_init_30 rfl (lv_at hl 0 rfl) ?_
  refine z_iconst hx hb dX8_init_31 ?_
  refine va_put hx hb hts hinX8 tyX8 tyX8_ok nmX8 hown hK hP hD hS 0 rfl rfl 4 (by decide) k10 (fun _ h => h) rfl (tyX8_ok 4 (by decide)) rfl rfl (Nat.le_of_ble_eq_true rfl) dX8_init_32 (fun H locs hP hD hS => ?_)
  have hP : va_P D vwCl [(o1, .inr (7, [.ref q_1, .ref q_2, zi 0, zi 0, zi 0])), (q_1, .inl (y 0, 12, .inl (cI (fun _ => 0)))), (q_2, .inl (y 2, 12, .inl (cI (fun _ => 0))))] H := hP
  have hD : va_D A [(o1, .inr (7, [.ref q_1, .ref q_2, zi 0, zi 0, zi 0])), (q_1, .inl (y 0, 12, .inl (cI (fun _ => 0)))), (q_2, .inl (y 2, 12, .inl (cI (fun _ => 0))))] := hD
  exact z_vretW hx hb hr hlocks (q_1, q_2) rfl (trivial) (hP.sub [0, 1, 2] rfl) (hD.sub [0, 1, 2] (by decide) rfl) hS dX8_init_35
set_option maxHeartbeats 8000000 in
set_option maxRecDepth 100000 in
theorem c_X7_init (l : Launch) (D : va_G) (y : Nat → ClassId) (o1 : Nat)  (sz : Nat) : Met l yX7_init wsX7_init ({ frames := 1, cells := 4, slots := 1024, locals := 12 } : Room) (wPc D y [] [(o1, .inr (6, [.null, .null, .null, .null]))] sz [.ref o1]) (wQ D (fun (x9 : Nat × Nat × Nat × Nat) => match x9 with | (p1, p2, p3, p4) => none) (fun (x9 : Nat × Nat × Nat × Nat) => match x9 with | (p1, p2, p3, p4) => True) (fun (x9 : Nat × Nat × Nat × Nat) => match x9 with | (p1, p2, p3, p4) => [(o1, .inr (6, [.ref p1, .ref p2, .ref p3, .ref p4])), (p1, .inl (y 0, 256, .inl (cI (fun _ => 0)))), (p2, .inl (y 0, 256, .inl (cI (fun _ => 0)))), (p3, .inl (y 0, 256, .inl (cI (fun _ => 0)))), (p4, .inl (y 0, 256, .inl (cI (fun _ => 0))))]) (va_A [(o1, .inr (6, [.null, .null, .null, .null]))] sz)) 4 1024 (va_A [(o1, .inr (6, [.null, .null, .null, .null]))] sz) := by
  refine W_of (own := RX7) (cc := cX7_init) (maxL := 1) (ret := none) (by decide) rfl rfl (Nat.le_of_ble_eq_true rfl) (fun p e s m below meth c ls A hx hb hr hC hlocks hin0 hR0 hN hP hD hA hG hl => ?_)
  have hC0 := hC
  obtain ⟨-, -, hml, hown, hts⟩ := hC0
  have hK := hG.1
  have hS : va_S A s.heap s.heap [] := va_S.rf
  have hPr := hR0
  have hinX7 : ∀ w ∈ wsX70, w ∈ wsX7_init := fun _ h => List.mem_cons_of_mem _ (List.mem_append_right _ h)
  have k1 := hts (.methodLink RX7 3 objectInit) (List.mem_of_getElem? (i := 1) rfl)
  have k2 := hts (.instanceMethod objectInit) (List.mem_of_getElem? (i := 2) rfl)
  have k4 := hts (.arrayClass .int) (List.mem_of_getElem? (i := 4) rfl)
  have k5 := hts (.fieldLink RX7 11 "BoatsOfPaper$Laying" "weights" "[I") (List.mem_of_getElem? (i := 5) rfl)
  have k6 := hts (.fieldLink RX7 15 "BoatsOfPaper$Laying" "pullsM" "[I") (List.mem_of_getElem? (i := 6) rfl)
  have k7 := hts (.fieldLink RX7 18 "BoatsOfPaper$Laying" "pullsN" "[I") (List.mem_of_getElem? (i := 7) rfl)
  have k8 := hts (.fieldLink RX7 21 "BoatsOfPaper$Laying" "ways" "[I") (List.mem_of_getElem? (i := 8) rfl)
  have hl : lv_has ls 1 [(0, .ref o1)] := hl
  refine lv_aload_n hx hb dX7_init_0 rfl (lv_at hl 0 rfl) ?_
  refine W.objInit hx hb hown k1 k2 (hts _ (List.mem_of_getElem? (i := 3) rfl)) rfl (by rw [hml]; exact hl.1) rfl dX7_init_1 (Nat.le_of_ble_eq_true rfl) (Nat.le_of_ble_eq_true rfl) ?_
  refine W.eq (g2 := F0 m 4 ls []) rfl ?_
  refine lv_aload_n hx hb dX7_init_4 rfl (lv_at hl 0 rfl) ?_
  refine z_sipush hx hb dX7_init_5 (by decide) ?_
  refine z_newa (a0 := (256, .inl (cI (fun _ => 0)))) (N := 256) (atype := .int) (ty := .int) hx hb k4 rfl hK 0 rfl hP hD hS hA (vz_I 256) (by omega) rfl (by show 256 * 4 ≤ 536870912; omega) (Nat.le_of_ble_eq_true rfl) (Nat.le_of_ble_eq_true rfl) dX7_init_8 (fun q_1 H hP hD hS => ?_)
  have hP : va_P D vwCl [(o1, .inr (6, [.null, .null, .null, .null])), (q_1, .inl (y 0, 256, .inl (cI (fun _ => 0))))] H := hP
  have hD : va_D A [(o1, .inr (6, [.null, .null, .null, .null])), (q_1, .inl (y 0, 256, .inl (cI (fun _ => 0))))] := hD
  refine va_putF hx hb hts hinX7 tyX7 tyX7_ok nmX7 hown hK hP hD hS 0 rfl rfl 0 (by decide) k5 (fun _ h => h) rfl hin0 rfl (tyX7_ok 0 (by decide)) rfl rfl (Nat.le_of_ble_eq_true rfl) dX7_init_10 (fun H locs hP hD hS => ?_)
  have hP : va_P D vwCl [(o1, .inr (6, [.ref q_1, .null, .null, .null])), (q_1, .inl (y 0, 256, .inl (cI (fun _ => 0))))] H := hP
  have hD : va_D A [(o1, .inr (6, [.ref q_1, .null, .null, .null])), (q_1, .inl (y 0, 256, .inl (cI (fun _ => 0))))] := hD
  refine lv_aload_n hx hb dX7_init_13 rfl (lv_at hl 0 rfl) ?_
  refine z_sipush hx hb dX7_init_14 (by decide) ?_
  refine z_newa (a0 := (256, .inl (cI (fun _ => 0)))) (N := 256) (atype := .int) (ty := .int) hx hb k4 rfl hK 0 rfl hP hD hS hA (vz_I 256) (by omega) rfl (by show 256 * 4 ≤ 536870912; omega) (Nat.le_of_ble_eq_true rfl) (Nat.le_of_ble_eq_true rfl) dX7_init_17 (fun q_2 H hP hD hS => ?_)
  have hP : va_P D vwCl [(o1, .inr (6, [.ref q_1, .null, .null, .null])), (q_1, .inl (y 0, 256, .inl (cI (fun _ => 0)))), (q_2, .inl (y 0, 256, .inl (cI (fun _ => 0))))] H := hP
  have hD : va_D A [(o1, .inr (6, [.ref q_1, .null, .null, .null])), (q_1, .inl (y 0, 256, .inl (cI (fun _ => 0)))), (q_2, .inl (y 0, 256, .inl (cI (fun _ => 0))))] := hD
  refine va_putF hx hb hts hinX7 tyX7 tyX7_ok nmX7 hown hK hP hD hS 0 rfl rfl 1 (by decide) k6 (fun _ h => h) rfl hin0 rfl (tyX7_ok 1 (by decide)) rfl rfl (Nat.le_of_ble_eq_true rfl) dX7_init_19 (fun H locs hP hD hS => ?_)
  have hP : va_P D vwCl [(o1, .inr (6, [.ref q_1, .ref q_2, .null, .null])), (q_1, .inl (y 0, 256, .inl (cI (fun _ => 0)))), (q_2, .inl (y 0, 256, .inl (cI (fun _ => 0))))] H := hP
  have hD : va_D A [(o1, .inr (6, [.ref q_1, .ref q_2, .null, .null])), (q_1, .inl (y 0, 256, .inl (cI (fun _ => 0)))), (q_2, .inl (y 0, 256, .inl (cI (fun _ => 0))))] := hD
  refine lv_aload_n hx hb dX7_init_22 rfl (lv_at hl 0 rfl) ?_
  refine z_sipush hx hb dX7_init_23 (by decide) ?_
  refine z_newa (a0 := (256, .inl (cI (fun _ => 0)))) (N := 256) (atype := .int) (ty := .int) hx hb k4 rfl hK 0 rfl hP hD hS hA (vz_I 256) (by omega) rfl (by show 256 * 4 ≤ 536870912; omega) (Nat.le_of_ble_eq_true rfl) (Nat.le_of_ble_eq_true rfl) dX7_init_26 (fun q_3 H hP hD hS => ?_)
  have hP : va_P D vwCl [(o1, .inr (6, [.ref q_1, .ref q_2, .null, .null])), (q_1, .inl (y 0, 256, .inl (cI (fun _ => 0)))), (q_2, .inl (y 0, 256, .inl (cI (fun _ => 0)))), (q_3, .inl (y 0, 256, .inl (cI (fun _ => 0))))] H := hP
  have hD : va_D A [(o1, .inr (6, [.ref q_1, .ref q_2, .null, .null])), (q_1, .inl (y 0, 256, .inl (cI (fun _ => 0)))), (q_2, .inl (y 0, 256, .inl (cI (fun _ => 0)))), (q_3, .inl (y 0, 256, .inl (cI (fun _ => 0))))] := hD
  refine va_putF hx hb hts hinX7 tyX7 tyX7_ok nmX7 hown hK hP hD hS 0 rfl rfl 2 (by decide) k7 (fun _ h => h) rfl hin0 rfl (tyX7_ok 2 (by decide)) rfl rfl (Nat.le_of_ble_eq_true rfl) dX7_init_28 (fun H locs hP hD hS => ?_)
  have hP : va_P D vwCl [(o1, .inr (6, [.ref q_1, .ref q_2, .ref q_3, .null])), (q_1, .inl (y 0, 256, .inl (cI (fun _ => 0)))), (q_2, .inl (y 0, 256, .inl (cI (fun _ => 0)))), (q_3, .inl (y 0, 256, .inl (cI (fun _ => 0))))] H := hP
  have hD : va_D A [(o1, .inr (6, [.ref q_1, .ref q_2, .ref q_3, .null])), (q_1, .inl (y 0, 256, .inl (cI (fun _ => 0)))), (q_2, .inl (y 0, 256, .inl (cI (fun _ => 0)))), (q_3, .inl (y 0, 256, .inl (cI (fun _ => 0))))] := hD
  refine lv_aload_n hx hb dX7_init_31 rfl (lv_at hl 0 rfl) ?_
  refine z_sipush hx hb dX7_init_32 (by decide) ?_
  refine z_newa (a0 := (256, .inl (cI (fun _ => 0)))) (N := 256) (atype := .int) (ty := .int) hx hb k4 rfl hK 0 rfl hP hD hS hA (vz_I 256) (by omega) rfl (by show 256 * 4 ≤ 536870912; omega) (Nat.le_of_ble_eq_true rfl) (Nat.le_of_ble_eq_true rfl) dX7_init_35 (fun q_4 H hP hD hS => ?_)
  have hP : va_P D vwCl [(o1, .inr (6, [.ref q_1, .ref q_2, .ref q_3, .null])), (q_1, .inl (y 0, 256, .inl (cI (fun _ => 0)))), (q_2, .inl (y 0, 256, .inl (cI (fun _ => 0)))), (q_3, .inl (y 0, 256, .inl (cI (fun _ => 0)))), (q_4, .inl (y 0, 256, .inl (cI (fun _ => 0))))] H := hP
  have hD : va_D A [(o1, .inr (6, [.ref q_1, .ref q_2, .ref q_3, .null])), (q_1, .inl (y 0, 256, .inl (cI (fun _ => 0)))), (q_2, .inl (y 0, 256, .inl (cI (fun _ => 0)))), (q_3, .inl (y 0, 256, .inl (cI (fun _ => 0)))), (q_4, .inl (y 0, 256, .inl (cI (fun _ => 0))))] := hD
  refine va_putF hx hb hts hinX7 tyX7 tyX7_ok nmX7 hown hK hP hD hS 0 rfl rfl 3 (by decide) k8 (fun _ h => h) rfl hin0 rfl (tyX7_ok 3 (by decide)) rfl rfl (Nat.le_of_ble_eq_true rfl) dX7_init_37 (fun H locs hP hD hS => ?_)
  have hP : va_P D vwCl [(o1, .inr (6, [.ref q_1, .ref q_2, .ref q_3, .ref q_4])), (q_1, .inl (y 0, 256, .inl (cI (fun _ => 0)))), (q_2, .inl (y 0, 256, .inl (cI (fun _ => 0)))), (q_3, .inl (y 0, 256, .inl (cI (fun _ => 0)))), (q_4, .inl (y 0, 256, .inl (cI (fun _ => 0))))] H := hP
  have hD : va_D A [(o1, .inr (6, [.ref q_1, .ref q_2, .ref q_3, .ref q_4])), (q_1, .inl (y 0, 256, .inl (cI (fun _ => 0)))), (q_2, .inl (y 0, 256, .inl (cI (fun _ => 0)))), (q_3, .inl (y 0, 256, .inl (cI (fun _ => 0)))), (q_4, .inl (y 0, 256, .inl (cI (fun _ => 0))))] := hD
  exact z_vretW hx hb hr hlocks (q_1, q_2, q_3, q_4) rfl (trivial) (hP.sub [0, 1, 2, 3, 4] rfl) (hD.sub [0, 1, 2, 3, 4] (by decide) rfl) hS dX7_init_40
set_option maxHeartbeats 8000000 in
set_option maxRecDepth 100000 in
theorem c_X3_init (l : Launch) (D : va_G) (y : Nat → ClassId) (o1 : Nat)  (sz : Nat) : Met l yX3_init wsX3_init ({ frames := 1, cells := 1, slots := 12, locals := 12 } : Room) (wPc D y [] [(o1, .inr (3, [.null, zl 0]))] sz [.ref o1]) (wQ D (fun (p1 : Nat) => none) (fun (p1 : Nat) => True) (fun (p1 : Nat) => [(o1, .inr (3, [.ref p1, zl 0])), (p1, .inl (y 1, 12, .inr (.inl (cL (fun _ => 0)))))]) (va_A [(o1, .inr (3, [.null, zl 0]))] sz)) 1 12 (va_A [(o1, .inr (3, [.null, zl 0]))] sz) := by
  refine W_of (own := RX3) (cc := cX3_init) (maxL := 1) (ret := none) (by decide) rfl rfl (Nat.le_of_ble_eq_true rfl) (fun p e s m below meth c ls A hx hb hr hC hlocks hin0 hR0 hN hP hD hA hG hl => ?_)
  have hC0 := hC
  obtain ⟨-, -, hml, hown, hts⟩ := hC0
  have hK := hG.1
  have hS : va_S A s.heap s.heap [] := va_S.rf
  have hPr := hR0
  have hinX3 : ∀ w ∈ wsX30, w ∈ wsX3_init := fun _ h => List.mem_cons_of_mem _ (List.mem_append_right _ h)
  have k1 := hts (.methodLink RX3 3 objectInit) (List.mem_of_getElem? (i := 1) rfl)
  have k2 := hts (.instanceMethod objectInit) (List.mem_of_getElem? (i := 2) rfl)
  have k4 := hts (.arrayClass .long) (List.mem_of_getElem? (i := 4) rfl)
  have k5 := hts (.fieldLink RX3 9 "BoatsOfPaper$Drift" "ends" "[J") (List.mem_of_getElem? (i := 5) rfl)
  have k6 := hts (.fieldLink RX3 15 "BoatsOfPaper$Drift" "crossed" "J") (List.mem_of_getElem? (i := 6) rfl)
  have hl : lv_has ls 1 [(0, .ref o1)] := hl
  refine lv_aload_n hx hb dX3_init_0 rfl (lv_at hl 0 rfl) ?_
  refine W.objInit hx hb hown k1 k2 (hts _ (List.mem_of_getElem? (i := 3) rfl)) rfl (by rw [hml]; exact hl.1) rfl dX3_init_1 (Nat.le_of_ble_eq_true rfl) (Nat.le_of_ble_eq_true rfl) ?_
  refine W.eq (g2 := F0 m 4 ls []) rfl ?_
  refine lv_aload_n hx hb dX3_init_4 rfl (lv_at hl 0 rfl) ?_
  refine z_bipush hx hb dX3_init_5 (by decide) ?_
  refine z_newa (a0 := (12, .inr (.inl (cL (fun _ => 0))))) (N := 12) (atype := .long) (ty := .long) hx hb k4 rfl hK 1 rfl hP hD hS hA (vz_J 12) (by omega) rfl (by show 12 * 8 ≤ 536870912; omega) (Nat.le_of_ble_eq_true rfl) (Nat.le_of_ble_eq_true rfl) dX3_init_7 (fun q_1 H hP hD hS => ?_)
  have hP : va_P D vwCl [(o1, .inr (3, [.null, zl 0])), (q_1, .inl (y 1, 12, .inr (.inl (cL (fun _ => 0)))))] H := hP
  have hD : va_D A [(o1, .inr (3, [.null, zl 0])), (q_1, .inl (y 1, 12, .inr (.inl (cL (fun _ => 0)))))] := hD
  refine va_putF hx hb hts hinX3 tyX3 tyX3_ok nmX3 hown hK hP hD hS 0 rfl rfl 0 (by decide) k5 (fun _ h => h) rfl hin0 rfl (tyX3_ok 0 (by decide)) rfl rfl (Nat.le_of_ble_eq_true rfl) dX3_init_9 (fun H locs hP hD hS => ?_)
  have hP : va_P D vwCl [(o1, .inr (3, [.ref q_1, zl 0])), (q_1, .inl (y 1, 12, .inr (.inl (cL (fun _ => 0)))))] H := hP
  have hD : va_D A [(o1, .inr (3, [.ref q_1, zl 0])), (q_1, .inl (y 1, 12, .inr (.inl (cL (fun _ => 0)))))] := hD
  refine lv_aload_n hx hb dX3_init_12 rfl (lv_at hl 0 rfl) ?_
  refine lv_lconst (v := iL 0) hx hb dX3_init_13 rfl ?_
  refine va_put hx hb hts hinX3 tyX3 tyX3_ok nmX3 hown hK hP hD hS 0 rfl rfl 1 (by decide) k6 (fun _ h => h) rfl (tyX3_ok 1 (by decide)) rfl rfl (Nat.le_of_ble_eq_true rfl) dX3_init_14 (fun H locs hP hD hS => ?_)
  have hP : va_P D vwCl [(o1, .inr (3, [.ref q_1, zl 0])), (q_1, .inl (y 1, 12, .inr (.inl (cL (fun _ => 0)))))] H := hP
  have hD : va_D A [(o1, .inr (3, [.ref q_1, zl 0])), (q_1, .inl (y 1, 12, .inr (.inl (cL (fun _ => 0)))))] := hD
  exact z_vretW hx hb hr hlocks q_1 rfl (trivial) (hP.sub [0, 1] rfl) (hD.sub [0, 1] (by decide) rfl) hS dX3_init_17
set_option maxHeartbeats 8000000 in
set_option maxRecDepth 100000 in
theorem c_X0_init (l : Launch) (D : va_G) (y : Nat → ClassId) (o1 : Nat)  (sz : Nat) : Met l yX0_init wsX0_init ({ frames := 1, cells := 2, slots := 816, locals := 12 } : Room) (wPc D y [] [(o1, .inr (0, [.null, .null, zi 0]))] sz [.ref o1]) (wQ D (fun (x9 : Nat × Nat) => match x9 with | (p1, p2) => none) (fun (x9 : Nat × Nat) => match x9 with | (p1, p2) => True) (fun (x9 : Nat × Nat) => match x9 with | (p1, p2) => [(o1, .inr (0, [.ref p1, .ref p2, zi (-9)])), (p1, .inl (y 1, 408, .inr (.inl (cL (fun _ => 0))))), (p2, .inl (y 1, 408, .inr (.inl (cL (fun _ => 0)))))]) (va_A [(o1, .inr (0, [.null, .null, zi 0]))] sz)) 2 816 (va_A [(o1, .inr (0, [.null, .null, zi 0]))] sz) := by
  refine W_of (own := RX0) (cc := cX0_init) (maxL := 1) (ret := none) (by decide) rfl rfl (Nat.le_of_ble_eq_true rfl) (fun p e s m below meth c ls A hx hb hr hC hlocks hin0 hR0 hN hP hD hA hG hl => ?_)
  have hC0 := hC
  obtain ⟨-, -, hml, hown, hts⟩ := hC0
  have hK := hG.1
  have hS : va_S A s.heap s.heap [] := va_S.rf
  have hPr := hR0
  have hinX0 : ∀ w ∈ wsX00, w ∈ wsX0_init := fun _ h => List.mem_cons_of_mem _ (List.mem_append_right _ h)
  have k1 := hts (.methodLink RX0 3 objectInit) (List.mem_of_getElem? (i := 1) rfl)
  have k2 := hts (.instanceMethod objectInit) (List.mem_of_getElem? (i := 2) rfl)
  have k4 := hts (.arrayClass .long) (List.mem_of_getElem? (i := 4) rfl)
  have k5 := hts (.fieldLink RX0 11 "BoatsOfPaper$Blowing" "here" "[J") (List.mem_of_getElem? (i := 5) rfl)
  have k6 := hts (.fieldLink RX0 15 "BoatsOfPaper$Blowing" "behind" "[J") (List.mem_of_getElem? (i := 6) rfl)
  have k7 := hts (.fieldLink RX0 18 "BoatsOfPaper$Blowing" "life" "I") (List.mem_of_getElem? (i := 7) rfl)
  have hl : lv_has ls 1 [(0, .ref o1)] := hl
  refine lv_aload_n hx hb dX0_init_0 rfl (lv_at hl 0 rfl) ?_
  refine W.objInit hx hb hown k1 k2 (hts _ (List.mem_of_getElem? (i := 3) rfl)) rfl (by rw [hml]; exact hl.1) rfl dX0_init_1 (Nat.le_of_ble_eq_true rfl) (Nat.le_of_ble_eq_true rfl) ?_
  refine W.eq (g2 := F0 m 4 ls []) rfl ?_
  refine lv_aload_n hx hb dX0_init_4 rfl (lv_at hl 0 rfl) ?_
  refine z_sipush hx hb dX0_init_5 (by decide) ?_
  refine z_newa (a0 := (408, .inr (.inl (cL (fun _ => 0))))) (N := 408) (atype := .long) (ty := .long) hx hb k4 rfl hK 1 rfl hP hD hS hA (vz_J 408) (by omega) rfl (by show 408 * 8 ≤ 536870912; omega) (Nat.le_of_ble_eq_true rfl) (Nat.le_of_ble_eq_true rfl) dX0_init_8 (fun q_1 H hP hD hS => ?_)
  have hP : va_P D vwCl [(o1, .inr (0, [.null, .null, zi 0])), (q_1, .inl (y 1, 408, .inr (.inl (cL (fun _ => 0)))))] H := hP
  have hD : va_D A [(o1, .inr (0, [.null, .null, zi 0])), (q_1, .inl (y 1, 408, .inr (.inl (cL (fun _ => 0)))))] := hD
  refine va_put hx hb hts hinX0 tyX0 tyX0_ok nmX0 hown hK hP hD hS 0 rfl rfl 0 (by decide) k5 (fun _ h => h) rfl (tyX0_ok 0 (by decide)) rfl rfl (Nat.le_of_ble_eq_true rfl) dX0_init_10 (fun H locs hP hD hS => ?_)
  have hP : va_P D vwCl [(o1, .inr (0, [.ref q_1, .null, zi 0])), (q_1, .inl (y 1, 408, .inr (.inl (cL (fun _ => 0)))))] H := hP
  have hD : va_D A [(o1, .inr (0, [.ref q_1, .null, zi 0])), (q_1, .inl (y 1, 408, .inr (.inl (cL (fun _ => 0)))))] := hD
  refine lv_aload_n hx hb dX0_init_13 rfl (lv_at hl 0 rfl) ?_
  refine z_sipush hx hb dX0_init_14 (by decide) ?_
  refine z_newa (a0 := (408, .inr (.inl (cL (fun _ => 0))))) (N := 408) (atype := .long) (ty := .long) hx hb k4 rfl hK 1 rfl hP hD hS hA (vz_J 408) (by omega) rfl (by show 408 * 8 ≤ 536870912; omega) (Nat.le_of_ble_eq_true rfl) (Nat.le_of_ble_eq_true rfl) dX0_init_17 (fun q_2 H hP hD hS => ?_)
  have hP : va_P D vwCl [(o1, .inr (0, [.ref q_1, .null, zi 0])), (q_1, .inl (y 1, 408, .inr (.inl (cL (fun _ => 0))))), (q_2, .inl (y 1, 408, .inr (.inl (cL (fun _ => 0)))))] H := hP
  have hD : va_D A [(o1, .inr (0, [.ref q_1, .null, zi 0])), (q_1, .inl (y 1, 408, .inr (.inl (cL (fun _ => 0))))), (q_2, .inl (y 1, 408, .inr (.inl (cL (fun _ => 0)))))] := hD
  refine va_put hx hb hts hinX0 tyX0 tyX0_ok nmX0 hown hK hP hD hS 0 rfl rfl 1 (by decide) k6 (fun _ h => h) rfl (tyX0_ok 1 (by decide)) rfl rfl (Nat.le_of_ble_eq_true rfl) dX0_init_19 (fun H locs hP hD hS => ?_)
  have hP : va_P D vwCl [(o1, .inr (0, [.ref q_1, .ref q_2, zi 0])), (q_1, .inl (y 1, 408, .inr (.inl (cL (fun _ => 0))))), (q_2, .inl (y 1, 408, .inr (.inl (cL (fun _ => 0)))))] H := hP
  have hD : va_D A [(o1, .inr (0, [.ref q_1, .ref q_2, zi 0])), (q_1, .inl (y 1, 408, .inr (.inl (cL (fun _ => 0))))), (q_2, .inl (y 1, 408, .inr (.inl (cL (fun _ => 0)))))] := hD
  refine lv_aload_n hx hb dX0_init_22 rfl (lv_at hl 0 rfl) ?_
  refine z_bipush hx hb dX0_init_23 (by decide) ?_
  refine va_put hx hb hts hinX0 tyX0 tyX0_ok nmX0 hown hK hP hD hS 0 rfl rfl 2 (by decide) k7 (fun _ h => h) rfl (tyX0_ok 2 (by decide)) rfl rfl (Nat.le_of_ble_eq_true rfl) dX0_init_25 (fun H locs hP hD hS => ?_)
  have hP : va_P D vwCl [(o1, .inr (0, [.ref q_1, .ref q_2, zi (-9)])), (q_1, .inl (y 1, 408, .inr (.inl (cL (fun _ => 0))))), (q_2, .inl (y 1, 408, .inr (.inl (cL (fun _ => 0)))))] H := hP
  have hD : va_D A [(o1, .inr (0, [.ref q_1, .ref q_2, zi (-9)])), (q_1, .inl (y 1, 408, .inr (.inl (cL (fun _ => 0))))), (q_2, .inl (y 1, 408, .inr (.inl (cL (fun _ => 0)))))] := hD
  exact z_vretW hx hb hr hlocks (q_1, q_2) rfl (trivial) (hP.sub [0, 1, 2] rfl) (hD.sub [0, 1, 2] (by decide) rfl) hS dX0_init_28
set_option maxHeartbeats 8000000 in
set_option maxRecDepth 100000 in
theorem c_X2_init (l : Launch) (D : va_G) (y : Nat → ClassId) (o1 : Nat)  (sz : Nat) : Met l yX2_init wsX2_init ({ frames := 1, cells := 3, slots := 9, locals := 12 } : Room) (wPc D y [] [(o1, .inr (2, [.null, .null, .null, zi 0, zi 0]))] sz [.ref o1]) (wQ D (fun (x9 : Nat × Nat × Nat) => match x9 with | (p1, p2, p3) => none) (fun (x9 : Nat × Nat × Nat) => match x9 with | (p1, p2, p3) => True) (fun (x9 : Nat × Nat × Nat) => match x9 with | (p1, p2, p3) => [(o1, .inr (2, [.ref p1, .ref p2, .ref p3, zi 0, zi (-9)])), (p1, .inl (y 2, 3, .inl (cI (fun _ => 0)))), (p2, .inl (y 0, 3, .inl (cI (fun _ => 0)))), (p3, .inl (y 0, 3, .inl (cI (fun _ => 0))))]) (va_A [(o1, .inr (2, [.null, .null, .null, zi 0, zi 0]))] sz)) 3 9 (va_A [(o1, .inr (2, [.null, .null, .null, zi 0, zi 0]))] sz) := by
  refine W_of (own := RX2) (cc := cX2_init) (maxL := 1) (ret := none) (by decide) rfl rfl (Nat.le_of_ble_eq_true rfl) (fun p e s m below meth c ls A hx hb hr hC hlocks hin0 hR0 hN hP hD hA hG hl => ?_)
  have hC0 := hC
  obtain ⟨-, -, hml, hown, hts⟩ := hC0
  have hK := hG.1
  have hS : va_S A s.heap s.heap [] := va_S.rf
  have hPr := hR0
  have hinX2 : ∀ w ∈ wsX20, w ∈ wsX2_init := fun _ h => List.mem_cons_of_mem _ (List.mem_append_right _ h)
  have k1 := hts (.methodLink RX2 3 objectInit) (List.mem_of_getElem? (i := 1) rfl)
  have k2 := hts (.instanceMethod objectInit) (List.mem_of_getElem? (i := 2) rfl)
  have k4 := hts (.arrayClass .boolean) (List.mem_of_getElem? (i := 4) rfl)
  have k5 := hts (.fieldLink RX2 9 "BoatsOfPaper$Crowd" "isOpen" "[Z") (List.mem_of_getElem? (i := 5) rfl)
  have k6 := hts (.arrayClass .int) (List.mem_of_getElem? (i := 6) rfl)
  have k7 := hts (.fieldLink RX2 15 "BoatsOfPaper$Crowd" "times" "[I") (List.mem_of_getElem? (i := 7) rfl)
  have k8 := hts (.fieldLink RX2 19 "BoatsOfPaper$Crowd" "shares" "[I") (List.mem_of_getElem? (i := 8) rfl)
  have k9 := hts (.fieldLink RX2 22 "BoatsOfPaper$Crowd" "restCount" "I") (List.mem_of_getElem? (i := 9) rfl)
  have k10 := hts (.fieldLink RX2 26 "BoatsOfPaper$Crowd" "firstRest" "I") (List.mem_of_getElem? (i := 10) rfl)
  have hl : lv_has ls 1 [(0, .ref o1)] := hl
  refine lv_aload_n hx hb dX2_init_0 rfl (lv_at hl 0 rfl) ?_
  refine W.objInit hx hb hown k1 k2 (hts _ (List.mem_of_getElem? (i := 3) rfl)) rfl (by rw [hml]; exact hl.1) rfl dX2_init_1 (Nat.le_of_ble_eq_true rfl) (Nat.le_of_ble_eq_true rfl) ?_
  refine W.eq (g2 := F0 m 4 ls []) rfl ?_
  refine lv_aload_n hx hb dX2_init_4 rfl (lv_at hl 0 rfl) ?_
  refine z_iconst hx hb dX2_init_5 ?_
  refine z_newa (a0 := (3, .inl (cI (fun _ => 0)))) (N := 3) (atype := .boolean) (ty := .boolean) hx hb k4 rfl hK 2 rfl hP hD hS hA (vz_Z 3) (by omega) rfl (by show 3 * 1 ≤ 536870912; omega) (Nat.le_of_ble_eq_true rfl) (Nat.le_of_ble_eq_true rfl) dX2_init_6 (fun q_1 H hP hD hS => ?_)
  have hP : va_P D vwCl [(o1, .inr (2, [.null, .null, .null, zi 0, zi 0])), (q_1, .inl (y 2, 3, .inl (cI (fun _ => 0))))] H := hP
  have hD : va_D A [(o1, .inr (2, [.null, .null, .null, zi 0, zi 0])), (q_1, .inl (y 2, 3, .inl (cI (fun _ => 0))))] := hD
  refine va_putF hx hb hts hinX2 tyX2 tyX2_ok nmX2 hown hK hP hD hS 0 rfl rfl 0 (by decide) k5 (fun _ h => h) rfl hin0 rfl (tyX2_ok 0 (by decide)) rfl rfl (Nat.le_of_ble_eq_true rfl) dX2_init_8 (fun H locs hP hD hS => ?_)
  have hP : va_P D vwCl [(o1, .inr (2, [.ref q_1, .null, .null, zi 0, zi 0])), (q_1, .inl (y 2, 3, .inl (cI (fun _ => 0))))] H := hP
  have hD : va_D A [(o1, .inr (2, [.ref q_1, .null, .null, zi 0, zi 0])), (q_1, .inl (y 2, 3, .inl (cI (fun _ => 0))))] := hD
  refine lv_aload_n hx hb dX2_init_11 rfl (lv_at hl 0 rfl) ?_
  refine z_iconst hx hb dX2_init_12 ?_
  refine z_newa (a0 := (3, .inl (cI (fun _ => 0)))) (N := 3) (atype := .int) (ty := .int) hx hb k6 rfl hK 0 rfl hP hD hS hA (vz_I 3) (by omega) rfl (by show 3 * 4 ≤ 536870912; omega) (Nat.le_of_ble_eq_true rfl) (Nat.le_of_ble_eq_true rfl) dX2_init_13 (fun q_2 H hP hD hS => ?_)
  have hP : va_P D vwCl [(o1, .inr (2, [.ref q_1, .null, .null, zi 0, zi 0])), (q_1, .inl (y 2, 3, .inl (cI (fun _ => 0)))), (q_2, .inl (y 0, 3, .inl (cI (fun _ => 0))))] H := hP
  have hD : va_D A [(o1, .inr (2, [.ref q_1, .null, .null, zi 0, zi 0])), (q_1, .inl (y 2, 3, .inl (cI (fun _ => 0)))), (q_2, .inl (y 0, 3, .inl (cI (fun _ => 0))))] := hD
  refine va_putF hx hb hts hinX2 tyX2 tyX2_ok nmX2 hown hK hP hD hS 0 rfl rfl 1 (by decide) k7 (fun _ h => h) rfl hin0 rfl (tyX2_ok 1 (by decide)) rfl rfl (Nat.le_of_ble_eq_true rfl) dX2_init_15 (fun H locs hP hD hS => ?_)
  have hP : va_P D vwCl [(o1, .inr (2, [.ref q_1, .ref q_2, .null, zi 0, zi 0])), (q_1, .inl (y 2, 3, .inl (cI (fun _ => 0)))), (q_2, .inl (y 0, 3, .inl (cI (fun _ => 0))))] H := hP
  have hD : va_D A [(o1, .inr (2, [.ref q_1, .ref q_2, .null, zi 0, zi 0])), (q_1, .inl (y 2, 3, .inl (cI (fun _ => 0)))), (q_2, .inl (y 0, 3, .inl (cI (fun _ => 0))))] := hD
  refine lv_aload_n hx hb dX2_init_18 rfl (lv_at hl 0 rfl) ?_
  refine z_iconst hx hb dX2_init_19 ?_
  refine z_newa (a0 := (3, .inl (cI (fun _ => 0)))) (N := 3) (atype := .int) (ty := .int) hx hb k6 rfl hK 0 rfl hP hD hS hA (vz_I 3) (by omega) rfl (by show 3 * 4 ≤ 536870912; omega) (Nat.le_of_ble_eq_true rfl) (Nat.le_of_ble_eq_true rfl) dX2_init_20 (fun q_3 H hP hD hS => ?_)
  have hP : va_P D vwCl [(o1, .inr (2, [.ref q_1, .ref q_2, .null, zi 0, zi 0])), (q_1, .inl (y 2, 3, .inl (cI (fun _ => 0)))), (q_2, .inl (y 0, 3, .inl (cI (fun _ => 0)))), (q_3, .inl (y 0, 3, .inl (cI (fun _ => 0))))] H := hP
  have hD : va_D A [(o1, .inr (2, [.ref q_1, .ref q_2, .null, zi 0, zi 0])), (q_1, .inl (y 2, 3, .inl (cI (fun _ => 0)))), (q_2, .inl (y 0, 3, .inl (cI (fun _ => 0)))), (q_3, .inl (y 0, 3, .inl (cI (fun _ => 0))))] := hD
  refine va_putF hx hb hts hinX2 tyX2 tyX2_ok nmX2 hown hK hP hD hS 0 rfl rfl 2 (by decide) k8 (fun _ h => h) rfl hin0 rfl (tyX2_ok 2 (by decide)) rfl rfl (Nat.le_of_ble_eq_true rfl) dX2_init_22 (fun H locs hP hD hS => ?_)
  have hP : va_P D vwCl [(o1, .inr (2, [.ref q_1, .ref q_2, .ref q_3, zi 0, zi 0])), (q_1, .inl (y 2, 3, .inl (cI (fun _ => 0)))), (q_2, .inl (y 0, 3, .inl (cI (fun _ => 0)))), (q_3, .inl (y 0, 3, .inl (cI (fun _ => 0))))] H := hP
  have hD : va_D A [(o1, .inr (2, [.ref q_1, .ref q_2, .ref q_3, zi 0, zi 0])), (q_1, .inl (y 2, 3, .inl (cI (fun _ => 0)))), (q_2, .inl (y 0, 3, .inl (cI (fun _ => 0)))), (q_3, .inl (y 0, 3, .inl (cI (fun _ => 0))))] := hD
  refine lv_aload_n hx hb dX2_init_25 rfl (lv_at hl 0 rfl) ?_
  refine z_iconst hx hb dX2_init_26 ?_
  refine va_put hx hb hts hinX2 tyX2 tyX2_ok nmX2 hown hK hP hD hS 0 rfl rfl 3 (by decide) k9 (fun _ h => h) rfl (tyX2_ok 3 (by decide)) rfl rfl (Nat.le_of_ble_eq_true rfl) dX2_init_27 (fun H locs hP hD hS => ?_)
  have hP : va_P D vwCl [(o1, .inr (2, [.ref q_1, .ref q_2, .ref q_3, zi 0, zi 0])), (q_1, .inl (y 2, 3, .inl (cI (fun _ => 0)))), (q_2, .inl (y 0, 3, .inl (cI (fun _ => 0)))), (q_3, .inl (y 0, 3, .inl (cI (fun _ => 0))))] H := hP
  have hD : va_D A [(o1, .inr (2, [.ref q_1, .ref q_2, .ref q_3, zi 0, zi 0])), (q_1, .inl (y 2, 3, .inl (cI (fun _ => 0)))), (q_2, .inl (y 0, 3, .inl (cI (fun _ => 0)))), (q_3, .inl (y 0, 3, .inl (cI (fun _ => 0))))] := hD
  refine lv_aload_n hx hb dX2_init_30 rfl (lv_at hl 0 rfl) ?_
  refine z_bipush hx hb dX2_init_31 (by decide) ?_
  refine va_put hx hb hts hinX2 tyX2 tyX2_ok nmX2 hown hK hP hD hS 0 rfl rfl 4 (by decide) k10 (fun _ h => h) rfl (tyX2_ok 4 (by decide)) rfl rfl (Nat.le_of_ble_eq_true rfl) dX2_init_33 (fun H locs hP hD hS => ?_)
  have hP : va_P D vwCl [(o1, .inr (2, [.ref q_1, .ref q_2, .ref q_3, zi 0, zi (-9)])), (q_1, .inl (y 2, 3, .inl (cI (fun _ => 0)))), (q_2, .inl (y 0, 3, .inl (cI (fun _ => 0)))), (q_3, .inl (y 0, 3, .inl (cI (fun _ => 0))))] H := hP
  have hD : va_D A [(o1, .inr (2, [.ref q_1, .ref q_2, .ref q_3, zi 0, zi (-9)])), (q_1, .inl (y 2, 3, .inl (cI (fun _ => 0)))), (q_2, .inl (y 0, 3, .inl (cI (fun _ => 0)))), (q_3, .inl (y 0, 3, .inl (cI (fun _ => 0))))] := hD
  exact z_vretW hx hb hr hlocks (q_1, q_2, q_3) rfl (trivial) (hP.sub [0, 1, 2, 3] rfl) (hD.sub [0, 1, 2, 3] (by decide) rfl) hS dX2_init_36
set_option maxHeartbeats 8000000 in
set_option maxRecDepth 100000 in
theorem c_X4_init (l : Launch) (D : va_G) (y : Nat → ClassId) (o1 : Nat)  (sz : Nat) : Met l yX4_init wsX4_init ({ frames := 2, cells := 25, slots := 210, locals := 32 } : Room) (wPc D y [] [(o1, .inr (4, [.null, zi 0]))] sz [.ref o1]) (wQ D (fun (x9 : Nat × (Nat → Option Nat) × Nat × Nat × Nat × Nat × Nat × Nat × Nat × Nat × Nat × Nat × Nat × Nat × Nat × Nat × Nat × Nat × Nat × Nat × Nat × Nat × Nat × Nat × Nat × Nat) => match x9 with | (p1, fr2, h0, i0, j0, k0, h1, i1, j1, k1, h2, i2, j2, k2, h3, i3, j3, k3, h4, i4, j4, k4, h5, i5, j5, k5) => none) (fun (x9 : Nat × (Nat → Option Nat) × Nat × Nat × Nat × Nat × Nat × Nat × Nat × Nat × Nat × Nat × Nat × Nat × Nat × Nat × Nat × Nat × Nat × Nat × Nat × Nat × Nat × Nat × Nat × Nat) => match x9 with | (p1, fr2, h0, i0, j0, k0, h1, i1, j1, k1, h2, i2, j2, k2, h3, i3, j3, k3, h4, i4, j4, k4, h5, i5, j5, k5) => fr2 0 = some h0 ∧ fr2 1 = some h1 ∧ fr2 2 = some h2 ∧ fr2 3 = some h3 ∧ fr2 4 = some h4 ∧ fr2 5 = some h5) (fun (x9 : Nat × (Nat → Option Nat) × Nat × Nat × Nat × Nat × Nat × Nat × Nat × Nat × Nat × Nat × Nat × Nat × Nat × Nat × Nat × Nat × Nat × Nat × Nat × Nat × Nat × Nat × Nat × Nat) => match x9 with | (p1, fr2, h0, i0, j0, k0, h1, i1, j1, k1, h2, i2, j2, k2, h3, i3, j3, k3, h4, i4, j4, k4, h5, i5, j5, k5) => [(o1, .inr (4, [.ref p1, zi 0])), (p1, .inl (y 3, 6, .inr (.inr (.inr (.inr fr2))))), (h0, .inr (1, [zi 3, zi 3, zi 1, zi 1, zi 10, zi 0, zi 0, .ref i0, .ref j0, .ref k0])), (i0, .inl (y 0, 8, .inl (cI (fun _ => 0)))), (j0, .inl (y 0, 8, .inl (cI (fun _ => 0)))), (k0, .inl (y 0, 8, .inl (cI (fun _ => 0)))), (h1, .inr (1, [zi 3, zi 3, zi 1, zi 1, zi 10, zi 0, zi 0, .ref i1, .ref j1, .ref k1])), (i1, .inl (y 0, 8, .inl (cI (fun _ => 0)))), (j1, .inl (y 0, 8, .inl (cI (fun _ => 0)))), (k1, .inl (y 0, 8, .inl (cI (fun _ => 0)))), (h2, .inr (1, [zi 3, zi 3, zi 1, zi 1, zi 10, zi 0, zi 0, .ref i2, .ref j2, .ref k2])), (i2, .inl (y 0, 8, .inl (cI (fun _ => 0)))), (j2, .inl (y 0, 8, .inl (cI (fun _ => 0)))), (k2, .inl (y 0, 8, .inl (cI (fun _ => 0)))), (h3, .inr (1, [zi 3, zi 3, zi 1, zi 1, zi 10, zi 0, zi 0, .ref i3, .ref j3, .ref k3])), (i3, .inl (y 0, 8, .inl (cI (fun _ => 0)))), (j3, .inl (y 0, 8, .inl (cI (fun _ => 0)))), (k3, .inl (y 0, 8, .inl (cI (fun _ => 0)))), (h4, .inr (1, [zi 3, zi 3, zi 1, zi 1, zi 10, zi 0, zi 0, .ref i4, .ref j4, .ref k4])), (i4, .inl (y 0, 8, .inl (cI (fun _ => 0)))), (j4, .inl (y 0, 8, .inl (cI (fun _ => 0)))), (k4, .inl (y 0, 8, .inl (cI (fun _ => 0)))), (h5, .inr (1, [zi 3, zi 3, zi 1, zi 1, zi 10, zi 0, zi 0, .ref i5, .ref j5, .ref k5])), (i5, .inl (y 0, 8, .inl (cI (fun _ => 0)))), (j5, .inl (y 0, 8, .inl (cI (fun _ => 0)))), (k5, .inl (y 0, 8, .inl (cI (fun _ => 0))))]) (va_A [(o1, .inr (4, [.null, zi 0]))] sz)) 25 210 (va_A [(o1, .inr (4, [.null, zi 0]))] sz) := by
  refine W_of (own := RX4) (cc := cX4_init) (maxL := 2) (ret := none) (by decide) rfl rfl (Nat.le_of_ble_eq_true rfl) (fun p e s m below meth c ls A hx hb hr hC hlocks hin0 hR0 hN hP hD hA hG hl => ?_)
  have hC0 := hC
  obtain ⟨-, -, hml, hown, hts⟩ := hC0
  have hK := hG.1
  have hS : va_S A s.heap s.heap [] := va_S.rf
  have hPr := hR0
  have hinX4 : ∀ w ∈ wsX40, w ∈ wsX4_init := fun _ h => List.mem_cons_of_mem _ (List.mem_append_left _ (List.mem_append_right _ h))
  have hinX1 : ∀ w ∈ wsX10, w ∈ wsX4_init := fun _ h => List.mem_cons_of_mem _ (List.mem_append_right _ h)
  have k1 := hts (.methodLink RX4 3 objectInit) (List.mem_of_getElem? (i := 1) rfl)
  have k2 := hts (.instanceMethod objectInit) (List.mem_of_getElem? (i := 2) rfl)
  have k4 := hts (.classLink RX4 9 RX1) (List.mem_of_getElem? (i := 4) rfl)
  have k5 := hts (.fieldLink RX4 11 "BoatsOfPaper$Fleet" "boats" "[LBoatsOfPaper$Boat;") (List.mem_of_getElem? (i := 5) rfl)
  have k6 := hts (.fieldLink RX4 17 "BoatsOfPaper$Fleet" "size" "I") (List.mem_of_getElem? (i := 6) rfl)
  have k7 := hts (.instantiable RX1 10) (List.mem_of_getElem? (i := 7) rfl)
  have k8 := hts (.initialized RX1) (List.mem_of_getElem? (i := 8) rfl)
  have k9 := hts (.instanceMethod yX1_init) (List.mem_of_getElem? (i := 9) rfl)
  have hl : lv_has ls 2 [(0, .ref o1)] := hl
  refine lv_aload_n hx hb dX4_init_0 rfl (lv_at hl 0 rfl) ?_
  refine W.objInit hx hb hown k1 k2 (hts _ (List.mem_of_getElem? (i := 3) rfl)) rfl (by rw [hml]; exact hl.1) rfl dX4_init_1 (Nat.le_of_ble_eq_true rfl) (Nat.le_of_ble_eq_true rfl) ?_
  refine W.eq (g2 := F0 m 4 ls []) rfl ?_
  refine lv_aload_n hx hb dX4_init_4 rfl (lv_at hl 0 rfl) ?_
  refine z_bipush hx hb dX4_init_5 (by decide) ?_
  refine z_newq (N := 6) hx hb hown k4 hG.2.2.1 hK 3 rfl hP hD hS hA (by omega) rfl (by omega) (Nat.le_of_ble_eq_true rfl) (Nat.le_of_ble_eq_true rfl) dX4_init_7 (fun q_1 H hP hD hS => ?_)
  have hP : va_P D vwCl [(o1, .inr (4, [.null, zi 0])), (q_1, .inl (y 3, 6, .inr (.inr (.inr (.inr (fun _ => none))))))] H := hP
  have hD : va_D A [(o1, .inr (4, [.null, zi 0])), (q_1, .inl (y 3, 6, .inr (.inr (.inr (.inr (fun _ => none))))))] := hD
  refine va_putF hx hb hts hinX4 tyX4 tyX4_ok nmX4 hown hK hP hD hS 0 rfl rfl 0 (by decide) k5 (fun _ h => h) rfl hin0 rfl (tyX4_ok 0 (by decide)) rfl rfl (Nat.le_of_ble_eq_true rfl) dX4_init_10 (fun H locs hP hD hS => ?_)
  have hP : va_P D vwCl [(o1, .inr (4, [.ref q_1, zi 0])), (q_1, .inl (y 3, 6, .inr (.inr (.inr (.inr (fun _ => none))))))] H := hP
  have hD : va_D A [(o1, .inr (4, [.ref q_1, zi 0])), (q_1, .inl (y 3, 6, .inr (.inr (.inr (.inr (fun _ => none))))))] := hD
  refine lv_aload_n hx hb dX4_init_13 rfl (lv_at hl 0 rfl) ?_
  refine z_iconst hx hb dX4_init_14 ?_
  refine va_put hx hb hts hinX4 tyX4 tyX4_ok nmX4 hown hK hP hD hS 0 rfl rfl 1 (by decide) k6 (fun _ h => h) rfl (tyX4_ok 1 (by decide)) rfl rfl (Nat.le_of_ble_eq_true rfl) dX4_init_15 (fun H locs hP hD hS => ?_)
  have hP : va_P D vwCl [(o1, .inr (4, [.ref q_1, zi 0])), (q_1, .inl (y 3, 6, .inr (.inr (.inr (.inr (fun _ => none))))))] H := hP
  have hD : va_D A [(o1, .inr (4, [.ref q_1, zi 0])), (q_1, .inl (y 3, 6, .inr (.inr (.inr (.inr (fun _ => none))))))] := hD
  refine z_iconst hx hb dX4_init_18 ?_
  refine lv_istore_n (lv' := [(1, zi 0), (0, .ref o1)]) hx hb dX4_init_19 rfl hl (by decide) rfl (fun ls hl => ?_)
  refine lv_iload_n hx hb dX4_init_20 rfl (lv_at hl 0 rfl) ?_
  refine lv_aload_n hx hb dX4_init_21 rfl (lv_at hl 1 rfl) ?_
  refine va_get hx hb hts hinX4 hown hK hP 0 rfl rfl 0 (by decide) k5 (fun _ h => h) rfl dX4_init_22 ?_
  refine va_alen (v := iI 6) hx hb hK hP 1 3 rfl rfl rfl dX4_init_25 ?_
  refine z_icmp_ge (tgt := 48) hx hb (by omega) (by omega) dX4_init_26 (by decide) (fun c_26 => ?_) (fun c_26 => ?_)
  · exfalso; omega
  ·
    refine lv_aload_n hx hb dX4_init_29 rfl (lv_at hl 1 rfl) ?_
    refine va_get hx hb hts hinX4 hown hK hP 0 rfl rfl 0 (by decide) k5 (fun _ h => h) rfl dX4_init_30 ?_
    refine lv_iload_n hx hb dX4_init_33 rfl (lv_at hl 0 rfl) ?_
    refine va_new (ci := 1) (fs := [zi 0, zi 0, zi 0, zi 0, zi 0, zi 0, zi 0, .null, .null, .null]) (C := RX1) (T := TX1) (N := 10) hx hb hts hinX1 tyX1 tyX1_ok hown k4 k7 k8 hK hP hD hS hA rfl (fun j hj => by rcases (show j = 0 ∨ j = 1 ∨ j = 2 ∨ j = 3 ∨ j = 4 ∨ j = 5 ∨ j = 6 ∨ j = 7 ∨ j = 8 ∨ j = 9 by omega) with rfl | rfl | rfl | rfl | rfl | rfl | rfl | rfl | rfl | rfl <;> rfl) (Nat.le_of_ble_eq_true rfl) (Nat.le_of_ble_eq_true rfl) dX4_init_34 (fun q_2 H hP hD hS => ?_)
    have hP : va_P D vwCl [(o1, .inr (4, [.ref q_1, zi 0])), (q_1, .inl (y 3, 6, .inr (.inr (.inr (.inr (fun _ => none)))))), (q_2, .inr (1, [zi 0, zi 0, zi 0, zi 0, zi 0, zi 0, zi 0, .null, .null, .null]))] H := hP
    have hD : va_D A [(o1, .inr (4, [.ref q_1, zi 0])), (q_1, .inl (y 3, 6, .inr (.inr (.inr (.inr (fun _ => none)))))), (q_2, .inr (1, [zi 0, zi 0, zi 0, zi 0, zi 0, zi 0, zi 0, .null, .null, .null]))] := hD
    refine lv_dup hx hb dX4_init_37 rfl ?_
    refine z_wIN (As := []) (rest := [.ref q_2, zi 0, .ref q_1]) (wc := [(q_2, .inr (1, [zi 0, zi 0, zi 0, zi 0, zi 0, zi 0, zi 0, .null, .null, .null]))]) (wrest := [(o1, .inr (4, [.ref q_1, zi 0])), (q_1, .inl (y 3, 6, .inr (.inr (.inr (.inr (fun _ => none))))))]) hC (c_X1_init l D y q_2  _) ⟨va_cnB (host := RX11) 0 hts gX4_init_X1_init_n21 rfl rfl rfl (hG.2.1 (RX4, 21, yX1_init, RX11) (by decide +kernel)) (k8) (by decide +kernel) ⟨Nat.le_of_ble_eq_true rfl, Nat.le_of_ble_eq_true rfl⟩, rfl, k9⟩ hG hP hD hS hA [2] [0, 1] rfl rfl (by decide) (by decide) (by decide) va_P_nil ro_nil rfl hl.1 rfl (Nat.le_of_ble_eq_true rfl) dX4_init_38 ⟨Nat.le_of_ble_eq_true rfl, Nat.le_of_ble_eq_true rfl⟩ (fun u9 H locs hw_6 hP hD hS => ?_)
    obtain ⟨p1_3, p2_4, p3_5⟩ := u9
    have hw_6 : True := hw_6
    have hP : va_P D vwCl [(o1, .inr (4, [.ref q_1, zi 0])), (q_1, .inl (y 3, 6, .inr (.inr (.inr (.inr (fun _ => none)))))), (q_2, .inr (1, [zi 3, zi 3, zi 1, zi 1, zi 10, zi 0, zi 0, .ref p1_3, .ref p2_4, .ref p3_5])), (p1_3, .inl (y 0, 8, .inl (cI (fun _ => 0)))), (p2_4, .inl (y 0, 8, .inl (cI (fun _ => 0)))), (p3_5, .inl (y 0, 8, .inl (cI (fun _ => 0))))] H := hP
    have hD : va_D A [(o1, .inr (4, [.ref q_1, zi 0])), (q_1, .inl (y 3, 6, .inr (.inr (.inr (.inr (fun _ => none)))))), (q_2, .inr (1, [zi 3, zi 3, zi 1, zi 1, zi 10, zi 0, zi 0, .ref p1_3, .ref p2_4, .ref p3_5])), (p1_3, .inl (y 0, 8, .inl (cI (fun _ => 0)))), (p2_4, .inl (y 0, 8, .inl (cI (fun _ => 0)))), (p3_5, .inl (y 0, 8, .inl (cI (fun _ => 0))))] := hD
    refine va_astq hx hb hK hP hD hS 1 3 2 1 rfl rfl rfl rfl (iI_in (by omega) (by decide)) dX4_init_41 (fun H locs hP hD hS => ?_)
    rw [show (iI 0).toNatClampNeg = 0 from iI_cl (i := 0) (by omega)] at hP hD
    have hP : va_P D vwCl [(o1, .inr (4, [.ref q_1, zi 0])), (q_1, .inl (y 3, 6, .inr (.inr (.inr (.inr (va_up (fun _ => none) 0 (some q_2))))))), (q_2, .inr (1, [zi 3, zi 3, zi 1, zi 1, zi 10, zi 0, zi 0, .ref p1_3, .ref p2_4, .ref p3_5])), (p1_3, .inl (y 0, 8, .inl (cI (fun _ => 0)))), (p2_4, .inl (y 0, 8, .inl (cI (fun _ => 0)))), (p3_5, .inl (y 0, 8, .inl (cI (fun _ => 0))))] H := hP
    have hD : va_D A [(o1, .inr (4, [.ref q_1, zi 0])), (q_1, .inl (y 3, 6, .inr (.inr (.inr (.inr (va_up (fun _ => none) 0 (some q_2))))))), (q_2, .inr (1, [zi 3, zi 3, zi 1, zi 1, zi 10, zi 0, zi 0, .ref p1_3, .ref p2_4, .ref p3_5])), (p1_3, .inl (y 0, 8, .inl (cI (fun _ => 0)))), (p2_4, .inl (y 0, 8, .inl (cI (fun _ => 0)))), (p3_5, .inl (y 0, 8, .inl (cI (fun _ => 0))))] := hD
    refine z_iinc (k := 0) (lv' := [(1, zi 1), (0, .ref o1)]) hx hb dX4_init_42 hl rfl (by decide) rfl (fun ls hl => ?_)
    refine lv_goto (tgt := 20) hx hb dX4_init_45 (by decide) ?_
    refine lv_iload_n hx hb dX4_init_20 rfl (lv_at hl 0 rfl) ?_
    refine lv_aload_n hx hb dX4_init_21 rfl (lv_at hl 1 rfl) ?_
    refine va_get hx hb hts hinX4 hown hK hP 0 rfl rfl 0 (by decide) k5 (fun _ h => h) rfl dX4_init_22 ?_
    refine va_alen (v := iI 6) hx hb hK hP 1 3 rfl rfl rfl dX4_init_25 ?_
    refine z_icmp_ge (tgt := 48) hx hb (by omega) (by omega) dX4_init_26 (by decide) (fun c_26 => ?_) (fun c_26 => ?_)
    · exfalso; omega
    ·
      refine lv_aload_n hx hb dX4_init_29 rfl (lv_at hl 1 rfl) ?_
      refine va_get hx hb hts hinX4 hown hK hP 0 rfl rfl 0 (by decide) k5 (fun _ h => h) rfl dX4_init_30 ?_
      refine lv_iload_n hx hb dX4_init_33 rfl (lv_at hl 0 rfl) ?_
      refine va_new (ci := 1) (fs := [zi 0, zi 0, zi 0, zi 0, zi 0, zi 0, zi 0, .null, .null, .null]) (C := RX1) (T := TX1) (N := 10) hx hb hts hinX1 tyX1 tyX1_ok hown k4 k7 k8 hK hP hD hS hA rfl (fun j hj => by rcases (show j = 0 ∨ j = 1 ∨ j = 2 ∨ j = 3 ∨ j = 4 ∨ j = 5 ∨ j = 6 ∨ j = 7 ∨ j = 8 ∨ j = 9 by omega) with rfl | rfl | rfl | rfl | rfl | rfl | rfl | rfl | rfl | rfl <;> rfl) (Nat.le_of_ble_eq_true rfl) (Nat.le_of_ble_eq_true rfl) dX4_init_34 (fun q_7 H hP hD hS => ?_)
      have hP : va_P D vwCl [(o1, .inr (4, [.ref q_1, zi 0])), (q_1, .inl (y 3, 6, .inr (.inr (.inr (.inr (va_up (fun _ => none) 0 (some q_2))))))), (q_2, .inr (1, [zi 3, zi 3, zi 1, zi 1, zi 10, zi 0, zi 0, .ref p1_3, .ref p2_4, .ref p3_5])), (p1_3, .inl (y 0, 8, .inl (cI (fun _ => 0)))), (p2_4, .inl (y 0, 8, .inl (cI (fun _ => 0)))), (p3_5, .inl (y 0, 8, .inl (cI (fun _ => 0)))), (q_7, .inr (1, [zi 0, zi 0, zi 0, zi 0, zi 0, zi 0, zi 0, .null, .null, .null]))] H := hP
      have hD : va_D A [(o1, .inr (4, [.ref q_1, zi 0])), (q_1, .inl (y 3, 6, .inr (.inr (.inr (.inr (va_up (fun _ => none) 0 (some q_2))))))), (q_2, .inr (1, [zi 3, zi 3, zi 1, zi 1, zi 10, zi 0, zi 0, .ref p1_3, .ref p2_4, .ref p3_5])), (p1_3, .inl (y 0, 8, .inl (cI (fun _ => 0)))), (p2_4, .inl (y 0, 8, .inl (cI (fun _ => 0)))), (p3_5, .inl (y 0, 8, .inl (cI (fun _ => 0)))), (q_7, .inr (1, [zi 0, zi 0, zi 0, zi 0, zi 0, zi 0, zi 0, .null, .null, .null]))] := hD
      refine lv_dup hx hb dX4_init_37 rfl ?_
      refine z_wIN (As := []) (rest := [.ref q_7, zi 1, .ref q_1]) (wc := [(q_7, .inr (1, [zi 0, zi 0, zi 0, zi 0, zi 0, zi 0, zi 0, .null, .null, .null]))]) (wrest := [(o1, .inr (4, [.ref q_1, zi 0])), (q_1, .inl (y 3, 6, .inr (.inr (.inr (.inr (va_up (fun _ => none) 0 (some q_2))))))), (q_2, .inr (1, [zi 3, zi 3, zi 1, zi 1, zi 10, zi 0, zi 0, .ref p1_3, .ref p2_4, .ref p3_5])), (p1_3, .inl (y 0, 8, .inl (cI (fun _ => 0)))), (p2_4, .inl (y 0, 8, .inl (cI (fun _ => 0)))), (p3_5, .inl (y 0, 8, .inl (cI (fun _ => 0))))]) hC (c_X1_init l D y q_7  _) ⟨va_cnB (host := RX11) 0 hts gX4_init_X1_init_n21 rfl rfl rfl (hG.2.1 (RX4, 21, yX1_init, RX11) (by decide +kernel)) (k8) (by decide +kernel) ⟨Nat.le_of_ble_eq_true rfl, Nat.le_of_ble_eq_true rfl⟩, rfl, k9⟩ hG hP hD hS hA [6] [0, 1, 2, 3, 4, 5] rfl rfl (by decide) (by decide) (by decide) va_P_nil ro_nil rfl hl.1 rfl (Nat.le_of_ble_eq_true rfl) dX4_init_38 ⟨Nat.le_of_ble_eq_true rfl, Nat.le_of_ble_eq_true rfl⟩ (fun u9 H locs hw_11 hP hD hS => ?_)
      obtain ⟨p1_8, p2_9, p3_10⟩ := u9
      have hw_11 : True := hw_11
      have hP : va_P D vwCl [(o1, .inr (4, [.ref q_1, zi 0])), (q_1, .inl (y 3, 6, .inr (.inr (.inr (.inr (va_up (fun _ => none) 0 (some q_2))))))), (q_2, .inr (1, [zi 3, zi 3, zi 1, zi 1, zi 10, zi 0, zi 0, .ref p1_3, .ref p2_4, .ref p3_5])), (p1_3, .inl (y 0, 8, .inl (cI (fun _ => 0)))), (p2_4, .inl (y 0, 8, .inl (cI (fun _ => 0)))), (p3_5, .inl (y 0, 8, .inl (cI (fun _ => 0)))), (q_7, .inr (1, [zi 3, zi 3, zi 1, zi 1, zi 10, zi 0, zi 0, .ref p1_8, .ref p2_9, .ref p3_10])), (p1_8, .inl (y 0, 8, .inl (cI (fun _ => 0)))), (p2_9, .inl (y 0, 8, .inl (cI (fun _ => 0)))), (p3_10, .inl (y 0, 8, .inl (cI (fun _ => 0))))] H := hP
      have hD : va_D A [(o1, .inr (4, [.ref q_1, zi 0])), (q_1, .inl (y 3, 6, .inr (.inr (.inr (.inr (va_up (fun _ => none) 0 (some q_2))))))), (q_2, .inr (1, [zi 3, zi 3, zi 1, zi 1, zi 10, zi 0, zi 0, .ref p1_3, .ref p2_4, .ref p3_5])), (p1_3, .inl (y 0, 8, .inl (cI (fun _ => 0)))), (p2_4, .inl (y 0, 8, .inl (cI (fun _ => 0)))), (p3_5, .inl (y 0, 8, .inl (cI (fun _ => 0)))), (q_7, .inr (1, [zi 3, zi 3, zi 1, zi 1, zi 10, zi 0, zi 0, .ref p1_8, .ref p2_9, .ref p3_10])), (p1_8, .inl (y 0, 8, .inl (cI (fun _ => 0)))), (p2_9, .inl (y 0, 8, .inl (cI (fun _ => 0)))), (p3_10, .inl (y 0, 8, .inl (cI (fun _ => 0))))] := hD
      refine va_astq hx hb hK hP hD hS 1 3 6 1 rfl rfl rfl rfl (iI_in (by omega) (by decide)) dX4_init_41 (fun H locs hP hD hS => ?_)
      rw [show (iI 1).toNatClampNeg = 1 from iI_cl (i := 1) (by omega)] at hP hD
      have hP : va_P D vwCl [(o1, .inr (4, [.ref q_1, zi 0])), (q_1, .inl (y 3, 6, .inr (.inr (.inr (.inr (va_up (va_up (fun _ => none) 0 (some q_2)) 1 (some q_7))))))), (q_2, .inr (1, [zi 3, zi 3, zi 1, zi 1, zi 10, zi 0, zi 0, .ref p1_3, .ref p2_4, .ref p3_5])), (p1_3, .inl (y 0, 8, .inl (cI (fun _ => 0)))), (p2_4, .inl (y 0, 8, .inl (cI (fun _ => 0)))), (p3_5, .inl (y 0, 8, .inl (cI (fun _ => 0)))), (q_7, .inr (1, [zi 3, zi 3, zi 1, zi 1, zi 10, zi 0, zi 0, .ref p1_8, .ref p2_9, .ref p3_10])), (p1_8, .inl (y 0, 8, .inl (cI (fun _ => 0)))), (p2_9, .inl (y 0, 8, .inl (cI (fun _ => 0)))), (p3_10, .inl (y 0, 8, .inl (cI (fun _ => 0))))] H := hP
      have hD : va_D A [(o1, .inr (4, [.ref q_1, zi 0])), (q_1, .inl (y 3, 6, .inr (.inr (.inr (.inr (va_up (va_up (fun _ => none) 0 (some q_2)) 1 (some q_7))))))), (q_2, .inr (1, [zi 3, zi 3, zi 1, zi 1, zi 10, zi 0, zi 0, .ref p1_3, .ref p2_4, .ref p3_5])), (p1_3, .inl (y 0, 8, .inl (cI (fun _ => 0)))), (p2_4, .inl (y 0, 8, .inl (cI (fun _ => 0)))), (p3_5, .inl (y 0, 8, .inl (cI (fun _ => 0)))), (q_7, .inr (1, [zi 3, zi 3, zi 1, zi 1, zi 10, zi 0, zi 0, .ref p1_8, .ref p2_9, .ref p3_10])), (p1_8, .inl (y 0, 8, .inl (cI (fun _ => 0)))), (p2_9, .inl (y 0, 8, .inl (cI (fun _ => 0)))), (p3_10, .inl (y 0, 8, .inl (cI (fun _ => 0))))] := hD
      refine z_iinc (k := 0) (lv' := [(1, zi 2), (0, .ref o1)]) hx hb dX4_init_42 hl rfl (by decide) rfl (fun ls hl => ?_)
      refine lv_goto (tgt := 20) hx hb dX4_init_45 (by decide) ?_
      refine lv_iload_n hx hb dX4_init_20 rfl (lv_at hl 0 rfl) ?_
      refine lv_aload_n hx hb dX4_init_21 rfl (lv_at hl 1 rfl) ?_
      refine va_get hx hb hts hinX4 hown hK hP 0 rfl rfl 0 (by decide) k5 (fun _ h => h) rfl dX4_init_22 ?_
      refine va_alen (v := iI 6) hx hb hK hP 1 3 rfl rfl rfl dX4_init_25 ?_
      refine z_icmp_ge (tgt := 48) hx hb (by omega) (by omega) dX4_init_26 (by decide) (fun c_26 => ?_) (fun c_26 => ?_)
      · exfalso; omega
      ·
        refine lv_aload_n hx hb dX4_init_29 rfl (lv_at hl 1 rfl) ?_
        refine va_get hx hb hts hinX4 hown hK hP 0 rfl rfl 0 (by decide) k5 (fun _ h => h) rfl dX4_init_30 ?_
        refine lv_iload_n hx hb dX4_init_33 rfl (lv_at hl 0 rfl) ?_
        refine va_new (ci := 1) (fs := [zi 0, zi 0, zi 0, zi 0, zi 0, zi 0, zi 0, .null, .null, .null]) (C := RX1) (T := TX1) (N := 10) hx hb hts hinX1 tyX1 tyX1_ok hown k4 k7 k8 hK hP hD hS hA rfl (fun j hj => by rcases (show j = 0 ∨ j = 1 ∨ j = 2 ∨ j = 3 ∨ j = 4 ∨ j = 5 ∨ j = 6 ∨ j = 7 ∨ j = 8 ∨ j = 9 by omega) with rfl | rfl | rfl | rfl | rfl | rfl | rfl | rfl | rfl | rfl <;> rfl) (Nat.le_of_ble_eq_true rfl) (Nat.le_of_ble_eq_true rfl) dX4_init_34 (fun q_12 H hP hD hS => ?_)
        have hP : va_P D vwCl [(o1, .inr (4, [.ref q_1, zi 0])), (q_1, .inl (y 3, 6, .inr (.inr (.inr (.inr (va_up (va_up (fun _ => none) 0 (some q_2)) 1 (some q_7))))))), (q_2, .inr (1, [zi 3, zi 3, zi 1, zi 1, zi 10, zi 0, zi 0, .ref p1_3, .ref p2_4, .ref p3_5])), (p1_3, .inl (y 0, 8, .inl (cI (fun _ => 0)))), (p2_4, .inl (y 0, 8, .inl (cI (fun _ => 0)))), (p3_5, .inl (y 0, 8, .inl (cI (fun _ => 0)))), (q_7, .inr (1, [zi 3, zi 3, zi 1, zi 1, zi 10, zi 0, zi 0, .ref p1_8, .ref p2_9, .ref p3_10])), (p1_8, .inl (y 0, 8, .inl (cI (fun _ => 0)))), (p2_9, .inl (y 0, 8, .inl (cI (fun _ => 0)))), (p3_10, .inl (y 0, 8, .inl (cI (fun _ => 0)))), (q_12, .inr (1, [zi 0, zi 0, zi 0, zi 0, zi 0, zi 0, zi 0, .null, .null, .null]))] H := hP
        have hD : va_D A [(o1, .inr (4, [.ref q_1, zi 0])), (q_1, .inl (y 3, 6, .inr (.inr (.inr (.inr (va_up (va_up (fun _ => none) 0 (some q_2)) 1 (some q_7))))))), (q_2, .inr (1, [zi 3, zi 3, zi 1, zi 1, zi 10, zi 0, zi 0, .ref p1_3, .ref p2_4, .ref p3_5])), (p1_3, .inl (y 0, 8, .inl (cI (fun _ => 0)))), (p2_4, .inl (y 0, 8, .inl (cI (fun _ => 0)))), (p3_5, .inl (y 0, 8, .inl (cI (fun _ => 0)))), (q_7, .inr (1, [zi 3, zi 3, zi 1, zi 1, zi 10, zi 0, zi 0, .ref p1_8, .ref p2_9, .ref p3_10])), (p1_8, .inl (y 0, 8, .inl (cI (fun _ => 0)))), (p2_9, .inl (y 0, 8, .inl (cI (fun _ => 0)))), (p3_10, .inl (y 0, 8, .inl (cI (fun _ => 0)))), (q_12, .inr (1, [zi 0, zi 0, zi 0, zi 0, zi 0, zi 0, zi 0, .null, .null, .null]))] := hD
        refine lv_dup hx hb dX4_init_37 rfl ?_
        refine z_wIN (As := []) (rest := [.ref q_12, zi 2, .ref q_1]) (wc := [(q_12, .inr (1, [zi 0, zi 0, zi 0, zi 0, zi 0, zi 0, zi 0, .null, .null, .null]))]) (wrest := [(o1, .inr (4, [.ref q_1, zi 0])), (q_1, .inl (y 3, 6, .inr (.inr (.inr (.inr (va_up (va_up (fun _ => none) 0 (some q_2)) 1 (some q_7))))))), (q_2, .inr (1, [zi 3, zi 3, zi 1, zi 1, zi 10, zi 0, zi 0, .ref p1_3, .ref p2_4, .ref p3_5])), (p1_3, .inl (y 0, 8, .inl (cI (fun _ => 0)))), (p2_4, .inl (y 0, 8, .inl (cI (fun _ => 0)))), (p3_5, .inl (y 0, 8, .inl (cI (fun _ => 0)))), (q_7, .inr (1, [zi 3, zi 3, zi 1, zi 1, zi 10, zi 0, zi 0, .ref p1_8, .ref p2_9, .ref p3_10])), (p1_8, .inl (y 0, 8, .inl (cI (fun _ => 0)))), (p2_9, .inl (y 0, 8, .inl (cI (fun _ => 0)))), (p3_10, .inl (y 0, 8, .inl (cI (fun _ => 0))))]) hC (c_X1_init l D y q_12  _) ⟨va_cnB (host := RX11) 0 hts gX4_init_X1_init_n21 rfl rfl rfl (hG.2.1 (RX4, 21, yX1_init, RX11) (by decide +kernel)) (k8) (by decide +kernel) ⟨Nat.le_of_ble_eq_true rfl, Nat.le_of_ble_eq_true rfl⟩, rfl, k9⟩ hG hP hD hS hA [10] [0, 1, 2, 3, 4, 5, 6, 7, 8, 9] rfl rfl (by decide) (by decide) (by decide) va_P_nil ro_nil rfl hl.1 rfl (Nat.le_of_ble_eq_true rfl) dX4_init_38 ⟨Nat.le_of_ble_eq_true rfl, Nat.le_of_ble_eq_true rfl⟩ (fun u9 H locs hw_16 hP hD hS => ?_)
        obtain ⟨p1_13, p2_14, p3_15⟩ := u9
        have hw_16 : True := hw_16
        have hP : va_P D vwCl [(o1, .inr (4, [.ref q_1, zi 0])), (q_1, .inl (y 3, 6, .inr (.inr (.inr (.inr (va_up (va_up (fun _ => none) 0 (some q_2)) 1 (some q_7))))))), (q_2, .inr (1, [zi 3, zi 3, zi 1, zi 1, zi 10, zi 0, zi 0, .ref p1_3, .ref p2_4, .ref p3_5])), (p1_3, .inl (y 0, 8, .inl (cI (fun _ => 0)))), (p2_4, .inl (y 0, 8, .inl (cI (fun _ => 0)))), (p3_5, .inl (y 0, 8, .inl (cI (fun _ => 0)))), (q_7, .inr (1, [zi 3, zi 3, zi 1, zi 1, zi 10, zi 0, zi 0, .ref p1_8, .ref p2_9, .ref p3_10])), (p1_8, .inl (y 0, 8, .inl (cI (fun _ => 0)))), (p2_9, .inl (y 0, 8, .inl (cI (fun _ => 0)))), (p3_10, .inl (y 0, 8, .inl (cI (fun _ => 0)))), (q_12, .inr (1, [zi 3, zi 3, zi 1, zi 1, zi 10, zi 0, zi 0, .ref p1_13, .ref p2_14, .ref p3_15])), (p1_13, .inl (y 0, 8, .inl (cI (fun _ => 0)))), (p2_14, .inl (y 0, 8, .inl (cI (fun _ => 0)))), (p3_15, .inl (y 0, 8, .inl (cI (fun _ => 0))))] H := hP
        have hD : va_D A [(o1, .inr (4, [.ref q_1, zi 0])), (q_1, .inl (y 3, 6, .inr (.inr (.inr (.inr (va_up (va_up (fun _ => none) 0 (some q_2)) 1 (some q_7))))))), (q_2, .inr (1, [zi 3, zi 3, zi 1, zi 1, zi 10, zi 0, zi 0, .ref p1_3, .ref p2_4, .ref p3_5])), (p1_3, .inl (y 0, 8, .inl (cI (fun _ => 0)))), (p2_4, .inl (y 0, 8, .inl (cI (fun _ => 0)))), (p3_5, .inl (y 0, 8, .inl (cI (fun _ => 0)))), (q_7, .inr (1, [zi 3, zi 3, zi 1, zi 1, zi 10, zi 0, zi 0, .ref p1_8, .ref p2_9, .ref p3_10])), (p1_8, .inl (y 0, 8, .inl (cI (fun _ => 0)))), (p2_9, .inl (y 0, 8, .inl (cI (fun _ => 0)))), (p3_10, .inl (y 0, 8, .inl (cI (fun _ => 0)))), (q_12, .inr (1, [zi 3, zi 3, zi 1, zi 1, zi 10, zi 0, zi 0, .ref p1_13, .ref p2_14, .ref p3_15])), (p1_13, .inl (y 0, 8, .inl (cI (fun _ => 0)))), (p2_14, .inl (y 0, 8, .inl (cI (fun _ => 0)))), (p3_15, .inl (y 0, 8, .inl (cI (fun _ => 0))))] := hD
        refine va_astq hx hb hK hP hD hS 1 3 10 1 rfl rfl rfl rfl (iI_in (by omega) (by decide)) dX4_init_41 (fun H locs hP hD hS => ?_)
        rw [show (iI 2).toNatClampNeg = 2 from iI_cl (i := 2) (by omega)] at hP hD
        have hP : va_P D vwCl [(o1, .inr (4, [.ref q_1, zi 0])), (q_1, .inl (y 3, 6, .inr (.inr (.inr (.inr (va_up (va_up (va_up (fun _ => none) 0 (some q_2)) 1 (some q_7)) 2 (some q_12))))))), (q_2, .inr (1, [zi 3, zi 3, zi 1, zi 1, zi 10, zi 0, zi 0, .ref p1_3, .ref p2_4, .ref p3_5])), (p1_3, .inl (y 0, 8, .inl (cI (fun _ => 0)))), (p2_4, .inl (y 0, 8, .inl (cI (fun _ => 0)))), (p3_5, .inl (y 0, 8, .inl (cI (fun _ => 0)))), (q_7, .inr (1, [zi 3, zi 3, zi 1, zi 1, zi 10, zi 0, zi 0, .ref p1_8, .ref p2_9, .ref p3_10])), (p1_8, .inl (y 0, 8, .inl (cI (fun _ => 0)))), (p2_9, .inl (y 0, 8, .inl (cI (fun _ => 0)))), (p3_10, .inl (y 0, 8, .inl (cI (fun _ => 0)))), (q_12, .inr (1, [zi 3, zi 3, zi 1, zi 1, zi 10, zi 0, zi 0, .ref p1_13, .ref p2_14, .ref p3_15])), (p1_13, .inl (y 0, 8, .inl (cI (fun _ => 0)))), (p2_14, .inl (y 0, 8, .inl (cI (fun _ => 0)))), (p3_15, .inl (y 0, 8, .inl (cI (fun _ => 0))))] H := hP
        have hD : va_D A [(o1, .inr (4, [.ref q_1, zi 0])), (q_1, .inl (y 3, 6, .inr (.inr (.inr (.inr (va_up (va_up (va_up (fun _ => none) 0 (some q_2)) 1 (some q_7)) 2 (some q_12))))))), (q_2, .inr (1, [zi 3, zi 3, zi 1, zi 1, zi 10, zi 0, zi 0, .ref p1_3, .ref p2_4, .ref p3_5])), (p1_3, .inl (y 0, 8, .inl (cI (fun _ => 0)))), (p2_4, .inl (y 0, 8, .inl (cI (fun _ => 0)))), (p3_5, .inl (y 0, 8, .inl (cI (fun _ => 0)))), (q_7, .inr (1, [zi 3, zi 3, zi 1, zi 1, zi 10, zi 0, zi 0, .ref p1_8, .ref p2_9, .ref p3_10])), (p1_8, .inl (y 0, 8, .inl (cI (fun _ => 0)))), (p2_9, .inl (y 0, 8, .inl (cI (fun _ => 0)))), (p3_10, .inl (y 0, 8, .inl (cI (fun _ => 0)))), (q_12, .inr (1, [zi 3, zi 3, zi 1, zi 1, zi 10, zi 0, zi 0, .ref p1_13, .ref p2_14, .ref p3_15])), (p1_13, .inl (y 0, 8, .inl (cI (fun _ => 0)))), (p2_14, .inl (y 0, 8, .inl (cI (fun _ => 0)))), (p3_15, .inl (y 0, 8, .inl (cI (fun _ => 0))))] := hD
        refine z_iinc (k := 0) (lv' := [(1, zi 3), (0, .ref o1)]) hx hb dX4_init_42 hl rfl (by decide) rfl (fun ls hl => ?_)
        refine lv_goto (tgt := 20) hx hb dX4_init_45 (by decide) ?_
        refine lv_iload_n hx hb dX4_init_20 rfl (lv_at hl 0 rfl) ?_
        refine lv_aload_n hx hb dX4_init_21 rfl (lv_at hl 1 rfl) ?_
        refine va_get hx hb hts hinX4 hown hK hP 0 rfl rfl 0 (by decide) k5 (fun _ h => h) rfl dX4_init_22 ?_
        refine va_alen (v := iI 6) hx hb hK hP 1 3 rfl rfl rfl dX4_init_25 ?_
        refine z_icmp_ge (tgt := 48) hx hb (by omega) (by omega) dX4_init_26 (by decide) (fun c_26 => ?_) (fun c_26 => ?_)
        · exfalso; omega
        ·
          refine lv_aload_n hx hb dX4_init_29 rfl (lv_at hl 1 rfl) ?_
          refine va_get hx hb hts hinX4 hown hK hP 0 rfl rfl 0 (by decide) k5 (fun _ h => h) rfl dX4_init_30 ?_
          refine lv_iload_n hx hb dX4_init_33 rfl (lv_at hl 0 rfl) ?_
          refine va_new (ci := 1) (fs := [zi 0, zi 0, zi 0, zi 0, zi 0, zi 0, zi 0, .null, .null, .null]) (C := RX1) (T := TX1) (N := 10) hx hb hts hinX1 tyX1 tyX1_ok hown k4 k7 k8 hK hP hD hS hA rfl (fun j hj => by rcases (show j = 0 ∨ j = 1 ∨ j = 2 ∨ j = 3 ∨ j = 4 ∨ j = 5 ∨ j = 6 ∨ j = 7 ∨ j = 8 ∨ j = 9 by omega) with rfl | rfl | rfl | rfl | rfl | rfl | rfl | rfl | rfl | rfl <;> rfl) (Nat.le_of_ble_eq_true rfl) (Nat.le_of_ble_eq_true rfl) dX4_init_34 (fun q_17 H hP hD hS => ?_)
          have hP : va_P D vwCl [(o1, .inr (4, [.ref q_1, zi 0])), (q_1, .inl (y 3, 6, .inr (.inr (.inr (.inr (va_up (va_up (va_up (fun _ => none) 0 (some q_2)) 1 (some q_7)) 2 (some q_12))))))), (q_2, .inr (1, [zi 3, zi 3, zi 1, zi 1, zi 10, zi 0, zi 0, .ref p1_3, .ref p2_4, .ref p3_5])), (p1_3, .inl (y 0, 8, .inl (cI (fun _ => 0)))), (p2_4, .inl (y 0, 8, .inl (cI (fun _ => 0)))), (p3_5, .inl (y 0, 8, .inl (cI (fun _ => 0)))), (q_7, .inr (1, [zi 3, zi 3, zi 1, zi 1, zi 10, zi 0, zi 0, .ref p1_8, .ref p2_9, .ref p3_10])), (p1_8, .inl (y 0, 8, .inl (cI (fun _ => 0)))), (p2_9, .inl (y 0, 8, .inl (cI (fun _ => 0)))), (p3_10, .inl (y 0, 8, .inl (cI (fun _ => 0)))), (q_12, .inr (1, [zi 3, zi 3, zi 1, zi 1, zi 10, zi 0, zi 0, .ref p1_13, .ref p2_14, .ref p3_15])), (p1_13, .inl (y 0, 8, .inl (cI (fun _ => 0)))), (p2_14, .inl (y 0, 8, .inl (cI (fun _ => 0)))), (p3_15, .inl (y 0, 8, .inl (cI (fun _ => 0)))), (q_17, .inr (1, [zi 0, zi 0, zi 0, zi 0, zi 0, zi 0, zi 0, .null, .null, .null]))] H := hP
          have hD : va_D A [(o1, .inr (4, [.ref q_1, zi 0])), (q_1, .inl (y 3, 6, .inr (.inr (.inr (.inr (va_up (va_up (va_up (fun _ => none) 0 (some q_2)) 1 (some q_7)) 2 (some q_12))))))), (q_2, .inr (1, [zi 3, zi 3, zi 1, zi 1, zi 10, zi 0, zi 0, .ref p1_3, .ref p2_4, .ref p3_5])), (p1_3, .inl (y 0, 8, .inl (cI (fun _ => 0)))), (p2_4, .inl (y 0, 8, .inl (cI (fun _ => 0)))), (p3_5, .inl (y 0, 8, .inl (cI (fun _ => 0)))), (q_7, .inr (1, [zi 3, zi 3, zi 1, zi 1, zi 10, zi 0, zi 0, .ref p1_8, .ref p2_9, .ref p3_10])), (p1_8, .inl (y 0, 8, .inl (cI (fun _ => 0)))), (p2_9, .inl (y 0, 8, .inl (cI (fun _ => 0)))), (p3_10, .inl (y 0, 8, .inl (cI (fun _ => 0)))), (q_12, .inr (1, [zi 3, zi 3, zi 1, zi 1, zi 10, zi 0, zi 0, .ref p1_13, .ref p2_14, .ref p3_15])), (p1_13, .inl (y 0, 8, .inl (cI (fun _ => 0)))), (p2_14, .inl (y 0, 8, .inl (cI (fun _ => 0)))), (p3_15, .inl (y 0, 8, .inl (cI (fun _ => 0)))), (q_17, .inr (1, [zi 0, zi 0, zi 0, zi 0, zi 0, zi 0, zi 0, .null, .null, .null]))] := hD
          refine lv_dup hx hb dX4_init_37 rfl ?_
          refine z_wIN (As := []) (rest := [.ref q_17, zi 3, .ref q_1]) (wc := [(q_17, .inr (1, [zi 0, zi 0, zi 0, zi 0, zi 0, zi 0, zi 0, .null, .null, .null]))]) (wrest := [(o1, .inr (4, [.ref q_1, zi 0])), (q_1, .inl (y 3, 6, .inr (.inr (.inr (.inr (va_up (va_up (va_up (fun _ => none) 0 (some q_2)) 1 (some q_7)) 2 (some q_12))))))), (q_2, .inr (1, [zi 3, zi 3, zi 1, zi 1, zi 10, zi 0, zi 0, .ref p1_3, .ref p2_4, .ref p3_5])), (p1_3, .inl (y 0, 8, .inl (cI (fun _ => 0)))), (p2_4, .inl (y 0, 8, .inl (cI (fun _ => 0)))), (p3_5, .inl (y 0, 8, .inl (cI (fun _ => 0)))), (q_7, .inr (1, [zi 3, zi 3, zi 1, zi 1, zi 10, zi 0, zi 0, .ref p1_8, .ref p2_9, .ref p3_10])), (p1_8, .inl (y 0, 8, .inl (cI (fun _ => 0)))), (p2_9, .inl (y 0, 8, .inl (cI (fun _ => 0)))), (p3_10, .inl (y 0, 8, .inl (cI (fun _ => 0)))), (q_12, .inr (1, [zi 3, zi 3, zi 1, zi 1, zi 10, zi 0, zi 0, .ref p1_13, .ref p2_14, .ref p3_15])), (p1_13, .inl (y 0, 8, .inl (cI (fun _ => 0)))), (p2_14, .inl (y 0, 8, .inl (cI (fun _ => 0)))), (p3_15, .inl (y 0, 8, .inl (cI (fun _ => 0))))]) hC (c_X1_init l D y q_17  _) ⟨va_cnB (host := RX11) 0 hts gX4_init_X1_init_n21 rfl rfl rfl (hG.2.1 (RX4, 21, yX1_init, RX11) (by decide +kernel)) (k8) (by decide +kernel) ⟨Nat.le_of_ble_eq_true rfl, Nat.le_of_ble_eq_true rfl⟩, rfl, k9⟩ hG hP hD hS hA [14] [0, 1, 2, 3, 4, 5, 6, 7, 8, 9, 10, 11, 12, 13] rfl rfl (by decide) (by decide) (by decide) va_P_nil ro_nil rfl hl.1 rfl (Nat.le_of_ble_eq_true rfl) dX4_init_38 ⟨Nat.le_of_ble_eq_true rfl, Nat.le_of_ble_eq_true rfl⟩ (fun u9 H locs hw_21 hP hD hS => ?_)
          obtain ⟨p1_18, p2_19, p3_20⟩ := u9
          have hw_21 : True := hw_21
          have hP : va_P D vwCl [(o1, .inr (4, [.ref q_1, zi 0])), (q_1, .inl (y 3, 6, .inr (.inr (.inr (.inr (va_up (va_up (va_up (fun _ => none) 0 (some q_2)) 1 (some q_7)) 2 (some q_12))))))), (q_2, .inr (1, [zi 3, zi 3, zi 1, zi 1, zi 10, zi 0, zi 0, .ref p1_3, .ref p2_4, .ref p3_5])), (p1_3, .inl (y 0, 8, .inl (cI (fun _ => 0)))), (p2_4, .inl (y 0, 8, .inl (cI (fun _ => 0)))), (p3_5, .inl (y 0, 8, .inl (cI (fun _ => 0)))), (q_7, .inr (1, [zi 3, zi 3, zi 1, zi 1, zi 10, zi 0, zi 0, .ref p1_8, .ref p2_9, .ref p3_10])), (p1_8, .inl (y 0, 8, .inl (cI (fun _ => 0)))), (p2_9, .inl (y 0, 8, .inl (cI (fun _ => 0)))), (p3_10, .inl (y 0, 8, .inl (cI (fun _ => 0)))), (q_12, .inr (1, [zi 3, zi 3, zi 1, zi 1, zi 10, zi 0, zi 0, .ref p1_13, .ref p2_14, .ref p3_15])), (p1_13, .inl (y 0, 8, .inl (cI (fun _ => 0)))), (p2_14, .inl (y 0, 8, .inl (cI (fun _ => 0)))), (p3_15, .inl (y 0, 8, .inl (cI (fun _ => 0)))), (q_17, .inr (1, [zi 3, zi 3, zi 1, zi 1, zi 10, zi 0, zi 0, .ref p1_18, .ref p2_19, .ref p3_20])), (p1_18, .inl (y 0, 8, .inl (cI (fun _ => 0)))), (p2_19, .inl (y 0, 8, .inl (cI (fun _ => 0)))), (p3_20, .inl (y 0, 8, .inl (cI (fun _ => 0))))] H := hP
          have hD : va_D A [(o1, .inr (4, [.ref q_1, zi 0])), (q_1, .inl (y 3, 6, .inr (.inr (.inr (.inr (va_up (va_up (va_up (fun _ => none) 0 (some q_2)) 1 (some q_7)) 2 (some q_12))))))), (q_2, .inr (1, [zi 3, zi 3, zi 1, zi 1, zi 10, zi 0, zi 0, .ref p1_3, .ref p2_4, .ref p3_5])), (p1_3, .inl (y 0, 8, .inl (cI (fun _ => 0)))), (p2_4, .inl (y 0, 8, .inl (cI (fun _ => 0)))), (p3_5, .inl (y 0, 8, .inl (cI (fun _ => 0)))), (q_7, .inr (1, [zi 3, zi 3, zi 1, zi 1, zi 10, zi 0, zi 0, .ref p1_8, .ref p2_9, .ref p3_10])), (p1_8, .inl (y 0, 8, .inl (cI (fun _ => 0)))), (p2_9, .inl (y 0, 8, .inl (cI (fun _ => 0)))), (p3_10, .inl (y 0, 8, .inl (cI (fun _ => 0)))), (q_12, .inr (1, [zi 3, zi 3, zi 1, zi 1, zi 10, zi 0, zi 0, .ref p1_13, .ref p2_14, .ref p3_15])), (p1_13, .inl (y 0, 8, .inl (cI (fun _ => 0)))), (p2_14, .inl (y 0, 8, .inl (cI (fun _ => 0)))), (p3_15, .inl (y 0, 8, .inl (cI (fun _ => 0)))), (q_17, .inr (1, [zi 3, zi 3, zi 1, zi 1, zi 10, zi 0, zi 0, .ref p1_18, .ref p2_19, .ref p3_20])), (p1_18, .inl (y 0, 8, .inl (cI (fun _ => 0)))), (p2_19, .inl (y 0, 8, .inl (cI (fun _ => 0)))), (p3_20, .inl (y 0, 8, .inl (cI (fun _ => 0))))] := hD
          refine va_astq hx hb hK hP hD hS 1 3 14 1 rfl rfl rfl rfl (iI_in (by omega) (by decide)) dX4_init_41 (fun H locs hP hD hS => ?_)
          rw [show (iI 3).toNatClampNeg = 3 from iI_cl (i := 3) (by omega)] at hP hD
          have hP : va_P D vwCl [(o1, .inr (4, [.ref q_1, zi 0])), (q_1, .inl (y 3, 6, .inr (.inr (.inr (.inr (va_up (va_up (va_up (va_up (fun _ => none) 0 (some q_2)) 1 (some q_7)) 2 (some q_12)) 3 (some q_17))))))), (q_2, .inr (1, [zi 3, zi 3, zi 1, zi 1, zi 10, zi 0, zi 0, .ref p1_3, .ref p2_4, .ref p3_5])), (p1_3, .inl (y 0, 8, .inl (cI (fun _ => 0)))), (p2_4, .inl (y 0, 8, .inl (cI (fun _ => 0)))), (p3_5, .inl (y 0, 8, .inl (cI (fun _ => 0)))), (q_7, .inr (1, [zi 3, zi 3, zi 1, zi 1, zi 10, zi 0, zi 0, .ref p1_8, .ref p2_9, .ref p3_10])), (p1_8, .inl (y 0, 8, .inl (cI (fun _ => 0)))), (p2_9, .inl (y 0, 8, .inl (cI (fun _ => 0)))), (p3_10, .inl (y 0, 8, .inl (cI (fun _ => 0)))), (q_12, .inr (1, [zi 3, zi 3, zi 1, zi 1, zi 10, zi 0, zi 0, .ref p1_13, .ref p2_14, .ref p3_15])), (p1_13, .inl (y 0, 8, .inl (cI (fun _ => 0)))), (p2_14, .inl (y 0, 8, .inl (cI (fun _ => 0)))), (p3_15, .inl (y 0, 8, .inl (cI (fun _ => 0)))), (q_17, .inr (1, [zi 3, zi 3, zi 1, zi 1, zi 10, zi 0, zi 0, .ref p1_18, .ref p2_19, .ref p3_20])), (p1_18, .inl (y 0, 8, .inl (cI (fun _ => 0)))), (p2_19, .inl (y 0, 8, .inl (cI (fun _ => 0)))), (p3_20, .inl (y 0, 8, .inl (cI (fun _ => 0))))] H := hP
          have hD : va_D A [(o1, .inr (4, [.ref q_1, zi 0])), (q_1, .inl (y 3, 6, .inr (.inr (.inr (.inr (va_up (va_up (va_up (va_up (fun _ => none) 0 (some q_2)) 1 (some q_7)) 2 (some q_12)) 3 (some q_17))))))), (q_2, .inr (1, [zi 3, zi 3, zi 1, zi 1, zi 10, zi 0, zi 0, .ref p1_3, .ref p2_4, .ref p3_5])), (p1_3, .inl (y 0, 8, .inl (cI (fun _ => 0)))), (p2_4, .inl (y 0, 8, .inl (cI (fun _ => 0)))), (p3_5, .inl (y 0, 8, .inl (cI (fun _ => 0)))), (q_7, .inr (1, [zi 3, zi 3, zi 1, zi 1, zi 10, zi 0, zi 0, .ref p1_8, .ref p2_9, .ref p3_10])), (p1_8, .inl (y 0, 8, .inl (cI (fun _ => 0)))), (p2_9, .inl (y 0, 8, .inl (cI (fun _ => 0)))), (p3_10, .inl (y 0, 8, .inl (cI (fun _ => 0)))), (q_12, .inr (1, [zi 3, zi 3, zi 1, zi 1, zi 10, zi 0, zi 0, .ref p1_13, .ref p2_14, .ref p3_15])), (p1_13, .inl (y 0, 8, .inl (cI (fun _ => 0)))), (p2_14, .inl (y 0, 8, .inl (cI (fun _ => 0)))), (p3_15, .inl (y 0, 8, .inl (cI (fun _ => 0)))), (q_17, .inr (1, [zi 3, zi 3, zi 1, zi 1, zi 10, zi 0, zi 0, .ref p1_18, .ref p2_19, .ref p3_20])), (p1_18, .inl (y 0, 8, .inl (cI (fun _ => 0)))), (p2_19, .inl (y 0, 8, .inl (cI (fun _ => 0)))), (p3_20, .inl (y 0, 8, .inl (cI (fun _ => 0))))] := hD
          refine z_iinc (k := 0) (lv' := [(1, zi 4), (0, .ref o1)]) hx hb dX4_init_42 hl rfl (by decide) rfl (fun ls hl => ?_)
          refine lv_goto (tgt := 20) hx hb dX4_init_45 (by decide) ?_
          refine lv_iload_n hx hb dX4_init_20 rfl (lv_at hl 0 rfl) ?_
          refine lv_aload_n hx hb dX4_init_21 rfl (lv_at hl 1 rfl) ?_
          refine va_get hx hb hts hinX4 hown hK hP 0 rfl rfl 0 (by decide) k5 (fun _ h => h) rfl dX4_init_22 ?_
          refine va_alen (v := iI 6) hx hb hK hP 1 3 rfl rfl rfl dX4_init_25 ?_
          refine z_icmp_ge (tgt := 48) hx hb (by omega) (by omega) dX4_init_26 (by decide) (fun c_26 => ?_) (fun c_26 => ?_)
          · exfalso; omega
          ·
            refine lv_aload_n hx hb dX4_init_29 rfl (lv_at hl 1 rfl) ?_
            refine va_get hx hb hts hinX4 hown hK hP 0 rfl rfl 0 (by decide) k5 (fun _ h => h) rfl dX4_init_30 ?_
            refine lv_iload_n hx hb dX4_init_33 rfl (lv_at hl 0 rfl) ?_
            refine va_new (ci := 1) (fs := [zi 0, zi 0, zi 0, zi 0, zi 0, zi 0, zi 0, .null, .null, .null]) (C := RX1) (T := TX1) (N := 10) hx hb hts hinX1 tyX1 tyX1_ok hown k4 k7 k8 hK hP hD hS hA rfl (fun j hj => by rcases (show j = 0 ∨ j = 1 ∨ j = 2 ∨ j = 3 ∨ j = 4 ∨ j = 5 ∨ j = 6 ∨ j = 7 ∨ j = 8 ∨ j = 9 by omega) with rfl | rfl | rfl | rfl | rfl | rfl | rfl | rfl | rfl | rfl <;> rfl) (Nat.le_of_ble_eq_true rfl) (Nat.le_of_ble_eq_true rfl) dX4_init_34 (fun q_22 H hP hD hS => ?_)
            have hP : va_P D vwCl [(o1, .inr (4, [.ref q_1, zi 0])), (q_1, .inl (y 3, 6, .inr (.inr (.inr (.inr (va_up (va_up (va_up (va_up (fun _ => none) 0 (some q_2)) 1 (some q_7)) 2 (some q_12)) 3 (some q_17))))))), (q_2, .inr (1, [zi 3, zi 3, zi 1, zi 1, zi 10, zi 0, zi 0, .ref p1_3, .ref p2_4, .ref p3_5])), (p1_3, .inl (y 0, 8, .inl (cI (fun _ => 0)))), (p2_4, .inl (y 0, 8, .inl (cI (fun _ => 0)))), (p3_5, .inl (y 0, 8, .inl (cI (fun _ => 0)))), (q_7, .inr (1, [zi 3, zi 3, zi 1, zi 1, zi 10, zi 0, zi 0, .ref p1_8, .ref p2_9, .ref p3_10])), (p1_8, .inl (y 0, 8, .inl (cI (fun _ => 0)))), (p2_9, .inl (y 0, 8, .inl (cI (fun _ => 0)))), (p3_10, .inl (y 0, 8, .inl (cI (fun _ => 0)))), (q_12, .inr (1, [zi 3, zi 3, zi 1, zi 1, zi 10, zi 0, zi 0, .ref p1_13, .ref p2_14, .ref p3_15])), (p1_13, .inl (y 0, 8, .inl (cI (fun _ => 0)))), (p2_14, .inl (y 0, 8, .inl (cI (fun _ => 0)))), (p3_15, .inl (y 0, 8, .inl (cI (fun _ => 0)))), (q_17, .inr (1, [zi 3, zi 3, zi 1, zi 1, zi 10, zi 0, zi 0, .ref p1_18, .ref p2_19, .ref p3_20])), (p1_18, .inl (y 0, 8, .inl (cI (fun _ => 0)))), (p2_19, .inl (y 0, 8, .inl (cI (fun _ => 0)))), (p3_20, .inl (y 0, 8, .inl (cI (fun _ => 0)))), (q_22, .inr (1, [zi 0, zi 0, zi 0, zi 0, zi 0, zi 0, zi 0, .null, .null, .null]))] H := hP
            have hD : va_D A [(o1, .inr (4, [.ref q_1, zi 0])), (q_1, .inl (y 3, 6, .inr (.inr (.inr (.inr (va_up (va_up (va_up (va_up (fun _ => none) 0 (some q_2)) 1 (some q_7)) 2 (some q_12)) 3 (some q_17))))))), (q_2, .inr (1, [zi 3, zi 3, zi 1, zi 1, zi 10, zi 0, zi 0, .ref p1_3, .ref p2_4, .ref p3_5])), (p1_3, .inl (y 0, 8, .inl (cI (fun _ => 0)))), (p2_4, .inl (y 0, 8, .inl (cI (fun _ => 0)))), (p3_5, .inl (y 0, 8, .inl (cI (fun _ => 0)))), (q_7, .inr (1, [zi 3, zi 3, zi 1, zi 1, zi 10, zi 0, zi 0, .ref p1_8, .ref p2_9, .ref p3_10])), (p1_8, .inl (y 0, 8, .inl (cI (fun _ => 0)))), (p2_9, .inl (y 0, 8, .inl (cI (fun _ => 0)))), (p3_10, .inl (y 0, 8, .inl (cI (fun _ => 0)))), (q_12, .inr (1, [zi 3, zi 3, zi 1, zi 1, zi 10, zi 0, zi 0, .ref p1_13, .ref p2_14, .ref p3_15])), (p1_13, .inl (y 0, 8, .inl (cI (fun _ => 0)))), (p2_14, .inl (y 0, 8, .inl (cI (fun _ => 0)))), (p3_15, .inl (y 0, 8, .inl (cI (fun _ => 0)))), (q_17, .inr (1, [zi 3, zi 3, zi 1, zi 1, zi 10, zi 0, zi 0, .ref p1_18, .ref p2_19, .ref p3_20])), (p1_18, .inl (y 0, 8, .inl (cI (fun _ => 0)))), (p2_19, .inl (y 0, 8, .inl (cI (fun _ => 0)))), (p3_20, .inl (y 0, 8, .inl (cI (fun _ => 0)))), (q_22, .inr (1, [zi 0, zi 0, zi 0, zi 0, zi 0, zi 0, zi 0, .null, .null, .null]))] := hD
            refine lv_dup hx hb dX4_init_37 rfl ?_
            refine z_wIN (As := []) (rest := [.ref q_22, zi 4, .ref q_1]) (wc := [(q_22, .inr (1, [zi 0, zi 0, zi 0, zi 0, zi 0, zi 0, zi 0, .null, .null, .null]))]) (wrest := [(o1, .inr (4, [.ref q_1, zi 0])), (q_1, .inl (y 3, 6, .inr (.inr (.inr (.inr (va_up (va_up (va_up (va_up (fun _ => none) 0 (some q_2)) 1 (some q_7)) 2 (some q_12)) 3 (some q_17))))))), (q_2, .inr (1, [zi 3, zi 3, zi 1, zi 1, zi 10, zi 0, zi 0, .ref p1_3, .ref p2_4, .ref p3_5])), (p1_3, .inl (y 0, 8, .inl (cI (fun _ => 0)))), (p2_4, .inl (y 0, 8, .inl (cI (fun _ => 0)))), (p3_5, .inl (y 0, 8, .inl (cI (fun _ => 0)))), (q_7, .inr (1, [zi 3, zi 3, zi 1, zi 1, zi 10, zi 0, zi 0, .ref p1_8, .ref p2_9, .ref p3_10])), (p1_8, .inl (y 0, 8, .inl (cI (fun _ => 0)))), (p2_9, .inl (y 0, 8, .inl (cI (fun _ => 0)))), (p3_10, .inl (y 0, 8, .inl (cI (fun _ => 0)))), (q_12, .inr (1, [zi 3, zi 3, zi 1, zi 1, zi 10, zi 0, zi 0, .ref p1_13, .ref p2_14, .ref p3_15])), (p1_13, .inl (y 0, 8, .inl (cI (fun _ => 0)))), (p2_14, .inl (y 0, 8, .inl (cI (fun _ => 0)))), (p3_15, .inl (y 0, 8, .inl (cI (fun _ => 0)))), (q_17, .inr (1, [zi 3, zi 3, zi 1, zi 1, zi 10, zi 0, zi 0, .ref p1_18, .ref p2_19, .ref p3_20])), (p1_18, .inl (y 0, 8, .inl (cI (fun _ => 0)))), (p2_19, .inl (y 0, 8, .inl (cI (fun _ => 0)))), (p3_20, .inl (y 0, 8, .inl (cI (fun _ => 0))))]) hC (c_X1_init l D y q_22  _) ⟨va_cnB (host := RX11) 0 hts gX4_init_X1_init_n21 rfl rfl rfl (hG.2.1 (RX4, 21, yX1_init, RX11) (by decide +kernel)) (k8) (by decide +kernel) ⟨Nat.le_of_ble_eq_true rfl, Nat.le_of_ble_eq_true rfl⟩, rfl, k9⟩ hG hP hD hS hA [18] [0, 1, 2, 3, 4, 5, 6, 7, 8, 9, 10, 11, 12, 13, 14, 15, 16, 17] rfl rfl (by decide) (by decide) (by decide) va_P_nil ro_nil rfl hl.1 rfl (Nat.le_of_ble_eq_true rfl) dX4_init_38 ⟨Nat.le_of_ble_eq_true rfl, Nat.le_of_ble_eq_true rfl⟩ (fun u9 H locs hw_26 hP hD hS => ?_)
            obtain ⟨p1_23, p2_24, p3_25⟩ := u9
            have hw_26 : True := hw_26
            have hP : va_P D vwCl [(o1, .inr (4, [.ref q_1, zi 0])), (q_1, .inl (y 3, 6, .inr (.inr (.inr (.inr (va_up (va_up (va_up (va_up (fun _ => none) 0 (some q_2)) 1 (some q_7)) 2 (some q_12)) 3 (some q_17))))))), (q_2, .inr (1, [zi 3, zi 3, zi 1, zi 1, zi 10, zi 0, zi 0, .ref p1_3, .ref p2_4, .ref p3_5])), (p1_3, .inl (y 0, 8, .inl (cI (fun _ => 0)))), (p2_4, .inl (y 0, 8, .inl (cI (fun _ => 0)))), (p3_5, .inl (y 0, 8, .inl (cI (fun _ => 0)))), (q_7, .inr (1, [zi 3, zi 3, zi 1, zi 1, zi 10, zi 0, zi 0, .ref p1_8, .ref p2_9, .ref p3_10])), (p1_8, .inl (y 0, 8, .inl (cI (fun _ => 0)))), (p2_9, .inl (y 0, 8, .inl (cI (fun _ => 0)))), (p3_10, .inl (y 0, 8, .inl (cI (fun _ => 0)))), (q_12, .inr (1, [zi 3, zi 3, zi 1, zi 1, zi 10, zi 0, zi 0, .ref p1_13, .ref p2_14, .ref p3_15])), (p1_13, .inl (y 0, 8, .inl (cI (fun _ => 0)))), (p2_14, .inl (y 0, 8, .inl (cI (fun _ => 0)))), (p3_15, .inl (y 0, 8, .inl (cI (fun _ => 0)))), (q_17, .inr (1, [zi 3, zi 3, zi 1, zi 1, zi 10, zi 0, zi 0, .ref p1_18, .ref p2_19, .ref p3_20])), (p1_18, .inl (y 0, 8, .inl (cI (fun _ => 0)))), (p2_19, .inl (y 0, 8, .inl (cI (fun _ => 0)))), (p3_20, .inl (y 0, 8, .inl (cI (fun _ => 0)))), (q_22, .inr (1, [zi 3, zi 3, zi 1, zi 1, zi 10, zi 0, zi 0, .ref p1_23, .ref p2_24, .ref p3_25])), (p1_23, .inl (y 0, 8, .inl (cI (fun _ => 0)))), (p2_24, .inl (y 0, 8, .inl (cI (fun _ => 0)))), (p3_25, .inl (y 0, 8, .inl (cI (fun _ => 0))))] H := hP
            have hD : va_D A [(o1, .inr (4, [.ref q_1, zi 0])), (q_1, .inl (y 3, 6, .inr (.inr (.inr (.inr (va_up (va_up (va_up (va_up (fun _ => none) 0 (some q_2)) 1 (some q_7)) 2 (some q_12)) 3 (some q_17))))))), (q_2, .inr (1, [zi 3, zi 3, zi 1, zi 1, zi 10, zi 0, zi 0, .ref p1_3, .ref p2_4, .ref p3_5])), (p1_3, .inl (y 0, 8, .inl (cI (fun _ => 0)))), (p2_4, .inl (y 0, 8, .inl (cI (fun _ => 0)))), (p3_5, .inl (y 0, 8, .inl (cI (fun _ => 0)))), (q_7, .inr (1, [zi 3, zi 3, zi 1, zi 1, zi 10, zi 0, zi 0, .ref p1_8, .ref p2_9, .ref p3_10])), (p1_8, .inl (y 0, 8, .inl (cI (fun _ => 0)))), (p2_9, .inl (y 0, 8, .inl (cI (fun _ => 0)))), (p3_10, .inl (y 0, 8, .inl (cI (fun _ => 0)))), (q_12, .inr (1, [zi 3, zi 3, zi 1, zi 1, zi 10, zi 0, zi 0, .ref p1_13, .ref p2_14, .ref p3_15])), (p1_13, .inl (y 0, 8, .inl (cI (fun _ => 0)))), (p2_14, .inl (y 0, 8, .inl (cI (fun _ => 0)))), (p3_15, .inl (y 0, 8, .inl (cI (fun _ => 0)))), (q_17, .inr (1, [zi 3, zi 3, zi 1, zi 1, zi 10, zi 0, zi 0, .ref p1_18, .ref p2_19, .ref p3_20])), (p1_18, .inl (y 0, 8, .inl (cI (fun _ => 0)))), (p2_19, .inl (y 0, 8, .inl (cI (fun _ => 0)))), (p3_20, .inl (y 0, 8, .inl (cI (fun _ => 0)))), (q_22, .inr (1, [zi 3, zi 3, zi 1, zi 1, zi 10, zi 0, zi 0, .ref p1_23, .ref p2_24, .ref p3_25])), (p1_23, .inl (y 0, 8, .inl (cI (fun _ => 0)))), (p2_24, .inl (y 0, 8, .inl (cI (fun _ => 0)))), (p3_25, .inl (y 0, 8, .inl (cI (fun _ => 0))))] := hD
            refine va_astq hx hb hK hP hD hS 1 3 18 1 rfl rfl rfl rfl (iI_in (by omega) (by decide)) dX4_init_41 (fun H locs hP hD hS => ?_)
            rw [show (iI 4).toNatClampNeg = 4 from iI_cl (i := 4) (by omega)] at hP hD
            have hP : va_P D vwCl [(o1, .inr (4, [.ref q_1, zi 0])), (q_1, .inl (y 3, 6, .inr (.inr (.inr (.inr (va_up (va_up (va_up (va_up (va_up (fun _ => none) 0 (some q_2)) 1 (some q_7)) 2 (some q_12)) 3 (some q_17)) 4 (some q_22))))))), (q_2, .inr (1, [zi 3, zi 3, zi 1, zi 1, zi 10, zi 0, zi 0, .ref p1_3, .ref p2_4, .ref p3_5])), (p1_3, .inl (y 0, 8, .inl (cI (fun _ => 0)))), (p2_4, .inl (y 0, 8, .inl (cI (fun _ => 0)))), (p3_5, .inl (y 0, 8, .inl (cI (fun _ => 0)))), (q_7, .inr (1, [zi 3, zi 3, zi 1, zi 1, zi 10, zi 0, zi 0, .ref p1_8, .ref p2_9, .ref p3_10])), (p1_8, .inl (y 0, 8, .inl (cI (fun _ => 0)))), (p2_9, .inl (y 0, 8, .inl (cI (fun _ => 0)))), (p3_10, .inl (y 0, 8, .inl (cI (fun _ => 0)))), (q_12, .inr (1, [zi 3, zi 3, zi 1, zi 1, zi 10, zi 0, zi 0, .ref p1_13, .ref p2_14, .ref p3_15])), (p1_13, .inl (y 0, 8, .inl (cI (fun _ => 0)))), (p2_14, .inl (y 0, 8, .inl (cI (fun _ => 0)))), (p3_15, .inl (y 0, 8, .inl (cI (fun _ => 0)))), (q_17, .inr (1, [zi 3, zi 3, zi 1, zi 1, zi 10, zi 0, zi 0, .ref p1_18, .ref p2_19, .ref p3_20])), (p1_18, .inl (y 0, 8, .inl (cI (fun _ => 0)))), (p2_19, .inl (y 0, 8, .inl (cI (fun _ => 0)))), (p3_20, .inl (y 0, 8, .inl (cI (fun _ => 0)))), (q_22, .inr (1, [zi 3, zi 3, zi 1, zi 1, zi 10, zi 0, zi 0, .ref p1_23, .ref p2_24, .ref p3_25])), (p1_23, .inl (y 0, 8, .inl (cI (fun _ => 0)))), (p2_24, .inl (y 0, 8, .inl (cI (fun _ => 0)))), (p3_25, .inl (y 0, 8, .inl (cI (fun _ => 0))))] H := hP
            have hD : va_D A [(o1, .inr (4, [.ref q_1, zi 0])), (q_1, .inl (y 3, 6, .inr (.inr (.inr (.inr (va_up (va_up (va_up (va_up (va_up (fun _ => none) 0 (some q_2)) 1 (some q_7)) 2 (some q_12)) 3 (some q_17)) 4 (some q_22))))))), (q_2, .inr (1, [zi 3, zi 3, zi 1, zi 1, zi 10, zi 0, zi 0, .ref p1_3, .ref p2_4, .ref p3_5])), (p1_3, .inl (y 0, 8, .inl (cI (fun _ => 0)))), (p2_4, .inl (y 0, 8, .inl (cI (fun _ => 0)))), (p3_5, .inl (y 0, 8, .inl (cI (fun _ => 0)))), (q_7, .inr (1, [zi 3, zi 3, zi 1, zi 1, zi 10, zi 0, zi 0, .ref p1_8, .ref p2_9, .ref p3_10])), (p1_8, .inl (y 0, 8, .inl (cI (fun _ => 0)))), (p2_9, .inl (y 0, 8, .inl (cI (fun _ => 0)))), (p3_10, .inl (y 0, 8, .inl (cI (fun _ => 0)))), (q_12, .inr (1, [zi 3, zi 3, zi 1, zi 1, zi 10, zi 0, zi 0, .ref p1_13, .ref p2_14, .ref p3_15])), (p1_13, .inl (y 0, 8, .inl (cI (fun _ => 0)))), (p2_14, .inl (y 0, 8, .inl (cI (fun _ => 0)))), (p3_15, .inl (y 0, 8, .inl (cI (fun _ => 0)))), (q_17, .inr (1, [zi 3, zi 3, zi 1, zi 1, zi 10, zi 0, zi 0, .ref p1_18, .ref p2_19, .ref p3_20])), (p1_18, .inl (y 0, 8, .inl (cI (fun _ => 0)))), (p2_19, .inl (y 0, 8, .inl (cI (fun _ => 0)))), (p3_20, .inl (y 0, 8, .inl (cI (fun _ => 0)))), (q_22, .inr (1, [zi 3, zi 3, zi 1, zi 1, zi 10, zi 0, zi 0, .ref p1_23, .ref p2_24, .ref p3_25])), (p1_23, .inl (y 0, 8, .inl (cI (fun _ => 0)))), (p2_24, .inl (y 0, 8, .inl (cI (fun _ => 0)))), (p3_25, .inl (y 0, 8, .inl (cI (fun _ => 0))))] := hD
            refine z_iinc (k := 0) (lv' := [(1, zi 5), (0, .ref o1)]) hx hb dX4_init_42 hl rfl (by decide) rfl (fun ls hl => ?_)
            refine lv_goto (tgt := 20) hx hb dX4_init_45 (by decide) ?_
            refine lv_iload_n hx hb dX4_init_20 rfl (lv_at hl 0 rfl) ?_
            refine lv_aload_n hx hb dX4_init_21 rfl (lv_at hl 1 rfl) ?_
            refine va_get hx hb hts hinX4 hown hK hP 0 rfl rfl 0 (by decide) k5 (fun _ h => h) rfl dX4_init_22 ?_
            refine va_alen (v := iI 6) hx hb hK hP 1 3 rfl rfl rfl dX4_init_25 ?_
            refine z_icmp_ge (tgt := 48) hx hb (by omega) (by omega) dX4_init_26 (by decide) (fun c_26 => ?_) (fun c_26 => ?_)
            · exfalso; omega
            ·
              refine lv_aload_n hx hb dX4_init_29 rfl (lv_at hl 1 rfl) ?_
              refine va_get hx hb hts hinX4 hown hK hP 0 rfl rfl 0 (by decide) k5 (fun _ h => h) rfl dX4_init_30 ?_
              refine lv_iload_n hx hb dX4_init_33 rfl (lv_at hl 0 rfl) ?_
              refine va_new (ci := 1) (fs := [zi 0, zi 0, zi 0, zi 0, zi 0, zi 0, zi 0, .null, .null, .null]) (C := RX1) (T := TX1) (N := 10) hx hb hts hinX1 tyX1 tyX1_ok hown k4 k7 k8 hK hP hD hS hA rfl (fun j hj => by rcases (show j = 0 ∨ j = 1 ∨ j = 2 ∨ j = 3 ∨ j = 4 ∨ j = 5 ∨ j = 6 ∨ j = 7 ∨ j = 8 ∨ j = 9 by omega) with rfl | rfl | rfl | rfl | rfl | rfl | rfl | rfl | rfl | rfl <;> rfl) (Nat.le_of_ble_eq_true rfl) (Nat.le_of_ble_eq_true rfl) dX4_init_34 (fun q_27 H hP hD hS => ?_)
              have hP : va_P D vwCl [(o1, .inr (4, [.ref q_1, zi 0])), (q_1, .inl (y 3, 6, .inr (.inr (.inr (.inr (va_up (va_up (va_up (va_up (va_up (fun _ => none) 0 (some q_2)) 1 (some q_7)) 2 (some q_12)) 3 (some q_17)) 4 (some q_22))))))), (q_2, .inr (1, [zi 3, zi 3, zi 1, zi 1, zi 10, zi 0, zi 0, .ref p1_3, .ref p2_4, .ref p3_5])), (p1_3, .inl (y 0, 8, .inl (cI (fun _ => 0)))), (p2_4, .inl (y 0, 8, .inl (cI (fun _ => 0)))), (p3_5, .inl (y 0, 8, .inl (cI (fun _ => 0)))), (q_7, .inr (1, [zi 3, zi 3, zi 1, zi 1, zi 10, zi 0, zi 0, .ref p1_8, .ref p2_9, .ref p3_10])), (p1_8, .inl (y 0, 8, .inl (cI (fun _ => 0)))), (p2_9, .inl (y 0, 8, .inl (cI (fun _ => 0)))), (p3_10, .inl (y 0, 8, .inl (cI (fun _ => 0)))), (q_12, .inr (1, [zi 3, zi 3, zi 1, zi 1, zi 10, zi 0, zi 0, .ref p1_13, .ref p2_14, .ref p3_15])), (p1_13, .inl (y 0, 8, .inl (cI (fun _ => 0)))), (p2_14, .inl (y 0, 8, .inl (cI (fun _ => 0)))), (p3_15, .inl (y 0, 8, .inl (cI (fun _ => 0)))), (q_17, .inr (1, [zi 3, zi 3, zi 1, zi 1, zi 10, zi 0, zi 0, .ref p1_18, .ref p2_19, .ref p3_20])), (p1_18, .inl (y 0, 8, .inl (cI (fun _ => 0)))), (p2_19, .inl (y 0, 8, .inl (cI (fun _ => 0)))), (p3_20, .inl (y 0, 8, .inl (cI (fun _ => 0)))), (q_22, .inr (1, [zi 3, zi 3, zi 1, zi 1, zi 10, zi 0, zi 0, .ref p1_23, .ref p2_24, .ref p3_25])), (p1_23, .inl (y 0, 8, .inl (cI (fun _ => 0)))), (p2_24, .inl (y 0, 8, .inl (cI (fun _ => 0)))), (p3_25, .inl (y 0, 8, .inl (cI (fun _ => 0)))), (q_27, .inr (1, [zi 0, zi 0, zi 0, zi 0, zi 0, zi 0, zi 0, .null, .null, .null]))] H := hP
              have hD : va_D A [(o1, .inr (4, [.ref q_1, zi 0])), (q_1, .inl (y 3, 6, .inr (.inr (.inr (.inr (va_up (va_up (va_up (va_up (va_up (fun _ => none) 0 (some q_2)) 1 (some q_7)) 2 (some q_12)) 3 (some q_17)) 4 (some q_22))))))), (q_2, .inr (1, [zi 3, zi 3, zi 1, zi 1, zi 10, zi 0, zi 0, .ref p1_3, .ref p2_4, .ref p3_5])), (p1_3, .inl (y 0, 8, .inl (cI (fun _ => 0)))), (p2_4, .inl (y 0, 8, .inl (cI (fun _ => 0)))), (p3_5, .inl (y 0, 8, .inl (cI (fun _ => 0)))), (q_7, .inr (1, [zi 3, zi 3, zi 1, zi 1, zi 10, zi 0, zi 0, .ref p1_8, .ref p2_9, .ref p3_10])), (p1_8, .inl (y 0, 8, .inl (cI (fun _ => 0)))), (p2_9, .inl (y 0, 8, .inl (cI (fun _ => 0)))), (p3_10, .inl (y 0, 8, .inl (cI (fun _ => 0)))), (q_12, .inr (1, [zi 3, zi 3, zi 1, zi 1, zi 10, zi 0, zi 0, .ref p1_13, .ref p2_14, .ref p3_15])), (p1_13, .inl (y 0, 8, .inl (cI (fun _ => 0)))), (p2_14, .inl (y 0, 8, .inl (cI (fun _ => 0)))), (p3_15, .inl (y 0, 8, .inl (cI (fun _ => 0)))), (q_17, .inr (1, [zi 3, zi 3, zi 1, zi 1, zi 10, zi 0, zi 0, .ref p1_18, .ref p2_19, .ref p3_20])), (p1_18, .inl (y 0, 8, .inl (cI (fun _ => 0)))), (p2_19, .inl (y 0, 8, .inl (cI (fun _ => 0)))), (p3_20, .inl (y 0, 8, .inl (cI (fun _ => 0)))), (q_22, .inr (1, [zi 3, zi 3, zi 1, zi 1, zi 10, zi 0, zi 0, .ref p1_23, .ref p2_24, .ref p3_25])), (p1_23, .inl (y 0, 8, .inl (cI (fun _ => 0)))), (p2_24, .inl (y 0, 8, .inl (cI (fun _ => 0)))), (p3_25, .inl (y 0, 8, .inl (cI (fun _ => 0)))), (q_27, .inr (1, [zi 0, zi 0, zi 0, zi 0, zi 0, zi 0, zi 0, .null, .null, .null]))] := hD
              refine lv_dup hx hb dX4_init_37 rfl ?_
              refine z_wIN (As := []) (rest := [.ref q_27, zi 5, .ref q_1]) (wc := [(q_27, .inr (1, [zi 0, zi 0, zi 0, zi 0, zi 0, zi 0, zi 0, .null, .null, .null]))]) (wrest := [(o1, .inr (4, [.ref q_1, zi 0])), (q_1, .inl (y 3, 6, .inr (.inr (.inr (.inr (va_up (va_up (va_up (va_up (va_up (fun _ => none) 0 (some q_2)) 1 (some q_7)) 2 (some q_12)) 3 (some q_17)) 4 (some q_22))))))), (q_2, .inr (1, [zi 3, zi 3, zi 1, zi 1, zi 10, zi 0, zi 0, .ref p1_3, .ref p2_4, .ref p3_5])), (p1_3, .inl (y 0, 8, .inl (cI (fun _ => 0)))), (p2_4, .inl (y 0, 8, .inl (cI (fun _ => 0)))), (p3_5, .inl (y 0, 8, .inl (cI (fun _ => 0)))), (q_7, .inr (1, [zi 3, zi 3, zi 1, zi 1, zi 10, zi 0, zi 0, .ref p1_8, .ref p2_9, .ref p3_10])), (p1_8, .inl (y 0, 8, .inl (cI (fun _ => 0)))), (p2_9, .inl (y 0, 8, .inl (cI (fun _ => 0)))), (p3_10, .inl (y 0, 8, .inl (cI (fun _ => 0)))), (q_12, .inr (1, [zi 3, zi 3, zi 1, zi 1, zi 10, zi 0, zi 0, .ref p1_13, .ref p2_14, .ref p3_15])), (p1_13, .inl (y 0, 8, .inl (cI (fun _ => 0)))), (p2_14, .inl (y 0, 8, .inl (cI (fun _ => 0)))), (p3_15, .inl (y 0, 8, .inl (cI (fun _ => 0)))), (q_17, .inr (1, [zi 3, zi 3, zi 1, zi 1, zi 10, zi 0, zi 0, .ref p1_18, .ref p2_19, .ref p3_20])), (p1_18, .inl (y 0, 8, .inl (cI (fun _ => 0)))), (p2_19, .inl (y 0, 8, .inl (cI (fun _ => 0)))), (p3_20, .inl (y 0, 8, .inl (cI (fun _ => 0)))), (q_22, .inr (1, [zi 3, zi 3, zi 1, zi 1, zi 10, zi 0, zi 0, .ref p1_23, .ref p2_24, .ref p3_25])), (p1_23, .inl (y 0, 8, .inl (cI (fun _ => 0)))), (p2_24, .inl (y 0, 8, .inl (cI (fun _ => 0)))), (p3_25, .inl (y 0, 8, .inl (cI (fun _ => 0))))]) hC (c_X1_init l D y q_27  _) ⟨va_cnB (host := RX11) 0 hts gX4_init_X1_init_n21 rfl rfl rfl (hG.2.1 (RX4, 21, yX1_init, RX11) (by decide +kernel)) (k8) (by decide +kernel) ⟨Nat.le_of_ble_eq_true rfl, Nat.le_of_ble_eq_true rfl⟩, rfl, k9⟩ hG hP hD hS hA [22] [0, 1, 2, 3, 4, 5, 6, 7, 8, 9, 10, 11, 12, 13, 14, 15, 16, 17, 18, 19, 20, 21] rfl rfl (by decide) (by decide) (by decide) va_P_nil ro_nil rfl hl.1 rfl (Nat.le_of_ble_eq_true rfl) dX4_init_38 ⟨Nat.le_of_ble_eq_true rfl, Nat.le_of_ble_eq_true rfl⟩ (fun u9 H locs hw_31 hP hD hS => ?_)
              obtain ⟨p1_28, p2_29, p3_30⟩ := u9
              have hw_31 : True := hw_31
              have hP : va_P D vwCl [(o1, .inr (4, [.ref q_1, zi 0])), (q_1, .inl (y 3, 6, .inr (.inr (.inr (.inr (va_up (va_up (va_up (va_up (va_up (fun _ => none) 0 (some q_2)) 1 (some q_7)) 2 (some q_12)) 3 (some q_17)) 4 (some q_22))))))), (q_2, .inr (1, [zi 3, zi 3, zi 1, zi 1, zi 10, zi 0, zi 0, .ref p1_3, .ref p2_4, .ref p3_5])), (p1_3, .inl (y 0, 8, .inl (cI (fun _ => 0)))), (p2_4, .inl (y 0, 8, .inl (cI (fun _ => 0)))), (p3_5, .inl (y 0, 8, .inl (cI (fun _ => 0)))), (q_7, .inr (1, [zi 3, zi 3, zi 1, zi 1, zi 10, zi 0, zi 0, .ref p1_8, .ref p2_9, .ref p3_10])), (p1_8, .inl (y 0, 8, .inl (cI (fun _ => 0)))), (p2_9, .inl (y 0, 8, .inl (cI (fun _ => 0)))), (p3_10, .inl (y 0, 8, .inl (cI (fun _ => 0)))), (q_12, .inr (1, [zi 3, zi 3, zi 1, zi 1, zi 10, zi 0, zi 0, .ref p1_13, .ref p2_14, .ref p3_15])), (p1_13, .inl (y 0, 8, .inl (cI (fun _ => 0)))), (p2_14, .inl (y 0, 8, .inl (cI (fun _ => 0)))), (p3_15, .inl (y 0, 8, .inl (cI (fun _ => 0)))), (q_17, .inr (1, [zi 3, zi 3, zi 1, zi 1, zi 10, zi 0, zi 0, .ref p1_18, .ref p2_19, .ref p3_20])), (p1_18, .inl (y 0, 8, .inl (cI (fun _ => 0)))), (p2_19, .inl (y 0, 8, .inl (cI (fun _ => 0)))), (p3_20, .inl (y 0, 8, .inl (cI (fun _ => 0)))), (q_22, .inr (1, [zi 3, zi 3, zi 1, zi 1, zi 10, zi 0, zi 0, .ref p1_23, .ref p2_24, .ref p3_25])), (p1_23, .inl (y 0, 8, .inl (cI (fun _ => 0)))), (p2_24, .inl (y 0, 8, .inl (cI (fun _ => 0)))), (p3_25, .inl (y 0, 8, .inl (cI (fun _ => 0)))), (q_27, .inr (1, [zi 3, zi 3, zi 1, zi 1, zi 10, zi 0, zi 0, .ref p1_28, .ref p2_29, .ref p3_30])), (p1_28, .inl (y 0, 8, .inl (cI (fun _ => 0)))), (p2_29, .inl (y 0, 8, .inl (cI (fun _ => 0)))), (p3_30, .inl (y 0, 8, .inl (cI (fun _ => 0))))] H := hP
              have hD : va_D A [(o1, .inr (4, [.ref q_1, zi 0])), (q_1, .inl (y 3, 6, .inr (.inr (.inr (.inr (va_up (va_up (va_up (va_up (va_up (fun _ => none) 0 (some q_2)) 1 (some q_7)) 2 (some q_12)) 3 (some q_17)) 4 (some q_22))))))), (q_2, .inr (1, [zi 3, zi 3, zi 1, zi 1, zi 10, zi 0, zi 0, .ref p1_3, .ref p2_4, .ref p3_5])), (p1_3, .inl (y 0, 8, .inl (cI (fun _ => 0)))), (p2_4, .inl (y 0, 8, .inl (cI (fun _ => 0)))), (p3_5, .inl (y 0, 8, .inl (cI (fun _ => 0)))), (q_7, .inr (1, [zi 3, zi 3, zi 1, zi 1, zi 10, zi 0, zi 0, .ref p1_8, .ref p2_9, .ref p3_10])), (p1_8, .inl (y 0, 8, .inl (cI (fun _ => 0)))), (p2_9, .inl (y 0, 8, .inl (cI (fun _ => 0)))), (p3_10, .inl (y 0, 8, .inl (cI (fun _ => 0)))), (q_12, .inr (1, [zi 3, zi 3, zi 1, zi 1, zi 10, zi 0, zi 0, .ref p1_13, .ref p2_14, .ref p3_15])), (p1_13, .inl (y 0, 8, .inl (cI (fun _ => 0)))), (p2_14, .inl (y 0, 8, .inl (cI (fun _ => 0)))), (p3_15, .inl (y 0, 8, .inl (cI (fun _ => 0)))), (q_17, .inr (1, [zi 3, zi 3, zi 1, zi 1, zi 10, zi 0, zi 0, .ref p1_18, .ref p2_19, .ref p3_20])), (p1_18, .inl (y 0, 8, .inl (cI (fun _ => 0)))), (p2_19, .inl (y 0, 8, .inl (cI (fun _ => 0)))), (p3_20, .inl (y 0, 8, .inl (cI (fun _ => 0)))), (q_22, .inr (1, [zi 3, zi 3, zi 1, zi 1, zi 10, zi 0, zi 0, .ref p1_23, .ref p2_24, .ref p3_25])), (p1_23, .inl (y 0, 8, .inl (cI (fun _ => 0)))), (p2_24, .inl (y 0, 8, .inl (cI (fun _ => 0)))), (p3_25, .inl (y 0, 8, .inl (cI (fun _ => 0)))), (q_27, .inr (1, [zi 3, zi 3, zi 1, zi 1, zi 10, zi 0, zi 0, .ref p1_28, .ref p2_29, .ref p3_30])), (p1_28, .inl (y 0, 8, .inl (cI (fun _ => 0)))), (p2_29, .inl (y 0, 8, .inl (cI (fun _ => 0)))), (p3_30, .inl (y 0, 8, .inl (cI (fun _ => 0))))] := hD
              refine va_astq hx hb hK hP hD hS 1 3 22 1 rfl rfl rfl rfl (iI_in (by omega) (by decide)) dX4_init_41 (fun H locs hP hD hS => ?_)
              rw [show (iI 5).toNatClampNeg = 5 from iI_cl (i := 5) (by omega)] at hP hD
              have hP : va_P D vwCl [(o1, .inr (4, [.ref q_1, zi 0])), (q_1, .inl (y 3, 6, .inr (.inr (.inr (.inr (va_up (va_up (va_up (va_up (va_up (va_up (fun _ => none) 0 (some q_2)) 1 (some q_7)) 2 (some q_12)) 3 (some q_17)) 4 (some q_22)) 5 (some q_27))))))), (q_2, .inr (1, [zi 3, zi 3, zi 1, zi 1, zi 10, zi 0, zi 0, .ref p1_3, .ref p2_4, .ref p3_5])), (p1_3, .inl (y 0, 8, .inl (cI (fun _ => 0)))), (p2_4, .inl (y 0, 8, .inl (cI (fun _ => 0)))), (p3_5, .inl (y 0, 8, .inl (cI (fun _ => 0)))), (q_7, .inr (1, [zi 3, zi 3, zi 1, zi 1, zi 10, zi 0, zi 0, .ref p1_8, .ref p2_9, .ref p3_10])), (p1_8, .inl (y 0, 8, .inl (cI (fun _ => 0)))), (p2_9, .inl (y 0, 8, .inl (cI (fun _ => 0)))), (p3_10, .inl (y 0, 8, .inl (cI (fun _ => 0)))), (q_12, .inr (1, [zi 3, zi 3, zi 1, zi 1, zi 10, zi 0, zi 0, .ref p1_13, .ref p2_14, .ref p3_15])), (p1_13, .inl (y 0, 8, .inl (cI (fun _ => 0)))), (p2_14, .inl (y 0, 8, .inl (cI (fun _ => 0)))), (p3_15, .inl (y 0, 8, .inl (cI (fun _ => 0)))), (q_17, .inr (1, [zi 3, zi 3, zi 1, zi 1, zi 10, zi 0, zi 0, .ref p1_18, .ref p2_19, .ref p3_20])), (p1_18, .inl (y 0, 8, .inl (cI (fun _ => 0)))), (p2_19, .inl (y 0, 8, .inl (cI (fun _ => 0)))), (p3_20, .inl (y 0, 8, .inl (cI (fun _ => 0)))), (q_22, .inr (1, [zi 3, zi 3, zi 1, zi 1, zi 10, zi 0, zi 0, .ref p1_23, .ref p2_24, .ref p3_25])), (p1_23, .inl (y 0, 8, .inl (cI (fun _ => 0)))), (p2_24, .inl (y 0, 8, .inl (cI (fun _ => 0)))), (p3_25, .inl (y 0, 8, .inl (cI (fun _ => 0)))), (q_27, .inr (1, [zi 3, zi 3, zi 1, zi 1, zi 10, zi 0, zi 0, .ref p1_28, .ref p2_29, .ref p3_30])), (p1_28, .inl (y 0, 8, .inl (cI (fun _ => 0)))), (p2_29, .inl (y 0, 8, .inl (cI (fun _ => 0)))), (p3_30, .inl (y 0, 8, .inl (cI (fun _ => 0))))] H := hP
              have hD : va_D A [(o1, .inr (4, [.ref q_1, zi 0])), (q_1, .inl (y 3, 6, .inr (.inr (.inr (.inr (va_up (va_up (va_up (va_up (va_up (va_up (fun _ => none) 0 (some q_2)) 1 (some q_7)) 2 (some q_12)) 3 (some q_17)) 4 (some q_22)) 5 (some q_27))))))), (q_2, .inr (1, [zi 3, zi 3, zi 1, zi 1, zi 10, zi 0, zi 0, .ref p1_3, .ref p2_4, .ref p3_5])), (p1_3, .inl (y 0, 8, .inl (cI (fun _ => 0)))), (p2_4, .inl (y 0, 8, .inl (cI (fun _ => 0)))), (p3_5, .inl (y 0, 8, .inl (cI (fun _ => 0)))), (q_7, .inr (1, [zi 3, zi 3, zi 1, zi 1, zi 10, zi 0, zi 0, .ref p1_8, .ref p2_9, .ref p3_10])), (p1_8, .inl (y 0, 8, .inl (cI (fun _ => 0)))), (p2_9, .inl (y 0, 8, .inl (cI (fun _ => 0)))), (p3_10, .inl (y 0, 8, .inl (cI (fun _ => 0)))), (q_12, .inr (1, [zi 3, zi 3, zi 1, zi 1, zi 10, zi 0, zi 0, .ref p1_13, .ref p2_14, .ref p3_15])), (p1_13, .inl (y 0, 8, .inl (cI (fun _ => 0)))), (p2_14, .inl (y 0, 8, .inl (cI (fun _ => 0)))), (p3_15, .inl (y 0, 8, .inl (cI (fun _ => 0)))), (q_17, .inr (1, [zi 3, zi 3, zi 1, zi 1, zi 10, zi 0, zi 0, .ref p1_18, .ref p2_19, .ref p3_20])), (p1_18, .inl (y 0, 8, .inl (cI (fun _ => 0)))), (p2_19, .inl (y 0, 8, .inl (cI (fun _ => 0)))), (p3_20, .inl (y 0, 8, .inl (cI (fun _ => 0)))), (q_22, .inr (1, [zi 3, zi 3, zi 1, zi 1, zi 10, zi 0, zi 0, .ref p1_23, .ref p2_24, .ref p3_25])), (p1_23, .inl (y 0, 8, .inl (cI (fun _ => 0)))), (p2_24, .inl (y 0, 8, .inl (cI (fun _ => 0)))), (p3_25, .inl (y 0, 8, .inl (cI (fun _ => 0)))), (q_27, .inr (1, [zi 3, zi 3, zi 1, zi 1, zi 10, zi 0, zi 0, .ref p1_28, .ref p2_29, .ref p3_30])), (p1_28, .inl (y 0, 8, .inl (cI (fun _ => 0)))), (p2_29, .inl (y 0, 8, .inl (cI (fun _ => 0)))), (p3_30, .inl (y 0, 8, .inl (cI (fun _ => 0))))] := hD
              refine z_iinc (k := 0) (lv' := [(1, zi 6), (0, .ref o1)]) hx hb dX4_init_42 hl rfl (by decide) rfl (fun ls hl => ?_)
              refine lv_goto (tgt := 20) hx hb dX4_init_45 (by decide) ?_
              refine lv_iload_n hx hb dX4_init_20 rfl (lv_at hl 0 rfl) ?_
              refine lv_aload_n hx hb dX4_init_21 rfl (lv_at hl 1 rfl) ?_
              refine va_get hx hb hts hinX4 hown hK hP 0 rfl rfl 0 (by decide) k5 (fun _ h => h) rfl dX4_init_22 ?_
              refine va_alen (v := iI 6) hx hb hK hP 1 3 rfl rfl rfl dX4_init_25 ?_
              refine z_icmp_ge (tgt := 48) hx hb (by omega) (by omega) dX4_init_26 (by decide) (fun c_26 => ?_) (fun c_26 => ?_)
              ·
                exact z_vretW hx hb hr hlocks (q_1, va_up (va_up (va_up (va_up (va_up (va_up (fun _ => none) 0 (some q_2)) 1 (some q_7)) 2 (some q_12)) 3 (some q_17)) 4 (some q_22)) 5 (some q_27), q_2, p1_3, p2_4, p3_5, q_7, p1_8, p2_9, p3_10, q_12, p1_13, p2_14, p3_15, q_17, p1_18, p2_19, p3_20, q_22, p1_23, p2_24, p3_25, q_27, p1_28, p2_29, p3_30) rfl (⟨rfl, rfl, rfl, rfl, rfl, rfl⟩) (hP.sub [0, 1, 2, 3, 4, 5, 6, 7, 8, 9, 10, 11, 12, 13, 14, 15, 16, 17, 18, 19, 20, 21, 22, 23, 24, 25] rfl) (hD.sub [0, 1, 2, 3, 4, 5, 6, 7, 8, 9, 10, 11, 12, 13, 14, 15, 16, 17, 18, 19, 20, 21, 22, 23, 24, 25] (by decide) rfl) hS dX4_init_48
              · exfalso; omega
