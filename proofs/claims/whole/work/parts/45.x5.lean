/-! ===== new things ===== -/
theorem va_RA_in {s : State} {cA cB : ClassId} {ty : FieldType} (h1 : va_RA s cA ty) (h2 : va_RA s cB ty) : cA = cB := by
  cases ty with
  | object C =>
    obtain ⟨_, _, _, _, _, e1⟩ := h1
    obtain ⟨_, _, _, _, _, e2⟩ := h2
    exact Option.some.inj (e1.symm.trans e2)
  | _ => exact Option.some.inj (h1.symm.trans h2)
theorem ci_0 : cI (fun _ => 0) = fun _ => 0 := funext fun _ => iI_0.symm
theorem cl_0 : cL (fun _ => 0) = fun _ => 0 := funext fun _ => rfl
theorem vz_I (N : Nat) (cA : ClassId) : vp_cell cA (N, .inl (cI (fun _ => 0))) = arrV cA N (fun _ => defaultValue .int) := by
  rw [vp_cell_i, ci_0]
  rfl
theorem vz_Z (N : Nat) (cA : ClassId) : vp_cell cA (N, .inl (cI (fun _ => 0))) = arrV cA N (fun _ => defaultValue .boolean) := by
  rw [vp_cell_i, ci_0]
  rfl
theorem vz_J (N : Nat) (cA : ClassId) : vp_cell cA (N, .inr (.inl (cL (fun _ => 0)))) = arrV cA N (fun _ => defaultValue .long) := by
  rw [vp_cell_l, cl_0]
  rfl
section ZNEW
variable {p : Program} {l : Launch} {e : Env} {R : Room} {s : State} {m : MethodId} {args : Array Value} {below : List Frame} {meth : Method} {c : Code} {H : Heap} {locs : List Loc} {cells slots : Nat} {Q : State → Prop}
variable {cc : ByteArray} {pc : Nat} {ls : Array Slot} {rest : List Value} {D : va_G} {A : Nat → Prop} {tys : List (ClassId × FieldType)} {ws : va_W} {H0 : Heap}
theorem z_newa (hx : p.tables.exec = Jvm.exec) (hb : c.code = cc) {atype : ArrayType} (harr : (Cond.arrayClass (newarray.typeOf atype)).before args s = true) {ty : FieldType} (hty : newarray.typeOf atype = ty) (hK : va_K D vwCl tys s) (t0 : Nat) {cA : ClassId} (ht : tys[t0]? = some (cA, ty)) (hP : va_P D vwCl ws H) (hD : va_D A ws) (hS : va_S A H0 H locs) (hA : ∀ q, H0.size ≤ q → A q)
    {z : Int} {N : Nat} {a0 : vp_A} (ha : ∀ cA : ClassId, vp_cell cA a0 = arrV cA N (fun _ => defaultValue ty)) (hz : 0 ≤ z ∧ z < 2 ^ 31) (hN : z.toNat = N) (hbytes : N * componentBytes ty ≤ 536870912) (hcells : cells + 1 ≤ R.cells) (hslots : slots + N ≤ R.slots) (hdg : decode cc pc = .ok (.newarray atype, 2))
    (kk : ∀ (q : Nat) (H1 : Heap), va_P D vwCl (ws ++ [(q, .inl (cA, a0))]) H1 → va_D A (ws ++ [(q, .inl (cA, a0))]) → va_S A H0 H1 locs →
      W p l e R s m args below meth c H1 locs (cells + 1) (slots + N) Q (F0 m (pc + 2) ls (.ref q :: rest))) : W p l e R s m args below meth c H locs cells slots Q (F0 m pc ls (zi z :: rest)) :=
  va_newa hx hb harr hty hK hP hD hS hA ha (by rw [iI_0, iI_lt (by omega) (by omega)]; omega) ((iI_cl hz).trans hN) hbytes hcells hslots hdg (fun q cB H1 k1 p1 d1 s1 => by
    have e : cB = cA := va_RA_in (k1.2 tys.length (cB, ty) (by simp)).2 (hK.2 t0 _ ht).2
    subst e
    exact kk q H1 p1 d1 s1)
theorem z_newq (hx : p.tables.exec = Jvm.exec) (hb : c.code = cc) {own C : String} {index : Nat} (hown : s.vm.findClass own = some m.cls) (hclink : (Cond.classLink own index C).before args s = true) (hover : va_AO C s) (hK : va_K D vwCl tys s) (t0 : Nat) {cA : ClassId} (ht : tys[t0]? = some (cA, .object C)) (hP : va_P D vwCl ws H) (hD : va_D A ws) (hS : va_S A H0 H locs) (hA : ∀ q, H0.size ≤ q → A q)
    {z : Int} {N : Nat} (hz : 0 ≤ z ∧ z < 2 ^ 31) (hN : z.toNat = N) (hbytes : N * 4 ≤ 536870912) (hcells : cells + 1 ≤ R.cells) (hslots : slots + N ≤ R.slots) (hdg : decode cc pc = .ok (.anewarray index, 3))
    (kk : ∀ (q : Nat) (H1 : Heap), va_P D vwCl (ws ++ [(q, .inl (cA, N, .inr (.inr (.inr (.inr (fun _ => none))))))]) H1 → va_D A (ws ++ [(q, .inl (cA, N, .inr (.inr (.inr (.inr (fun _ => none))))))]) → va_S A H0 H1 locs →
      W p l e R s m args below meth c H1 locs (cells + 1) (slots + N) Q (F0 m (pc + 3) ls (.ref q :: rest))) : W p l e R s m args below meth c H locs cells slots Q (F0 m pc ls (zi z :: rest)) :=
  va_newq hx hb hown hclink hover hK hP hD hS hA (by rw [iI_0, iI_lt (by omega) (by omega)]; omega) ((iI_cl hz).trans hN) hbytes hcells hslots hdg (fun q cB H1 k1 p1 d1 s1 => by
    have e : cB = cA := va_RA_in (k1.2 tys.length (cB, .object C) (by simp)).2 (hK.2 t0 _ ht).2
    subst e
    exact kk q H1 p1 d1 s1)
end ZNEW
set_option maxHeartbeats 8000000 in
set_option maxRecDepth 100000 in
theorem c_X10_init (l : Launch) (D : va_G) (y : Nat → ClassId) (o1 : Nat)  (sz : Nat) : Met l yX10_init wsX10_init ({ frames := 1, cells := 1, slots := 40, locals := 12 } : Room) (wPc D y [] [(o1, .inr (9, [.null, zi 0]))] sz [.ref o1]) (wQ D (fun (p1 : Nat) => none) (fun (p1 : Nat) => True) (fun (p1 : Nat) => [(o1, .inr (9, [.ref p1, zi 0])), (p1, .inl (y 0, 40, .inl (cI (fun _ => 0))))]) (va_A [(o1, .inr (9, [.null, zi 0]))] sz)) 1 40 (va_A [(o1, .inr (9, [.null, zi 0]))] sz) := by
  refine W_of (own := RX10) (cc := cX10_init) (maxL := 1) (ret := none) (by decide) rfl rfl (Nat.le_of_ble_eq_true rfl) (fun p e s m below meth c ls A hx hb hr hC hlocks hin0 hR0 hN hP hD hA hG hl => ?_)
  have hC0 := hC
  obtain ⟨-, -, hml, hown, hts⟩ := hC0
  have hK := hG.1
  have hS : va_S A s.heap s.heap [] := va_S.rf
  have hPr := hR0
  have hinX10 : ∀ w ∈ wsX100, w ∈ wsX10_init := fun _ h => List.mem_cons_of_mem _ (List.mem_append_right _ h)
  have k1 := hts (.methodLink RX10 3 objectInit) (List.mem_of_getElem? (i := 1) rfl)
  have k2 := hts (.instanceMethod objectInit) (List.mem_of_getElem? (i := 2) rfl)
  have k4 := hts (.arrayClass .int) (List.mem_of_getElem? (i := 4) rfl)
  have k5 := hts (.fieldLink RX10 9 "BoatsOfPaper$Text" "bytes" "[I") (List.mem_of_getElem? (i := 5) rfl)
  have k6 := hts (.fieldLink RX10 15 "BoatsOfPaper$Text" "length" "I") (List.mem_of_getElem? (i := 6) rfl)
  have hl : lv_has ls 1 [(0, .ref o1)] := hl
  refine lv_aload_n hx hb dX10_init_0 rfl (lv_at hl 0 rfl) ?_
  refine W.objInit hx hb hown k1 k2 (hts _ (List.mem_of_getElem? (i := 3) rfl)) rfl (by rw [hml]; exact hl.1) rfl dX10_init_1 (Nat.le_of_ble_eq_true rfl) (Nat.le_of_ble_eq_true rfl) ?_
  refine W.eq (g2 := F0 m 4 ls []) rfl ?_
  refine lv_aload_n hx hb dX10_init_4 rfl (lv_at hl 0 rfl) ?_
  refine z_bipush hx hb dX10_init_5 (by decide) ?_
  refine z_newa (a0 := (40, .inl (cI (fun _ => 0)))) (N := 40) (atype := .int) (ty := .int) hx hb k4 rfl hK 0 rfl hP hD hS hA (vz_I 40) (by omega) rfl (by show 40 * 4 ≤ 536870912; omega) (Nat.le_of_ble_eq_true rfl) (Nat.le_of_ble_eq_true rfl) dX10_init_7 (fun q_1 H hP hD hS => ?_)
  sorry
