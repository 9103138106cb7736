/-! ===== the law: calls out of one world of both objects ===== -/
def plc (ws : va_W) (is : List Nat) (wc : va_W) : Prop := is.map (fun i => ws[i]?) = wc.map some
theorem plc_nil {ws : va_W} : plc ws [] [] := rfl
theorem plc_cons {ws : va_W} {i : Nat} {is : List Nat} {c : Nat × va_E} {wc : va_W} (h : ws[i]? = some c) (t : plc ws is wc) : plc ws (i :: is) (c :: wc) := by
  unfold plc at *
  rw [List.map_cons, List.map_cons, h, t]
theorem plc_at {ws wc : va_W} {is : List Nat} (hC : plc ws is wc) {k : Nat} {q : Nat × va_E} (hk : wc[k]? = some q) : ∃ i, is[k]? = some i ∧ ws[i]? = some q := by
  have h1 : (is.map (fun i => ws[i]?))[k]? = some (some q) := by rw [hC, List.getElem?_map, hk]; rfl
  rw [List.getElem?_map] at h1
  cases hi : is[k]? with
  | none => rw [hi] at h1; cases h1
  | some i => rw [hi] at h1; exact ⟨i, rfl, Option.some.inj h1⟩
theorem plc_P {D : va_G} {ws wc : va_W} {H : Heap} {is : List Nat} (hP : va_P D vwCl ws H) (hC : plc ws is wc) : va_P D vwCl wc H := fun k q hk => by
  obtain ⟨i, -, hi⟩ := plc_at hC hk
  exact hP i q hi
def sets : va_W → List Nat → va_W → va_W
  | ws, i :: is, c :: cs => sets (ws.set i c) is cs
  | ws, _, _ => ws
theorem sets_get : ∀ (is : List Nat) (cs ws : va_W), cs.length = is.length → ∀ (k : Nat) (q : Nat × va_E), (sets ws is cs)[k]? = some q → (k ∉ is ∧ ws[k]? = some q) ∨ ∃ j : Nat, is[j]? = some k ∧ cs[j]? = some q
  | [], [], ws, _, k, q, h => Or.inl ⟨by simp, h⟩
  | [], c :: cs, ws, e, k, q, h => by simp at e
  | i :: is, [], ws, e, k, q, h => by simp at e
  | i :: is, c :: cs, ws, e, k, q, h => by
    rcases sets_get is cs (ws.set i c) (by simpa using e) k q h with ⟨h1, h2⟩ | ⟨j, h1, h2⟩
    · by_cases z : k = i
      · subst z
        right
        refine ⟨0, rfl, ?_⟩
        rw [List.getElem?_set, if_pos rfl] at h2
        split at h2
        · rw [← h2]; rfl
        · cases h2
      · left
        rw [List.getElem?_set, if_neg (fun w => z w.symm)] at h2
        exact ⟨by simp [z, h1], h2⟩
    · exact Or.inr ⟨j + 1, h1, h2⟩
theorem z_frm {A0 : Nat → Prop} {D : va_G} {ws wc w1 : va_W} {H H1 : Heap} {isC : List Nat} (hP : va_P D vwCl ws H) (hD : va_D A0 ws) (hC : plc ws isC wc) (hlen : w1.length = isC.length) (hk : ∀ q : Nat, q < H.size → ¬ va_A wc H.size q → H1[q]? = H[q]?) (hF : ∀ q, va_A wc H.size q → A0 q) (hP1 : va_P D vwCl w1 H1) (hD1 : va_D (va_A wc H.size) w1) : va_P D vwCl (sets ws isC w1) H1 ∧ va_D A0 (sets ws isC w1) := by
  have apart : ∀ (k : Nat) (q : Nat × va_E), k ∉ isC → ws[k]? = some q → q.1 < H.size ∧ ¬ va_A wc H.size q.1 := by
    intro k q hn hq
    have hl := (hP k q hq).lt
    refine ⟨hl, fun h => ?_⟩
    rcases h with ⟨k2, e, h⟩ | h
    · obtain ⟨j, h3, h4⟩ := plc_at hC h
      have hij := hD.1 k j q (q.1, e) hq h4 rfl
      subst hij
      exact hn (List.mem_of_getElem? h3)
    · omega
  refine ⟨fun k q hq => ?_, fun i j p q hp hq hpq => ?_, fun k q hq => ?_⟩
  · rcases sets_get _ _ _ hlen k q hq with ⟨h1, h2⟩ | ⟨j, h1, h2⟩
    · exact (hP k q h2).kept (hk q.1 (apart k q h1 h2).1 (apart k q h1 h2).2)
    · exact hP1 j q h2
  · rcases sets_get _ _ _ hlen i p hp with ⟨h1, h2⟩ | ⟨a, h1, h2⟩ <;> rcases sets_get _ _ _ hlen j q hq with ⟨h3, h4⟩ | ⟨b, h3, h4⟩
    · exact hD.1 i j p q h2 h4 hpq
    · exact absurd (by rw [hpq]; exact hD1.2 b q h4) (apart i p h1 h2).2
    · exact absurd (by rw [← hpq]; exact hD1.2 a p h2) (apart j q h3 h4).2
    · have e := hD1.1 a b p q h2 h4 hpq
      subst e
      rw [h1] at h3
      exact Option.some.inj h3
  · rcases sets_get _ _ _ hlen k q hq with ⟨h1, h2⟩ | ⟨j, h1, h2⟩
    · exact hD.2 k q h2
    · exact hF _ (hD1.2 j q h2)
section LWC
variable {p : Program} {l : Launch} {e : Env} {R : Room} {s : State} {m : MethodId} {args : Array Value} {below : List Frame} {meth : Method} {c : Code} {H : Heap} {locs : List Loc} {cells slots : Nat} {Q : State → Prop}
variable {cc : ByteArray} {pc : Nat} {ls : Array Slot} {rest st : List Value} {D : va_G} {y : Nat → ClassId}
variable {nL maxL n index : Nat} {ret : Option FieldType} {wsl wsl' Ts : List Cond} {rm : Room} {own C : String} {yn : MethodName} {bytes : ByteArray} {b : Nat} {As : List Value} {v : Value} {wc : va_W}
variable {A0 A1 : Nat → Prop} {H0 : Heap} {free : Addr → Prop} {S1 : Type} {vf : S1 → Option Value} {post : S1 → Prop} {w1 : S1 → va_W} {ws wr1 : va_W}
theorem z_pL {q : vw_C} (S : CallFix p m c cc nL s args Ts own) (hM : Met l yn wsl rm (pPc D y wc (.ref b :: As)) (qV v) 0 0 (fun _ => False)) (cw : CallW R s args own q.1 index yn bytes maxL ret wsl rm 0 0 n) (hG : gK D y s) (hP : va_P D vwCl ws H) (isO : List Nat) (hO : plc ws isO wc) {ci : Nat} {fs : List Value} (he : wc[0]? = some (b, .inr (ci, fs))) (hc : vwCl[ci]? = some q) (hn : As.length = n) (hsz : ls.size = nL) (hst : st = As.reverse ++ .ref b :: rest) (hW : (rest.map fun v => v.category).sum ≤ 8) (hdg : decode cc pc = .ok (.invokevirtual index, 3)) (hf : cells ≤ R.cells ∧ slots ≤ R.slots)
    (kk : W p l e R s m args below meth c H locs cells slots Q (F0 m (pc + 3) ls (v :: rest))) : W p l e R s m args below meth c H locs cells slots Q (F0 m pc ls st) :=
  z_pV S hM cw hG (plc_P hP hO) 0 he hc hn hsz hst hW hdg hf kk
theorem z_hNr {isO isC : List Nat} (hP : va_P D vwCl ws H) (hD : va_D A0 ws) (hO : plc ws isO wr1) (hC : plc ws isC wc) (hdis : ∀ i ∈ isO, i ∉ isC) : ∀ (k : Nat) (q : Nat × va_E), wr1[k]? = some q → ¬ va_A wc H.size q.1 := by
  intro k q hk hz
  obtain ⟨i, i1, i2⟩ := plc_at hO hk
  rcases hz with ⟨k2, e, h⟩ | h
  · obtain ⟨j, h3, h4⟩ := plc_at hC h
    have hij := hD.1 i j q (q.1, e) i2 h4 rfl
    subst hij
    exact hdis i (List.mem_of_getElem? i1) (List.mem_of_getElem? h3)
  · have := (hP i q i2).lt
    omega
/-- a writing call whose receiver is only read -/
theorem z_wLR {q : vw_C} (S : CallFix p m c cc nL s args Ts own) (hM : Met l yn wsl rm (wPc D y wr1 wc H.size (.ref b :: As)) (wQ D vf post w1 (va_A wc H.size)) 0 0 (va_A wc H.size)) (cw : CallW R s args own q.1 index yn bytes maxL ret wsl rm 0 0 n) (hG : gK D y s) (hP : va_P D vwCl ws H) (hD : va_D A0 ws) (hS : va_S A0 H0 H locs) (hA : ∀ q, H0.size ≤ q → A0 q) (isO isC : List Nat) (hO : plc ws isO wr1) (hC : plc ws isC wc) (hnC : va_nd isC = true) (hdis : ∀ i ∈ isO, i ∉ isC)
    {ci : Nat} {fs : List Value} (he : wr1[0]? = some (b, .inr (ci, fs))) (hc : vwCl[ci]? = some q) (hn : As.length = n) (hsz : ls.size = nL) (hst : st = As.reverse ++ .ref b :: rest) (hW : (rest.map fun v => v.category).sum ≤ 8) (hdg : decode cc pc = .ok (.invokevirtual index, 3)) (hf : cells ≤ R.cells ∧ slots ≤ R.slots) (hlen : ∀ u : S1, (w1 u).length = isC.length)
    (kk : ∀ (u : S1) (H1 : Heap) (locs1 : List Loc), post u → va_P D vwCl (sets ws isC (w1 u)) H1 → va_D A0 (sets ws isC (w1 u)) → va_S A0 H0 H1 locs1 → W p l e R s m args below meth c H1 locs1 cells slots Q (F0 m (pc + 3) ls ((vf u).toList ++ rest))) : W p l e R s m args below meth c H locs cells slots Q (F0 m pc ls st) := by
  have hPc := plc_P hP hC
  have hPr := plc_P hP hO
  have hNr := z_hNr hP hD hO hC hdis
  have hDc : va_D A0 wc := hD.sub isC hnC hC
  have hFc := va_free (wc := wc) hD hS hA isC hC
  exact z_callW (va_runV S hM cw ⟨wPc_blind, va_recv hG.1 hPr hc he, fun U hU hW => ⟨rfl, by rw [hU], by rw [hU]; exact hPr, by rw [hU]; exact hPc, hDc.weaken (fun _ _ _ _ => trivial), hNr, hG.warm hW⟩⟩ rfl hn hsz hst (lv_room hW) hdg hf) hS (fun q _ h => hFc q h) hFc
    (fun u H1 locs1 hp hP1 hD1 hz hk1 hS1 => by
      obtain ⟨j1, j2⟩ := z_frm hP hD hC (hlen u) hk1 hFc hP1 hD1
      exact kk u H1 locs1 hp j1 j2 hS1)
/-- a writing call whose receiver is among what it writes -/
theorem z_wL {q : vw_C} (S : CallFix p m c cc nL s args Ts own) (hM : Met l yn wsl rm (wPc D y wr1 wc H.size (.ref b :: As)) (wQ D vf post w1 (va_A wc H.size)) 0 0 (va_A wc H.size)) (cw : CallW R s args own q.1 index yn bytes maxL ret wsl rm 0 0 n) (hG : gK D y s) (hP : va_P D vwCl ws H) (hD : va_D A0 ws) (hS : va_S A0 H0 H locs) (hA : ∀ q, H0.size ≤ q → A0 q) (isO isC : List Nat) (hO : plc ws isO wr1) (hC : plc ws isC wc) (hnC : va_nd isC = true) (hdis : ∀ i ∈ isO, i ∉ isC)
    {ci : Nat} {fs : List Value} (he : wc[0]? = some (b, .inr (ci, fs))) (hc : vwCl[ci]? = some q) (hn : As.length = n) (hsz : ls.size = nL) (hst : st = As.reverse ++ .ref b :: rest) (hW : (rest.map fun v => v.category).sum ≤ 8) (hdg : decode cc pc = .ok (.invokevirtual index, 3)) (hf : cells ≤ R.cells ∧ slots ≤ R.slots) (hlen : ∀ u : S1, (w1 u).length = isC.length)
    (kk : ∀ (u : S1) (H1 : Heap) (locs1 : List Loc), post u → va_P D vwCl (sets ws isC (w1 u)) H1 → va_D A0 (sets ws isC (w1 u)) → va_S A0 H0 H1 locs1 → W p l e R s m args below meth c H1 locs1 cells slots Q (F0 m (pc + 3) ls ((vf u).toList ++ rest))) : W p l e R s m args below meth c H locs cells slots Q (F0 m pc ls st) := by
  have hPc := plc_P hP hC
  have hPr := plc_P hP hO
  have hNr := z_hNr hP hD hO hC hdis
  have hDc : va_D A0 wc := hD.sub isC hnC hC
  have hFc := va_free (wc := wc) hD hS hA isC hC
  exact z_callW (va_runV S hM cw ⟨wPc_blind, va_recv hG.1 hPc hc he, fun U hU hW => ⟨rfl, by rw [hU], by rw [hU]; exact hPr, by rw [hU]; exact hPc, hDc.weaken (fun _ _ _ _ => trivial), hNr, hG.warm hW⟩⟩ rfl hn hsz hst (lv_room hW) hdg hf) hS (fun q _ h => hFc q h) hFc
    (fun u H1 locs1 hp hP1 hD1 hz hk1 hS1 => by
      obtain ⟨j1, j2⟩ := z_frm hP hD hC (hlen u) hk1 hFc hP1 hD1
      exact kk u H1 locs1 hp j1 j2 hS1)
def sx (xs : Nat → Int32) (j : Int) : Int := (xs j.toNat).toInt
theorem sx_r (xs : Nat → Int32) (j : Int) : rI (sx xs j) := rI_of _
/-- script[i + k] -/
theorem z_arg {x0 m0 L : Nat} {xs : Nat → Int32} {A : Nat → Prop} (hx : p.tables.exec = Jvm.exec) (hb : c.code = cc) (hX : va_X b L xs s s.heap) (hbl : b < s.heap.size) (hbA : ¬ A b) (hS : va_S A s.heap H locs) {i k v : Int} (hl : lv_has ls 4 [(0, .ref b), (1, .ref x0), (2, .ref m0), (3, zi i)]) (hi : 0 ≤ i + k ∧ i + k < L ∧ L ≤ 2560) (hv : sx xs (i + k) = v) (d0 : decode cc pc = .ok (.aload_n 0, 1)) (d1 : decode cc (pc + 1) = .ok (.iload_n 3, 1)) (d2 : decode cc (pc + 1 + 1) = .ok (.iconst k, 1)) (d3 : decode cc (pc + 1 + 1 + 1) = .ok (.iadd, 1)) (d4 : decode cc (pc + 1 + 1 + 1 + 1) = .ok (.iaload, 1))
    (kk : W p l e R s m args below meth c H locs cells slots Q (F0 m (pc + 5) ls (zi v :: rest))) : W p l e R s m args below meth c H locs cells slots Q (F0 m pc ls rest) := by
  refine lv_aload_n hx hb d0 rfl (lv_at hl 0 rfl) ?_
  refine lv_iload_n hx hb d1 rfl (lv_at hl 3 rfl) ?_
  refine z_iconst hx hb d2 ?_
  refine z_iadd hx hb d3 ?_
  refine va_sld hx hb hX hbl hbA hS (iI_in ⟨hi.1, hi.2.1⟩ (by omega)) d4 ?_
  have e9 : (Value.int (xs (iI (i + k)).toNatClampNeg)) = zi v := by
    rw [iI_cl (by omega), ← hv]
    unfold sx
    show _ = Value.int (iI _)
    rw [iI_as]
  rw [e9]
  exact kk
/-- script[..] != 0, as a boolean -/
theorem z_nz (hx : p.tables.exec = Jvm.exec) (hb : c.code = cc) {v : Int} (r : rI v) (d0 : decode cc pc = .ok (.ifCond .eq 7, 3)) (d1 : decode cc (pc + 3) = .ok (.iconst 1, 1)) (d2 : decode cc (pc + 3 + 1) = .ok (.goto 4, 3)) (d3 : decode cc (pc + 7) = .ok (.iconst 0, 1))
    (kk : W p l e R s m args below meth c H locs cells slots Q (F0 m (pc + 8) ls (zi (bI (v ≠ 0)) :: rest))) : W p l e R s m args below meth c H locs cells slots Q (F0 m pc ls (zi v :: rest)) := by
  refine z_if_eq (tgt := pc + 7) hx hb r d0 (by omega) (fun h => ?_) (fun h => ?_)
  · refine z_iconst hx hb d3 ?_
    rw [bI_f (fun z => z h)] at kk
    exact kk
  · refine z_iconst hx hb d1 ?_
    refine lv_goto (tgt := pc + 8) hx hb d2 (by omega) ?_
    rw [bI_t h] at kk
    exact kk
theorem z_long {a : Int64} {v : Int} (hv : a.toInt = v) (kk : W p l e R s m args below meth c H locs cells slots Q (F0 m pc ls (zl v :: rest))) : W p l e R s m args below meth c H locs cells slots Q (F0 m pc ls (.long a :: rest)) := by
  subst hv
  have e9 : zl a.toInt = .long a := by
    show Value.long (iL _) = _
    rw [iL_as]
  rw [e9] at kk
  exact kk
/-- the two answers are the same -/
theorem z_ieq (hx : p.tables.exec = Jvm.exec) (hb : c.code = cc) {a b2 off : Int} {tgt : Nat} (h : a = b2) (hdg : decode cc pc = .ok (.if_icmp .eq off, 3)) (ht : (pc : Int) + off = (tgt : Int)) (kk : W p l e R s m args below meth c H locs cells slots Q (F0 m tgt ls rest)) : W p l e R s m args below meth c H locs cells slots Q (F0 m pc ls (zi b2 :: zi a :: rest)) := by
  subst h
  exact lv_icmp_eq hx hb hdg ht (fun _ => kk) (fun z => absurd rfl z)
theorem z_leq (hx : p.tables.exec = Jvm.exec) (hb : c.code = cc) {a b2 off : Int} {tgt : Nat} (h : a = b2) (hd1 : decode cc pc = .ok (.lcmp, 1)) (hd2 : decode cc (pc + 1) = .ok (.ifCond .eq off, 3)) (ht : ((pc + 1 : Nat) : Int) + off = (tgt : Int)) (kk : W p l e R s m args below meth c H locs cells slots Q (F0 m tgt ls rest)) : W p l e R s m args below meth c H locs cells slots Q (F0 m pc ls (zl b2 :: zl a :: rest)) := by
  subst h
  refine W.lcmp hx hb hd1 ?_
  have e9 : lg_cmp (iL a) (iL a) = 0 := by unfold lg_cmp; simp
  rw [e9]
  exact lv_if_eq hx hb hd2 ht (fun _ => kk) (fun z => absurd rfl z)
end LWC
abbrev A9 (s : State) : Nat → Prop := fun q => s.heap.size ≤ q
/-- the references that lie in the fleets' rows and among the slots -/
def FX (a : Nat → Nat) (q : Nat → Int → Nat) (rf : Nat → Nat → Option Nat) : Prop := (∀ k : Int, 0 ≤ k → k < 6 → rf 0 k.toNat = some (q 0 k)) ∧ (∀ k : Int, 0 ≤ k → k < 6 → rf 1 k.toNat = some (q 4 k)) ∧ (∀ k : Int, 0 ≤ k → k < 6 → rf 2 k.toNat = some (q 8 k)) ∧ rf 3 (0 : Int).toNat = some (a 23) ∧ rf 3 (1 : Int).toNat = some (a 29)
def LX (p : Program) (s : State) (m : MethodId) (c : Code) (b L : Nat) (xs : Nat → Int32) (D : va_G) (y : Nat → ClassId) (a : Nat → Nat) (q : Nat → Int → Nat) (rf : Nat → Nat → Option Nat) : Prop := CallFix p m c cL_law 4 s #[Value.ref b] lw_tbl RL ∧ gK D y s ∧ va_X b L xs s s.heap ∧ b < s.heap.size ∧ L ≤ 2560 ∧ FX a q rf
theorem lk_eq {f g : Int → Int} {n : Int} (h : ∀ k : Int, 0 ≤ k → k < n → f k = g k) : lkV f n = (if sgI g n = 0 then -3 else bstF g (n - 1).toNat) := by
  unfold lkV
  rw [sgI_congr h]
  by_cases c : sgI g n = 0
  · rw [if_pos c, if_pos c]
  · rw [if_neg c, if_neg c]
    have z : 0 < n := by
      by_cases z : 0 < n
      · exact z
      · exfalso
        apply c
        unfold sgI
        rw [show n.toNat = 0 by omega]
        rfl
    exact bstF_congr _ (fun j a b => h j a (by omega))
def W0 (y : Nat → ClassId) (a : Nat → Nat) (q : Nat → Int → Nat) (rf : Nat → Nat → Option Nat) (tn : Int) (TB : Int → Int) (gl : Int) (gp : Int) (gx : Int) (gy : Int) (GK : Int → Int) : va_W := [((a 0), .inr (10, [.ref (a 1), .ref (a 3), .ref (a 5), .ref (a 7), .ref (a 10), .ref (a 11), .ref (a 16), .ref (a 18), .ref (a 19)])), ((a 1), .inr (9, [.ref (a 2), zi tn])), ((a 2), .inl (y 0, 40, .inl (cI TB))), ((a 3), .inr (5, [.ref (a 4), zi gl, zi gp, zi gx, zi gy])), ((a 4), .inl (y 0, 36, .inl (cI GK)))]
def WF (y : Nat → ClassId) (a : Nat → Nat) (q : Nat → Int → Nat) (rf : Nat → Nat → Option Nat) (fn : Int) (BF : Int → Int → Int) (FI : Int → Int → Int) (FJ : Int → Int → Int) (FW : Int → Int → Int) (rn : Int) (rk : Int) (ra : Int) (RF : Int → Int) (RB : Int → Int) : va_W := [((a 5), .inr (4, [.ref (a 6), zi fn])), ((a 6), .inl (y 3, 6, .inr (.inr (.inr (.inr (rf 0)))))), ((q 0 0), .inr (1, [zi (BF 0 0), zi (BF 0 1), zi (BF 0 2), zi (BF 0 3), zi (BF 0 4), zi (BF 0 5), zi (BF 0 6), .ref (q 1 0), .ref (q 2 0), .ref (q 3 0)])), ((q 1 0), .inl (y 0, 8, .inl (cI (FI 0)))), ((q 2 0), .inl (y 0, 8, .inl (cI (FJ 0)))), ((q 3 0), .inl (y 0, 8, .inl (cI (FW 0)))), ((q 0 1), .inr (1, [zi (BF 1 0), zi (BF 1 1), zi (BF 1 2), zi (BF 1 3), zi (BF 1 4), zi (BF 1 5), zi (BF 1 6), .ref (q 1 1), .ref (q 2 1), .ref (q 3 1)])), ((q 1 1), .inl (y 0, 8, .inl (cI (FI 1)))), ((q 2 1), .inl (y 0, 8, .inl (cI (FJ 1)))), ((q 3 1), .inl (y 0, 8, .inl (cI (FW 1)))), ((q 0 2), .inr (1, [zi (BF 2 0), zi (BF 2 1), zi (BF 2 2), zi (BF 2 3), zi (BF 2 4), zi (BF 2 5), zi (BF 2 6), .ref (q 1 2), .ref (q 2 2), .ref (q 3 2)])), ((q 1 2), .inl (y 0, 8, .inl (cI (FI 2)))), ((q 2 2), .inl (y 0, 8, .inl (cI (FJ 2)))), ((q 3 2), .inl (y 0, 8, .inl (cI (FW 2)))), ((q 0 3), .inr (1, [zi (BF 3 0), zi (BF 3 1), zi (BF 3 2), zi (BF 3 3), zi (BF 3 4), zi (BF 3 5), zi (BF 3 6), .ref (q 1 3), .ref (q 2 3), .ref (q 3 3)])), ((q 1 3), .inl (y 0, 8, .inl (cI (FI 3)))), ((q 2 3), .inl (y 0, 8, .inl (cI (FJ 3)))), ((q 3 3), .inl (y 0, 8, .inl (cI (FW 3)))), ((q 0 4), .inr (1, [zi (BF 4 0), zi (BF 4 1), zi (BF 4 2), zi (BF 4 3), zi (BF 4 4), zi (BF 4 5), zi (BF 4 6), .ref (q 1 4), .ref (q 2 4), .ref (q 3 4)])), ((q 1 4), .inl (y 0, 8, .inl (cI (FI 4)))), ((q 2 4), .inl (y 0, 8, .inl (cI (FJ 4)))), ((q 3 4), .inl (y 0, 8, .inl (cI (FW 4)))), ((q 0 5), .inr (1, [zi (BF 5 0), zi (BF 5 1), zi (BF 5 2), zi (BF 5 3), zi (BF 5 4), zi (BF 5 5), zi (BF 5 6), .ref (q 1 5), .ref (q 2 5), .ref (q 3 5)])), ((q 1 5), .inl (y 0, 8, .inl (cI (FI 5)))), ((q 2 5), .inl (y 0, 8, .inl (cI (FJ 5)))), ((q 3 5), .inl (y 0, 8, .inl (cI (FW 5)))), ((a 7), .inr (7, [.ref (a 8), .ref (a 9), zi rn, zi rk, zi ra])), ((a 8), .inl (y 0, 12, .inl (cI RF))), ((a 9), .inl (y 2, 12, .inl (cI RB)))]
def WS (y : Nat → ClassId) (a : Nat → Nat) (q : Nat → Int → Nat) (rf : Nat → Nat → Option Nat) (WA : Int → Int) (PM : Int → Int) (PN : Int → Int) (WY : Int → Int) (dc : Int) (DE : Int → Int) (p1 : Nat) (p2 : Nat) (wl : Int) (HE : Int → Int) (BE : Int → Int) (ck : Int) (cf : Int) (OP : Int → Int) (TM : Int → Int) (SH : Int → Int) : va_W := [((a 10), .inl (y 4, 2, .inr (.inr (.inr (.inr (rf 3)))))), ((a 11), .inr (6, [.ref (a 12), .ref (a 13), .ref (a 14), .ref (a 15)])), ((a 12), .inl (y 0, 256, .inl (cI WA))), ((a 13), .inl (y 0, 256, .inl (cI PM))), ((a 14), .inl (y 0, 256, .inl (cI PN))), ((a 15), .inl (y 0, 256, .inl (cI WY))), ((a 16), .inr (3, [.ref (a 17), zl dc])), ((a 17), .inl (y 1, 12, .inr (.inl (cL DE)))), ((a 18), .inr (0, [.ref p1, .ref p2, zi wl])), (p1, .inl (y 1, 408, .inr (.inl (cL HE)))), (p2, .inl (y 1, 408, .inr (.inl (cL BE)))), ((a 19), .inr (2, [.ref (a 20), .ref (a 21), .ref (a 22), zi ck, zi cf])), ((a 20), .inl (y 2, 3, .inl (cI OP))), ((a 21), .inl (y 0, 3, .inl (cI TM))), ((a 22), .inl (y 0, 3, .inl (cI SH)))]
def WK (y : Nat → ClassId) (a : Nat → Nat) (q : Nat → Int → Nat) (rf : Nat → Nat → Option Nat) (us : Int) (kfn : Int) (KF : Int → Int → Int) (KI : Int → Int → Int) (KJ : Int → Int → Int) (KW : Int → Int → Int) (krn : Int) (krk : Int) (kra : Int) (KRF : Int → Int) (KRB : Int → Int) : va_W := [((a 23), .inr (8, [.ref (a 24), .ref (a 26), zi us])), ((a 24), .inr (4, [.ref (a 25), zi kfn])), ((a 25), .inl (y 3, 6, .inr (.inr (.inr (.inr (rf 1)))))), ((q 4 0), .inr (1, [zi (KF 0 0), zi (KF 0 1), zi (KF 0 2), zi (KF 0 3), zi (KF 0 4), zi (KF 0 5), zi (KF 0 6), .ref (q 5 0), .ref (q 6 0), .ref (q 7 0)])), ((q 5 0), .inl (y 0, 8, .inl (cI (KI 0)))), ((q 6 0), .inl (y 0, 8, .inl (cI (KJ 0)))), ((q 7 0), .inl (y 0, 8, .inl (cI (KW 0)))), ((q 4 1), .inr (1, [zi (KF 1 0), zi (KF 1 1), zi (KF 1 2), zi (KF 1 3), zi (KF 1 4), zi (KF 1 5), zi (KF 1 6), .ref (q 5 1), .ref (q 6 1), .ref (q 7 1)])), ((q 5 1), .inl (y 0, 8, .inl (cI (KI 1)))), ((q 6 1), .inl (y 0, 8, .inl (cI (KJ 1)))), ((q 7 1), .inl (y 0, 8, .inl (cI (KW 1)))), ((q 4 2), .inr (1, [zi (KF 2 0), zi (KF 2 1), zi (KF 2 2), zi (KF 2 3), zi (KF 2 4), zi (KF 2 5), zi (KF 2 6), .ref (q 5 2), .ref (q 6 2), .ref (q 7 2)])), ((q 5 2), .inl (y 0, 8, .inl (cI (KI 2)))), ((q 6 2), .inl (y 0, 8, .inl (cI (KJ 2)))), ((q 7 2), .inl (y 0, 8, .inl (cI (KW 2)))), ((q 4 3), .inr (1, [zi (KF 3 0), zi (KF 3 1), zi (KF 3 2), zi (KF 3 3), zi (KF 3 4), zi (KF 3 5), zi (KF 3 6), .ref (q 5 3), .ref (q 6 3), .ref (q 7 3)])), ((q 5 3), .inl (y 0, 8, .inl (cI (KI 3)))), ((q 6 3), .inl (y 0, 8, .inl (cI (KJ 3)))), ((q 7 3), .inl (y 0, 8, .inl (cI (KW 3)))), ((q 4 4), .inr (1, [zi (KF 4 0), zi (KF 4 1), zi (KF 4 2), zi (KF 4 3), zi (KF 4 4), zi (KF 4 5), zi (KF 4 6), .ref (q 5 4), .ref (q 6 4), .ref (q 7 4)])), ((q 5 4), .inl (y 0, 8, .inl (cI (KI 4)))), ((q 6 4), .inl (y 0, 8, .inl (cI (KJ 4)))), ((q 7 4), .inl (y 0, 8, .inl (cI (KW 4)))), ((q 4 5), .inr (1, [zi (KF 5 0), zi (KF 5 1), zi (KF 5 2), zi (KF 5 3), zi (KF 5 4), zi (KF 5 5), zi (KF 5 6), .ref (q 5 5), .ref (q 6 5), .ref (q 7 5)])), ((q 5 5), .inl (y 0, 8, .inl (cI (KI 5)))), ((q 6 5), .inl (y 0, 8, .inl (cI (KJ 5)))), ((q 7 5), .inl (y 0, 8, .inl (cI (KW 5)))), ((a 26), .inr (7, [.ref (a 27), .ref (a 28), zi krn, zi krk, zi kra])), ((a 27), .inl (y 0, 12, .inl (cI KRF))), ((a 28), .inl (y 2, 12, .inl (cI KRB)))]
def WJ (y : Nat → ClassId) (a : Nat → Nat) (q : Nat → Int → Nat) (rf : Nat → Nat → Option Nat) (vs : Int) (jfn : Int) (JF : Int → Int → Int) (JI : Int → Int → Int) (JJ : Int → Int → Int) (JW : Int → Int → Int) (jrn : Int) (jrk : Int) (jra : Int) (JRF : Int → Int) (JRB : Int → Int) : va_W := [((a 29), .inr (8, [.ref (a 30), .ref (a 32), zi vs])), ((a 30), .inr (4, [.ref (a 31), zi jfn])), ((a 31), .inl (y 3, 6, .inr (.inr (.inr (.inr (rf 2)))))), ((q 8 0), .inr (1, [zi (JF 0 0), zi (JF 0 1), zi (JF 0 2), zi (JF 0 3), zi (JF 0 4), zi (JF 0 5), zi (JF 0 6), .ref (q 9 0), .ref (q 10 0), .ref (q 11 0)])), ((q 9 0), .inl (y 0, 8, .inl (cI (JI 0)))), ((q 10 0), .inl (y 0, 8, .inl (cI (JJ 0)))), ((q 11 0), .inl (y 0, 8, .inl (cI (JW 0)))), ((q 8 1), .inr (1, [zi (JF 1 0), zi (JF 1 1), zi (JF 1 2), zi (JF 1 3), zi (JF 1 4), zi (JF 1 5), zi (JF 1 6), .ref (q 9 1), .ref (q 10 1), .ref (q 11 1)])), ((q 9 1), .inl (y 0, 8, .inl (cI (JI 1)))), ((q 10 1), .inl (y 0, 8, .inl (cI (JJ 1)))), ((q 11 1), .inl (y 0, 8, .inl (cI (JW 1)))), ((q 8 2), .inr (1, [zi (JF 2 0), zi (JF 2 1), zi (JF 2 2), zi (JF 2 3), zi (JF 2 4), zi (JF 2 5), zi (JF 2 6), .ref (q 9 2), .ref (q 10 2), .ref (q 11 2)])), ((q 9 2), .inl (y 0, 8, .inl (cI (JI 2)))), ((q 10 2), .inl (y 0, 8, .inl (cI (JJ 2)))), ((q 11 2), .inl (y 0, 8, .inl (cI (JW 2)))), ((q 8 3), .inr (1, [zi (JF 3 0), zi (JF 3 1), zi (JF 3 2), zi (JF 3 3), zi (JF 3 4), zi (JF 3 5), zi (JF 3 6), .ref (q 9 3), .ref (q 10 3), .ref (q 11 3)])), ((q 9 3), .inl (y 0, 8, .inl (cI (JI 3)))), ((q 10 3), .inl (y 0, 8, .inl (cI (JJ 3)))), ((q 11 3), .inl (y 0, 8, .inl (cI (JW 3)))), ((q 8 4), .inr (1, [zi (JF 4 0), zi (JF 4 1), zi (JF 4 2), zi (JF 4 3), zi (JF 4 4), zi (JF 4 5), zi (JF 4 6), .ref (q 9 4), .ref (q 10 4), .ref (q 11 4)])), ((q 9 4), .inl (y 0, 8, .inl (cI (JI 4)))), ((q 10 4), .inl (y 0, 8, .inl (cI (JJ 4)))), ((q 11 4), .inl (y 0, 8, .inl (cI (JW 4)))), ((q 8 5), .inr (1, [zi (JF 5 0), zi (JF 5 1), zi (JF 5 2), zi (JF 5 3), zi (JF 5 4), zi (JF 5 5), zi (JF 5 6), .ref (q 9 5), .ref (q 10 5), .ref (q 11 5)])), ((q 9 5), .inl (y 0, 8, .inl (cI (JI 5)))), ((q 10 5), .inl (y 0, 8, .inl (cI (JJ 5)))), ((q 11 5), .inl (y 0, 8, .inl (cI (JW 5)))), ((a 32), .inr (7, [.ref (a 33), .ref (a 34), zi jrn, zi jrk, zi jra])), ((a 33), .inl (y 0, 12, .inl (cI JRF))), ((a 34), .inl (y 2, 12, .inl (cI JRB)))]
def WM (y : Nat → ClassId) (a : Nat → Nat) (q : Nat → Int → Nat) (rf : Nat → Nat → Option Nat) (mrl : Int) (mrp : Int) (mgl : Int) (mgp : Int) (mgx : Int) (mgy : Int) (mtn : Int) (mfn : Int) (vw : Int) (vm : Int) (vn : Int) (vc : Int) (fs : Int) (mrn : Int) (MR : Int → Int) (MG : Int → Int) (MT : Int → Int) (MB : Int → Int) (MC : Int → Int) (MRe : Int → Int) (ME : Int → Int) (MCh : Int → Int) (MS : Int → Int) (MF : Int → Int) (MRd : Int → Int) (MIk : Int → Int) (MKm : Int → Int) (MKb : Int → Int) (MKc : Int → Int) (MKf : Int → Int) (MKr : Int → Int) : va_W := [((a 35), .inr (11, [.ref (a 36), zi mrl, zi mrp, .ref (a 37), zi mgl, zi mgp, zi mgx, zi mgy, .ref (a 38), zi mtn, zi mfn, .ref (a 39), .ref (a 40), zi vw, zi vm, zi vn, .ref (a 41), .ref (a 42), zl vc, .ref (a 43), .ref (a 44), zi fs, zi mrn, .ref (a 45), .ref (a 46), .ref (a 47), .ref (a 48), .ref (a 49), .ref (a 50), .ref (a 51), .ref (a 52)])), ((a 36), .inl (y 0, 36, .inl (cI MR))), ((a 37), .inl (y 0, 36, .inl (cI MG))), ((a 38), .inl (y 0, 40, .inl (cI MT))), ((a 39), .inl (y 0, 42, .inl (cI MB))), ((a 40), .inl (y 0, 144, .inl (cI MC))), ((a 41), .inl (y 0, 256, .inl (cI MRe))), ((a 42), .inl (y 1, 12, .inr (.inl (cL ME)))), ((a 43), .inl (y 1, 13312, .inr (.inl (cL MCh)))), ((a 44), .inl (y 0, 3, .inl (cI MS))), ((a 45), .inl (y 0, 12, .inl (cI MF))), ((a 46), .inl (y 2, 12, .inl (cI MRd))), ((a 47), .inl (y 2, 2, .inl (cI MIk))), ((a 48), .inl (y 0, 4, .inl (cI MKm))), ((a 49), .inl (y 0, 84, .inl (cI MKb))), ((a 50), .inl (y 0, 288, .inl (cI MKc))), ((a 51), .inl (y 0, 24, .inl (cI MKf))), ((a 52), .inl (y 2, 24, .inl (cI MKr)))]
def W1 (y : Nat → ClassId) (a : Nat → Nat) (q : Nat → Int → Nat) (rf : Nat → Nat → Option Nat) (tn : Int) (TB : Int → Int) (gl : Int) (gp : Int) (gx : Int) (gy : Int) (GK : Int → Int) (fn : Int) (BF : Int → Int → Int) (FI : Int → Int → Int) (FJ : Int → Int → Int) (FW : Int → Int → Int) (rn : Int) (rk : Int) (ra : Int) (RF : Int → Int) (RB : Int → Int) (WA : Int → Int) (PM : Int → Int) (PN : Int → Int) (WY : Int → Int) (dc : Int) (DE : Int → Int) (p1 : Nat) (p2 : Nat) (wl : Int) (HE : Int → Int) (BE : Int → Int) (ck : Int) (cf : Int) (OP : Int → Int) (TM : Int → Int) (SH : Int → Int) : va_W := (W0 y a q rf tn TB gl gp gx gy GK) ++ ((WF y a q rf fn BF FI FJ FW rn rk ra RF RB) ++ (WS y a q rf WA PM PN WY dc DE p1 p2 wl HE BE ck cf OP TM SH))
def WL (y : Nat → ClassId) (a : Nat → Nat) (q : Nat → Int → Nat) (rf : Nat → Nat → Option Nat) (tn : Int) (TB : Int → Int) (gl : Int) (gp : Int) (gx : Int) (gy : Int) (GK : Int → Int) (fn : Int) (BF : Int → Int → Int) (FI : Int → Int → Int) (FJ : Int → Int → Int) (FW : Int → Int → Int) (rn : Int) (rk : Int) (ra : Int) (RF : Int → Int) (RB : Int → Int) (WA : Int → Int) (PM : Int → Int) (PN : Int → Int) (WY : Int → Int) (dc : Int) (DE : Int → Int) (p1 : Nat) (p2 : Nat) (wl : Int) (HE : Int → Int) (BE : Int → Int) (ck : Int) (cf : Int) (OP : Int → Int) (TM : Int → Int) (SH : Int → Int) (us : Int) (kfn : Int) (KF : Int → Int → Int) (KI : Int → Int → Int) (KJ : Int → Int → Int) (KW : Int → Int → Int) (krn : Int) (krk : Int) (kra : Int) (KRF : Int → Int) (KRB : Int → Int) (vs : Int) (jfn : Int) (JF : Int → Int → Int) (JI : Int → Int → Int) (JJ : Int → Int → Int) (JW : Int → Int → Int) (jrn : Int) (jrk : Int) (jra : Int) (JRF : Int → Int) (JRB : Int → Int) (mrl : Int) (mrp : Int) (mgl : Int) (mgp : Int) (mgx : Int) (mgy : Int) (mtn : Int) (mfn : Int) (vw : Int) (vm : Int) (vn : Int) (vc : Int) (fs : Int) (mrn : Int) (MR : Int → Int) (MG : Int → Int) (MT : Int → Int) (MB : Int → Int) (MC : Int → Int) (MRe : Int → Int) (ME : Int → Int) (MCh : Int → Int) (MS : Int → Int) (MF : Int → Int) (MRd : Int → Int) (MIk : Int → Int) (MKm : Int → Int) (MKb : Int → Int) (MKc : Int → Int) (MKf : Int → Int) (MKr : Int → Int) : va_W := (W1 y a q rf tn TB gl gp gx gy GK fn BF FI FJ FW rn rk ra RF RB WA PM PN WY dc DE p1 p2 wl HE BE ck cf OP TM SH) ++ ((WK y a q rf us kfn KF KI KJ KW krn krk kra KRF KRB) ++ ((WJ y a q rf vs jfn JF JI JJ JW jrn jrk jra JRF JRB) ++ (WM y a q rf mrl mrp mgl mgp mgx mgy mtn mfn vw vm vn vc fs mrn MR MG MT MB MC MRe ME MCh MS MF MRd MIk MKm MKb MKc MKf MKr)))
section WLS
variable {y : Nat → ClassId} {a : Nat → Nat} {q : Nat → Int → Nat} {rf : Nat → Nat → Option Nat} {tn : Int} {TB : Int → Int} {gl : Int} {gp : Int} {gx : Int} {gy : Int} {GK : Int → Int} {fn : Int} {BF : Int → Int → Int} {FI : Int → Int → Int} {FJ : Int → Int → Int} {FW : Int → Int → Int} {rn : Int} {rk : Int} {ra : Int} {RF : Int → Int} {RB : Int → Int} {WA : Int → Int} {PM : Int → Int} {PN : Int → Int} {WY : Int → Int} {dc : Int} {DE : Int → Int} {p1 : Nat} {p2 : Nat} {wl : Int} {HE : Int → Int} {BE : Int → Int} {ck : Int} {cf : Int} {OP : Int → Int} {TM : Int → Int} {SH : Int → Int} {us : Int} {kfn : Int} {KF : Int → Int → Int} {KI : Int → Int → Int} {KJ : Int → Int → Int} {KW : Int → Int → Int} {krn : Int} {krk : Int} {kra : Int} {KRF : Int → Int} {KRB : Int → Int} {vs : Int} {jfn : Int} {JF : Int → Int → Int} {JI : Int → Int → Int} {JJ : Int → Int → Int} {JW : Int → Int → Int} {jrn : Int} {jrk : Int} {jra : Int} {JRF : Int → Int} {JRB : Int → Int} {mrl : Int} {mrp : Int} {vw : Int} {vm : Int} {vn : Int} {vc : Int} {fs : Int} {MR : Int → Int} {MG : Int → Int} {MT : Int → Int} {MB : Int → Int} {MC : Int → Int} {MRe : Int → Int} {ME : Int → Int} {MCh : Int → Int} {MS : Int → Int} {MF : Int → Int} {MRd : Int → Int} {MIk : Int → Int} {MKm : Int → Int} {MKb : Int → Int} {MKc : Int → Int} {MKf : Int → Int} {MKr : Int → Int} {mgl : Int} {mgp : Int} {mgx : Int} {mgy : Int} {mtn : Int} {mfn : Int} {mrn : Int}
theorem bt_0 {k : Int} (k0 : 0 ≤ k) (k1 : k < 6) : (WL y a q rf tn TB gl gp gx gy GK fn BF FI FJ FW rn rk ra RF RB WA PM PN WY dc DE p1 p2 wl HE BE ck cf OP TM SH us kfn KF KI KJ KW krn krk kra KRF KRB vs jfn JF JI JJ JW jrn jrk jra JRF JRB mrl mrp mgl mgp mgx mgy mtn mfn vw vm vn vc fs mrn MR MG MT MB MC MRe ME MCh MS MF MRd MIk MKm MKb MKc MKf MKr)[7 + 4 * k.toNat]? = some ((q 0 k), .inr (1, [zi (BF k 0), zi (BF k 1), zi (BF k 2), zi (BF k 3), zi (BF k 4), zi (BF k 5), zi (BF k 6), .ref (q 1 k), .ref (q 2 k), .ref (q 3 k)])) := by
  rcases (by omega : k = 0 ∨ k = 1 ∨ k = 2 ∨ k = 3 ∨ k = 4 ∨ k = 5) with e | e | e | e | e | e <;> subst e <;> rfl
theorem bt_1 {k : Int} (k0 : 0 ≤ k) (k1 : k < 6) : (WL y a q rf tn TB gl gp gx gy GK fn BF FI FJ FW rn rk ra RF RB WA PM PN WY dc DE p1 p2 wl HE BE ck cf OP TM SH us kfn KF KI KJ KW krn krk kra KRF KRB vs jfn JF JI JJ JW jrn jrk jra JRF JRB mrl mrp mgl mgp mgx mgy mtn mfn vw vm vn vc fs mrn MR MG MT MB MC MRe ME MCh MS MF MRd MIk MKm MKb MKc MKf MKr)[7 + 4 * k.toNat + 1]? = some ((q 1 k), .inl (y 0, 8, .inl (cI (FI k)))) := by
  rcases (by omega : k = 0 ∨ k = 1 ∨ k = 2 ∨ k = 3 ∨ k = 4 ∨ k = 5) with e | e | e | e | e | e <;> subst e <;> rfl
theorem bt_2 {k : Int} (k0 : 0 ≤ k) (k1 : k < 6) : (WL y a q rf tn TB gl gp gx gy GK fn BF FI FJ FW rn rk ra RF RB WA PM PN WY dc DE p1 p2 wl HE BE ck cf OP TM SH us kfn KF KI KJ KW krn krk kra KRF KRB vs jfn JF JI JJ JW jrn jrk jra JRF JRB mrl mrp mgl mgp mgx mgy mtn mfn vw vm vn vc fs mrn MR MG MT MB MC MRe ME MCh MS MF MRd MIk MKm MKb MKc MKf MKr)[7 + 4 * k.toNat + 2]? = some ((q 2 k), .inl (y 0, 8, .inl (cI (FJ k)))) := by
  rcases (by omega : k = 0 ∨ k = 1 ∨ k = 2 ∨ k = 3 ∨ k = 4 ∨ k = 5) with e | e | e | e | e | e <;> subst e <;> rfl
theorem bt_3 {k : Int} (k0 : 0 ≤ k) (k1 : k < 6) : (WL y a q rf tn TB gl gp gx gy GK fn BF FI FJ FW rn rk ra RF RB WA PM PN WY dc DE p1 p2 wl HE BE ck cf OP TM SH us kfn KF KI KJ KW krn krk kra KRF KRB vs jfn JF JI JJ JW jrn jrk jra JRF JRB mrl mrp mgl mgp mgx mgy mtn mfn vw vm vn vc fs mrn MR MG MT MB MC MRe ME MCh MS MF MRd MIk MKm MKb MKc MKf MKr)[7 + 4 * k.toNat + 3]? = some ((q 3 k), .inl (y 0, 8, .inl (cI (FW k)))) := by
  rcases (by omega : k = 0 ∨ k = 1 ∨ k = 2 ∨ k = 3 ∨ k = 4 ∨ k = 5) with e | e | e | e | e | e <;> subst e <;> rfl
theorem bt_nd2 {n : Nat} : va_nd [5, 7 + 4 * n] = true := by
  simp [va_nd]
  omega
theorem bt_nd {k : Int} (k0 : 0 ≤ k) (k1 : k < 6) : va_nd [7 + 4 * k.toNat, 7 + 4 * k.toNat + 1, 7 + 4 * k.toNat + 2, 7 + 4 * k.toNat + 3] = true := by
  rcases (by omega : k = 0 ∨ k = 1 ∨ k = 2 ∨ k = 3 ∨ k = 4 ∨ k = 5) with e | e | e | e | e | e <;> subst e <;> decide
theorem bw_1 {k v0 v1 v2 v3 v4 v5 v6 : Int} (k0 : 0 ≤ k) (k1 : k < 6) : sets (WL y a q rf tn TB gl gp gx gy GK fn BF FI FJ FW rn rk ra RF RB WA PM PN WY dc DE p1 p2 wl HE BE ck cf OP TM SH us kfn KF KI KJ KW krn krk kra KRF KRB vs jfn JF JI JJ JW jrn jrk jra JRF JRB mrl mrp mgl mgp mgx mgy mtn mfn vw vm vn vc fs mrn MR MG MT MB MC MRe ME MCh MS MF MRd MIk MKm MKb MKc MKf MKr) [7 + 4 * k.toNat] [(q 0 k, .inr (1, [zi v0, zi v1, zi v2, zi v3, zi v4, zi v5, zi v6, .ref (q 1 k), .ref (q 2 k), .ref (q 3 k)]))] = (WL y a q rf tn TB gl gp gx gy GK fn (bset BF k v0 v1 v2 v3 v4 v5 v6) FI FJ FW rn rk ra RF RB WA PM PN WY dc DE p1 p2 wl HE BE ck cf OP TM SH us kfn KF KI KJ KW krn krk kra KRF KRB vs jfn JF JI JJ JW jrn jrk jra JRF JRB mrl mrp mgl mgp mgx mgy mtn mfn vw vm vn vc fs mrn MR MG MT MB MC MRe ME MCh MS MF MRd MIk MKm MKb MKc MKf MKr) := by
  rcases (by omega : k = 0 ∨ k = 1 ∨ k = 2 ∨ k = 3 ∨ k = 4 ∨ k = 5) with e | e | e | e | e | e <;> subst e <;> rfl
theorem bw_2 {k n9 v0 v1 v2 v3 v4 v5 v6 : Int} (k0 : 0 ≤ k) (k1 : k < 6) : sets (WL y a q rf tn TB gl gp gx gy GK fn BF FI FJ FW rn rk ra RF RB WA PM PN WY dc DE p1 p2 wl HE BE ck cf OP TM SH us kfn KF KI KJ KW krn krk kra KRF KRB vs jfn JF JI JJ JW jrn jrk jra JRF JRB mrl mrp mgl mgp mgx mgy mtn mfn vw vm vn vc fs mrn MR MG MT MB MC MRe ME MCh MS MF MRd MIk MKm MKb MKc MKf MKr) [5, 7 + 4 * k.toNat] [(a 5, .inr (4, [.ref (a 6), zi n9])), (q 0 k, .inr (1, [zi v0, zi v1, zi v2, zi v3, zi v4, zi v5, zi v6, .ref (q 1 k), .ref (q 2 k), .ref (q 3 k)]))] = (WL y a q rf tn TB gl gp gx gy GK n9 (bset BF k v0 v1 v2 v3 v4 v5 v6) FI FJ FW rn rk ra RF RB WA PM PN WY dc DE p1 p2 wl HE BE ck cf OP TM SH us kfn KF KI KJ KW krn krk kra KRF KRB vs jfn JF JI JJ JW jrn jrk jra JRF JRB mrl mrp mgl mgp mgx mgy mtn mfn vw vm vn vc fs mrn MR MG MT MB MC MRe ME MCh MS MF MRd MIk MKm MKb MKc MKf MKr) := by
  rcases (by omega : k = 0 ∨ k = 1 ∨ k = 2 ∨ k = 3 ∨ k = 4 ∨ k = 5) with e | e | e | e | e | e <;> subst e <;> rfl
theorem bw_4 {k v0 v1 v2 v3 v4 v5 v6 : Int} {G1 G2 G3 : Int → Int} (k0 : 0 ≤ k) (k1 : k < 6) : sets (WL y a q rf tn TB gl gp gx gy GK fn BF FI FJ FW rn rk ra RF RB WA PM PN WY dc DE p1 p2 wl HE BE ck cf OP TM SH us kfn KF KI KJ KW krn krk kra KRF KRB vs jfn JF JI JJ JW jrn jrk jra JRF JRB mrl mrp mgl mgp mgx mgy mtn mfn vw vm vn vc fs mrn MR MG MT MB MC MRe ME MCh MS MF MRd MIk MKm MKb MKc MKf MKr) [7 + 4 * k.toNat, 7 + 4 * k.toNat + 1, 7 + 4 * k.toNat + 2, 7 + 4 * k.toNat + 3] [(q 0 k, .inr (1, [zi v0, zi v1, zi v2, zi v3, zi v4, zi v5, zi v6, .ref (q 1 k), .ref (q 2 k), .ref (q 3 k)])), (q 1 k, .inl (y 0, 8, .inl (cI G1))), (q 2 k, .inl (y 0, 8, .inl (cI G2))), (q 3 k, .inl (y 0, 8, .inl (cI G3)))] = (WL y a q rf tn TB gl gp gx gy GK fn (bset BF k v0 v1 v2 v3 v4 v5 v6) (cset FI k G1) (cset FJ k G2) (cset FW k G3) rn rk ra RF RB WA PM PN WY dc DE p1 p2 wl HE BE ck cf OP TM SH us kfn KF KI KJ KW krn krk kra KRF KRB vs jfn JF JI JJ JW jrn jrk jra JRF JRB mrl mrp mgl mgp mgx mgy mtn mfn vw vm vn vc fs mrn MR MG MT MB MC MRe ME MCh MS MF MRd MIk MKm MKb MKc MKf MKr) := by
  rcases (by omega : k = 0 ∨ k = 1 ∨ k = 2 ∨ k = 3 ∨ k = 4 ∨ k = 5) with e | e | e | e | e | e <;> subst e <;> rfl
end WLS
def WI (D : va_G) (y : Nat → ClassId) (a : Nat → Nat) (q : Nat → Int → Nat) (rf : Nat → Nat → Option Nat) (s : State) (H : Heap) (locs : List Loc) : Prop := ∃ (tn : Int) (TB : Int → Int) (gl : Int) (gp : Int) (gx : Int) (gy : Int) (GK : Int → Int) (fn : Int) (BF : Int → Int → Int) (FI : Int → Int → Int) (FJ : Int → Int → Int) (FW : Int → Int → Int) (rn : Int) (rk : Int) (ra : Int) (RF : Int → Int) (RB : Int → Int) (WA : Int → Int) (PM : Int → Int) (PN : Int → Int) (WY : Int → Int) (dc : Int) (DE : Int → Int) (p1 : Nat) (p2 : Nat) (wl : Int) (HE : Int → Int) (BE : Int → Int) (ck : Int) (cf : Int) (OP : Int → Int) (TM : Int → Int) (SH : Int → Int) (us : Int) (kfn : Int) (KF : Int → Int → Int) (KI : Int → Int → Int) (KJ : Int → Int → Int) (KW : Int → Int → Int) (krn : Int) (krk : Int) (kra : Int) (KRF : Int → Int) (KRB : Int → Int) (vs : Int) (jfn : Int) (JF : Int → Int → Int) (JI : Int → Int → Int) (JJ : Int → Int → Int) (JW : Int → Int → Int) (jrn : Int) (jrk : Int) (jra : Int) (JRF : Int → Int) (JRB : Int → Int) (mrl : Int) (mrp : Int) (vw : Int) (vm : Int) (vn : Int) (vc : Int) (fs : Int) (MR : Int → Int) (MG : Int → Int) (MT : Int → Int) (MB : Int → Int) (MC : Int → Int) (MRe : Int → Int) (ME : Int → Int) (MCh : Int → Int) (MS : Int → Int) (MF : Int → Int) (MRd : Int → Int) (MIk : Int → Int) (MKm : Int → Int) (MKb : Int → Int) (MKc : Int → Int) (MKf : Int → Int) (MKr : Int → Int), va_P D vwCl (WL y a q rf tn TB gl gp gx gy GK fn BF FI FJ FW rn rk ra RF RB WA PM PN WY dc DE p1 p2 wl HE BE ck cf OP TM SH us kfn KF KI KJ KW krn krk kra KRF KRB vs jfn JF JI JJ JW jrn jrk jra JRF JRB mrl mrp gl gp gx gy tn fn vw vm vn vc fs rn MR MG MT MB MC MRe ME MCh MS MF MRd MIk MKm MKb MKc MKf MKr) H ∧ va_D (A9 s) (WL y a q rf tn TB gl gp gx gy GK fn BF FI FJ FW rn rk ra RF RB WA PM PN WY dc DE p1 p2 wl HE BE ck cf OP TM SH us kfn KF KI KJ KW krn krk kra KRF KRB vs jfn JF JI JJ JW jrn jrk jra JRF JRB mrl mrp gl gp gx gy tn fn vw vm vn vc fs rn MR MG MT MB MC MRe ME MCh MS MF MRd MIk MKm MKb MKc MKf MKr) ∧ va_S (A9 s) s.heap H locs ∧ IT tn TB MT ∧ IG gl gp gx gy GK MG ∧ IFl fn BF FI FJ FW MB MC ∧ IR rn RF RB MF MRd ∧ IS 0 us kfn KF KI KJ KW krn KRF KRB MIk MKm MKb MKc MKf MKr ∧ IS 1 vs jfn JF JI JJ JW jrn JRF JRB MIk MKm MKb MKc MKf MKr ∧ wOK HE ∧ wOK BE
