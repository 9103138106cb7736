section ZC
variable {p : Program} {l : Launch} {e : Env} {R : Room} {s : State} {m : MethodId} {args : Array Value} {below : List Frame} {meth : Method} {c : Code} {H : Heap} {locs : List Loc} {cells slots : Nat} {Q : State → Prop}
variable {cc : ByteArray} {pc : Nat} {ls : Array Slot} {rest st : List Value} {D : va_G} {y : Nat → ClassId}
variable {nL maxL mc ms n index : Nat} {ret : Option FieldType} {wsl wsl' Ts : List Cond} {rm : Room} {own C : String} {yn : MethodName} {bytes : ByteArray} {b : Nat} {As : List Value} {v : Value} {wc : va_W}
variable {A0 A1 : Nat → Prop} {H0 : Heap} {free : Addr → Prop} {S1 : Type} {vf : S1 → Option Value} {post : S1 → Prop} {w1 : S1 → va_W} {ws wr1 wrest : va_W}
/-- a call of a method that writes: its cells are cut out of the caller's and come back behind the others -/
theorem z_wR {q : vw_C} (S : CallFix p m c cc nL s args Ts own) (hM : Met l yn wsl rm (wPc D y wr1 wc H.size (.ref b :: As)) (wQ D vf post w1 (va_A wc H.size)) mc ms (va_A wc H.size)) (cw : CallW R s args own q.1 index yn bytes maxL ret wsl rm mc ms n) (hG : gK D y s) (hP : va_P D vwCl ws H) (hD : va_D A0 ws) (hS : va_S A0 H0 H locs) (hA : ∀ q, H0.size ≤ q → A0 q) (isC isR : List Nat) (hC : isC.map (fun i => ws[i]?) = wc.map some) (hR : isR.map (fun i => ws[i]?) = wrest.map some) (hnC : va_nd isC = true) (hnR : va_nd isR = true) (hdis : ∀ i ∈ isR, i ∉ isC)
    (hPr : va_P D vwCl wr1 H) (hNr : ∀ (k : Nat) (q : Nat × va_E), wr1[k]? = some q → ¬ va_A wc H.size q.1) (q0 : Nat) {ci : Nat} {fs : List Value} (he : wr1[q0]? = some (b, .inr (ci, fs))) (hc : vwCl[ci]? = some q) (hn : As.length = n) (hsz : ls.size = nL) (hst : st = As.reverse ++ .ref b :: rest) (hW : (rest.map fun v => v.category).sum ≤ 8) (hdg : decode cc pc = .ok (.invokevirtual index, 3)) (hf : cells + mc ≤ R.cells ∧ slots + ms ≤ R.slots)
    (kk : ∀ (u : S1) (H1 : Heap) (locs1 : List Loc), post u → va_P D vwCl (wrest ++ w1 u) H1 → va_D A0 (wrest ++ w1 u) → va_S A0 H0 H1 locs1 → W p l e R s m args below meth c H1 locs1 (cells + mc) (slots + ms) Q (F0 m (pc + 3) ls ((vf u).toList ++ rest))) : W p l e R s m args below meth c H locs cells slots Q (F0 m pc ls st) := by
  have hPc : va_P D vwCl wc H := fun k q hk => by
    have h1 : (isC.map (fun i => ws[i]?))[k]? = some (some q) := by rw [hC, List.getElem?_map, hk]; rfl
    rw [List.getElem?_map] at h1
    cases hi : isC[k]? with
    | none => rw [hi] at h1; cases h1
    | some i => rw [hi] at h1; exact hP i q (Option.some.inj h1)
  have hDc : va_D A0 wc := hD.sub isC hnC hC
  have hFc := va_free (wc := wc) hD hS hA isC hC
  exact z_callW (va_runV S hM cw ⟨wPc_blind, va_recv hG.1 hPr hc he, fun U hU hW => ⟨rfl, by rw [hU], by rw [hU]; exact hPr, by rw [hU]; exact hPc, hDc.weaken (fun _ _ _ _ => trivial), hNr, hG.warm hW⟩⟩ rfl hn hsz hst (lv_room hW) hdg hf) hS (fun q _ h => hFc q h) hFc
    (fun u H1 locs1 hp hP1 hD1 hz hk1 hS1 => by
      obtain ⟨j1, j2⟩ := va_join hP hD isC isR hC hR hnR hdis hk1 hFc hP1 hD1
      exact kk u H1 locs1 hp j1 j2 hS1)
end ZC
def xLife (BF FI FJ FW : Int → Int → Int) (b : Int) : Int := lifeV (BF b 0) (BF b 1) (BF b 2) (BF b 3) (BF b 4) (BF b 5) (BF b 6) (FI b) (FJ b) (FW b)
def lkV (g : Int → Int) (k : Int) : Int := if sgI g k = 0 then -3 else bstF g (k - 1).toNat
def lkG (g : Int → Int) (k : Int) : Int := if sgI g k = 0 then 0 else g (bstF g (k - 1).toNat)
theorem sg_zero {f : Int → Int} (h : ∀ b : Int, 0 ≤ b → 0 ≤ f b) : ∀ n : Nat, sg f n = 0 → ∀ j : Int, 0 ≤ j → j < n → f j = 0
  | 0, _, j, h0, h1 => by omega
  | n + 1, e, j, h0, h1 => by
    have p := sg_nn h n
    have q := h (n : Int) (by omega)
    have e2 : sg f n + f n = 0 := e
    by_cases c : j = n
    · rw [c]; omega
    · exact sg_zero h n (by omega) j h0 (by omega)
theorem lk_s {g : Int → Int} (h : ∀ b : Int, 0 ≤ b → 0 ≤ g b) {k : Int} (hk : 0 ≤ k) : lkV g (k + 1) = (if lkG g k < g k then k else lkV g k) ∧ lkG g (k + 1) = (if lkG g k < g k then g k else lkG g k) := by
  have p : 0 ≤ sgI g k := sg_nn h k.toNat
  have q := h k hk
  unfold lkV lkG
  rw [sgI_s g hk]
  by_cases c : sgI g k = 0
  · rw [if_pos c, if_pos c, c, Int.zero_add]
    by_cases d : g k = 0
    · rw [if_pos d, if_pos d, if_neg (by omega), if_neg (by omega)]
      exact ⟨rfl, rfl⟩
    · rw [if_neg d, if_neg d, if_pos (by omega), if_pos (by omega)]
      have e : bstF g (k + 1 - 1).toNat = k := by
        by_cases z : k = 0
        · subst z; rfl
        · rw [bstF_s g (by omega)]
          have b := bstF_bd g (k - 1).toNat
          have s0 := sg_zero h k.toNat c (bstF g (k - 1).toNat) b.1 (by omega)
          rw [if_pos (by omega)]
      rw [e]
      exact ⟨rfl, rfl⟩
  · have c2 : ¬ (sgI g k + g k = 0) := by omega
    rw [if_neg c2, if_neg c2, if_neg c, if_neg c]
    have k1 : 1 ≤ k := by
      by_cases z : k = 0
      · subst z; exact absurd rfl c
      · omega
    rw [bstF_s g k1]
    by_cases d : g (bstF g (k - 1).toNat) < g k
    · refine ⟨?_, ?_⟩ <;> simp only [if_pos d]
    · refine ⟨?_, ?_⟩ <;> simp only [if_neg d]
set_option maxHeartbeats 8000000 in
set_option maxRecDepth 100000 in
theorem c_X4_allCoins (l : Launch) (D : va_G) (y : Nat → ClassId) (f0 : Nat) (fa : Nat) (fn : Int) (fr : Nat → Option Nat) (bh : Int → Nat) (ba : Int → Nat) (bb : Int → Nat) (bc : Int → Nat) (BF : Int → Int → Int) (hfr : ∀ k : Int, 0 ≤ k → k < 6 → fr k.toNat = some (bh k)) (hfn : 0 ≤ fn ∧ fn ≤ 6) : Met l yX4_allCoins wsX4_allCoins ({ frames := 0, cells := 0, slots := 0, locals := 0 } : Room) (pPc D y [(f0, .inr (4, [.ref fa, zi fn])), (fa, .inl (y 3, 6, .inr (.inr (.inr (.inr fr))))), ((bh 0), .inr (1, [zi (BF 0 0), zi (BF 0 1), zi (BF 0 2), zi (BF 0 3), zi (BF 0 4), zi (BF 0 5), zi (BF 0 6), .ref (ba 0), .ref (bb 0), .ref (bc 0)])), ((bh 1), .inr (1, [zi (BF 1 0), zi (BF 1 1), zi (BF 1 2), zi (BF 1 3), zi (BF 1 4), zi (BF 1 5), zi (BF 1 6), .ref (ba 1), .ref (bb 1), .ref (bc 1)])), ((bh 2), .inr (1, [zi (BF 2 0), zi (BF 2 1), zi (BF 2 2), zi (BF 2 3), zi (BF 2 4), zi (BF 2 5), zi (BF 2 6), .ref (ba 2), .ref (bb 2), .ref (bc 2)])), ((bh 3), .inr (1, [zi (BF 3 0), zi (BF 3 1), zi (BF 3 2), zi (BF 3 3), zi (BF 3 4), zi (BF 3 5), zi (BF 3 6), .ref (ba 3), .ref (bb 3), .ref (bc 3)])), ((bh 4), .inr (1, [zi (BF 4 0), zi (BF 4 1), zi (BF 4 2), zi (BF 4 3), zi (BF 4 4), zi (BF 4 5), zi (BF 4 6), .ref (ba 4), .ref (bb 4), .ref (bc 4)])), ((bh 5), .inr (1, [zi (BF 5 0), zi (BF 5 1), zi (BF 5 2), zi (BF 5 3), zi (BF 5 4), zi (BF 5 5), zi (BF 5 6), .ref (ba 5), .ref (bb 5), .ref (bc 5)]))] [.ref f0]) (qV (zi (sgI (fun b => BF b 6) fn))) 0 0 (fun _ => False) := by
  refine P_of (own := RX4) (cc := cX4_allCoins) (maxL := 3) (ret := some .int) (by decide) rfl rfl (Nat.le_of_ble_eq_true rfl) (fun p e s m below meth c ls hx hb hr hC hlocks hPr hG hl => ?_)
  have hC0 := hC
  obtain ⟨-, -, hml, hown, hts⟩ := hC0
  have hK := hG.1
  have hinX4 : ∀ w ∈ wsX40, w ∈ wsX4_allCoins := fun _ h => List.mem_cons_of_mem _ (List.mem_append_left _ (List.mem_append_right _ h))
  have hinX1 : ∀ w ∈ wsX10, w ∈ wsX4_allCoins := fun _ h => List.mem_cons_of_mem _ (List.mem_append_right _ h)
  have k1 := hts (.fieldLink RX4 17 "BoatsOfPaper$Fleet" "size" "I") (List.mem_of_getElem? (i := 1) rfl)
  have k2 := hts (.fieldLink RX4 11 "BoatsOfPaper$Fleet" "boats" "[LBoatsOfPaper$Boat;") (List.mem_of_getElem? (i := 2) rfl)
  have k3 := hts (.fieldLink RX4 26 "BoatsOfPaper$Boat" "coins" "I") (List.mem_of_getElem? (i := 3) rfl)
  have hl : lv_has ls 3 [(0, .ref f0)] := hl
  refine z_iconst hx hb dX4_allCoins_0 ?_
  refine lv_istore_n (lv' := [(1, zi 0), (0, .ref f0)]) hx hb dX4_allCoins_1 rfl hl (by decide) rfl (fun ls hl => ?_)
  refine z_iconst hx hb dX4_allCoins_2 ?_
  refine lv_istore_n (lv' := [(2, zi 0), (1, zi 0), (0, .ref f0)]) hx hb dX4_allCoins_3 rfl hl (by decide) rfl (fun ls hl => ?_)
  refine z_loop (σ := Int × Int) (fun x9 H lc ls => match x9 with | (v, k) => ((0 ≤ k ∧ k ≤ fn) ∧ v = sgI (fun b => BF b 6) k) ∧ lv_has ls 3 [(2, zi k), (1, zi v), (0, .ref f0)] ∧ H = s.heap ∧ lc = []) (fun x9  => match x9 with | (v, k) => ((fn - k).toNat)) ?_ (0, 0) ⟨⟨by omega, rfl⟩, lv_sub hl [0, 1, 2] rfl, rfl, rfl⟩
  rintro ⟨v, k⟩ H lc ls ⟨hi4, hl, rfl, rfl⟩ ih4
  refine lv_iload_n hx hb dX4_allCoins_4 rfl (lv_at hl 0 rfl) ?_
  refine lv_aload_n hx hb dX4_allCoins_5 rfl (lv_at hl 2 rfl) ?_
  refine va_get hx hb hts hinX4 hown hK hPr 0 rfl rfl 1 (by decide) k1 (fun _ h => h) rfl dX4_allCoins_6 ?_
  refine z_icmp_ge (tgt := 30) hx hb (by omega) (by omega) dX4_allCoins_9 (by decide) (fun c_9 => ?_) (fun c_9 => ?_)
  ·
    refine lv_iload_n hx hb dX4_allCoins_30 rfl (lv_at hl 1 rfl) ?_
    exact z_iret0 hx hb hr hlocks (by rw [hi4.2, show k = fn by omega]) dX4_allCoins_31
  ·
    rcases (by omega : k = 0 ∨ k = 1 ∨ k = 2 ∨ k = 3 ∨ k = 4 ∨ k = 5) with e9 | e9 | e9 | e9 | e9 | e9
    ·
      subst e9
      refine lv_iload_n hx hb dX4_allCoins_12 rfl (lv_at hl 1 rfl) ?_
      refine lv_aload_n hx hb dX4_allCoins_13 rfl (lv_at hl 2 rfl) ?_
      refine va_get hx hb hts hinX4 hown hK hPr 0 rfl rfl 0 (by decide) k2 (fun _ h => h) rfl dX4_allCoins_14 ?_
      refine lv_iload_n hx hb dX4_allCoins_17 rfl (lv_at hl 0 rfl) ?_
      refine va_aldq hx hb hK hPr 1 3 rfl rfl (iI_in (by omega) (by decide)) dX4_allCoins_18 ?_
      rw [iI_cl (i := 0) (by omega), hfr 0 (by omega) (by omega)]
      show W _ _ _ _ _ _ _ _ _ _ _ _ _ _ _ (F0 _ _ _ (.ref (bh 0) :: zi v :: []))
      refine va_get hx hb hts hinX1 hown hK hPr 2 rfl rfl 6 (by decide) k3 (fun _ h => h) rfl dX4_allCoins_19 ?_
      refine z_iadd hx hb dX4_allCoins_22 ?_
      refine lv_istore_n (lv' := [(1, zi (v + (BF 0 6))), (2, zi 0), (0, .ref f0)]) hx hb dX4_allCoins_23 rfl hl (by decide) rfl (fun ls hl => ?_)
      refine z_iinc (k := 1) (lv' := [(2, zi (0 + 1)), (1, zi (v + (BF 0 6))), (0, .ref f0)]) hx hb dX4_allCoins_24 hl rfl (by decide) rfl (fun ls hl => ?_)
      refine lv_goto (tgt := 4) hx hb dX4_allCoins_27 (by decide) ?_
      exact ih4 (v + (BF 0 6), 0 + 1) _ _ _ (by first | (dsimp only; omega) | omega) ⟨⟨by omega, by rw [sgI_s _ hi4.1.1, ← hi4.2]⟩, lv_sub hl [0, 1, 2] rfl, rfl, rfl⟩
    ·
      subst e9
      refine lv_iload_n hx hb dX4_allCoins_12 rfl (lv_at hl 1 rfl) ?_
      refine lv_aload_n hx hb dX4_allCoins_13 rfl (lv_at hl 2 rfl) ?_
      refine va_get hx hb hts hinX4 hown hK hPr 0 rfl rfl 0 (by decide) k2 (fun _ h => h) rfl dX4_allCoins_14 ?_
      refine lv_iload_n hx hb dX4_allCoins_17 rfl (lv_at hl 0 rfl) ?_
      refine va_aldq hx hb hK hPr 1 3 rfl rfl (iI_in (by omega) (by decide)) dX4_allCoins_18 ?_
      rw [iI_cl (i := 1) (by omega), hfr 1 (by omega) (by omega)]
      show W _ _ _ _ _ _ _ _ _ _ _ _ _ _ _ (F0 _ _ _ (.ref (bh 1) :: zi v :: []))
      refine va_get hx hb hts hinX1 hown hK hPr 3 rfl rfl 6 (by decide) k3 (fun _ h => h) rfl dX4_allCoins_19 ?_
      refine z_iadd hx hb dX4_allCoins_22 ?_
      refine lv_istore_n (lv' := [(1, zi (v + (BF 1 6))), (2, zi 1), (0, .ref f0)]) hx hb dX4_allCoins_23 rfl hl (by decide) rfl (fun ls hl => ?_)
      refine z_iinc (k := 1) (lv' := [(2, zi (1 + 1)), (1, zi (v + (BF 1 6))), (0, .ref f0)]) hx hb dX4_allCoins_24 hl rfl (by decide) rfl (fun ls hl => ?_)
      refine lv_goto (tgt := 4) hx hb dX4_allCoins_27 (by decide) ?_
      exact ih4 (v + (BF 1 6), 1 + 1) _ _ _ (by first | (dsimp only; omega) | omega) ⟨⟨by omega, by rw [sgI_s _ hi4.1.1, ← hi4.2]⟩, lv_sub hl [0, 1, 2] rfl, rfl, rfl⟩
    ·
      subst e9
      refine lv_iload_n hx hb dX4_allCoins_12 rfl (lv_at hl 1 rfl) ?_
      refine lv_aload_n hx hb dX4_allCoins_13 rfl (lv_at hl 2 rfl) ?_
      refine va_get hx hb hts hinX4 hown hK hPr 0 rfl rfl 0 (by decide) k2 (fun _ h => h) rfl dX4_allCoins_14 ?_
      refine lv_iload_n hx hb dX4_allCoins_17 rfl (lv_at hl 0 rfl) ?_
      refine va_aldq hx hb hK hPr 1 3 rfl rfl (iI_in (by omega) (by decide)) dX4_allCoins_18 ?_
      rw [iI_cl (i := 2) (by omega), hfr 2 (by omega) (by omega)]
      show W _ _ _ _ _ _ _ _ _ _ _ _ _ _ _ (F0 _ _ _ (.ref (bh 2) :: zi v :: []))
      refine va_get hx hb hts hinX1 hown hK hPr 4 rfl rfl 6 (by decide) k3 (fun _ h => h) rfl dX4_allCoins_19 ?_
      refine z_iadd hx hb dX4_allCoins_22 ?_
      refine lv_istore_n (lv' := [(1, zi (v + (BF 2 6))), (2, zi 2), (0, .ref f0)]) hx hb dX4_allCoins_23 rfl hl (by decide) rfl (fun ls hl => ?_)
      refine z_iinc (k := 1) (lv' := [(2, zi (2 + 1)), (1, zi (v + (BF 2 6))), (0, .ref f0)]) hx hb dX4_allCoins_24 hl rfl (by decide) rfl (fun ls hl => ?_)
      refine lv_goto (tgt := 4) hx hb dX4_allCoins_27 (by decide) ?_
      exact ih4 (v + (BF 2 6), 2 + 1) _ _ _ (by first | (dsimp only; omega) | omega) ⟨⟨by omega, by rw [sgI_s _ hi4.1.1, ← hi4.2]⟩, lv_sub hl [0, 1, 2] rfl, rfl, rfl⟩
    ·
      subst e9
      refine lv_iload_n hx hb dX4_allCoins_12 rfl (lv_at hl 1 rfl) ?_
      refine lv_aload_n hx hb dX4_allCoins_13 rfl (lv_at hl 2 rfl) ?_
      refine va_get hx hb hts hinX4 hown hK hPr 0 rfl rfl 0 (by decide) k2 (fun _ h => h) rfl dX4_allCoins_14 ?_
      refine lv_iload_n hx hb dX4_allCoins_17 rfl (lv_at hl 0 rfl) ?_
      refine va_aldq hx hb hK hPr 1 3 rfl rfl (iI_in (by omega) (by decide)) dX4_allCoins_18 ?_
      rw [iI_cl (i := 3) (by omega), hfr 3 (by omega) (by omega)]
      show W _ _ _ _ _ _ _ _ _ _ _ _ _ _ _ (F0 _ _ _ (.ref (bh 3) :: zi v :: []))
      refine va_get hx hb hts hinX1 hown hK hPr 5 rfl rfl 6 (by decide) k3 (fun _ h => h) rfl dX4_allCoins_19 ?_
      refine z_iadd hx hb dX4_allCoins_22 ?_
      refine lv_istore_n (lv' := [(1, zi (v + (BF 3 6))), (2, zi 3), (0, .ref f0)]) hx hb dX4_allCoins_23 rfl hl (by decide) rfl (fun ls hl => ?_)
      refine z_iinc (k := 1) (lv' := [(2, zi (3 + 1)), (1, zi (v + (BF 3 6))), (0, .ref f0)]) hx hb dX4_allCoins_24 hl rfl (by decide) rfl (fun ls hl => ?_)
      refine lv_goto (tgt := 4) hx hb dX4_allCoins_27 (by decide) ?_
      exact ih4 (v + (BF 3 6), 3 + 1) _ _ _ (by first | (dsimp only; omega) | omega) ⟨⟨by omega, by rw [sgI_s _ hi4.1.1, ← hi4.2]⟩, lv_sub hl [0, 1, 2] rfl, rfl, rfl⟩
    ·
      subst e9
      refine lv_iload_n hx hb dX4_allCoins_12 rfl (lv_at hl 1 rfl) ?_
      refine lv_aload_n hx hb dX4_allCoins_13 rfl (lv_at hl 2 rfl) ?_
      refine va_get hx hb hts hinX4 hown hK hPr 0 rfl rfl 0 (by decide) k2 (fun _ h => h) rfl dX4_allCoins_14 ?_
      refine lv_iload_n hx hb dX4_allCoins_17 rfl (lv_at hl 0 rfl) ?_
      refine va_aldq hx hb hK hPr 1 3 rfl rfl (iI_in (by omega) (by decide)) dX4_allCoins_18 ?_
      rw [iI_cl (i := 4) (by omega), hfr 4 (by omega) (by omega)]
      show W _ _ _ _ _ _ _ _ _ _ _ _ _ _ _ (F0 _ _ _ (.ref (bh 4) :: zi v :: []))
      refine va_get hx hb hts hinX1 hown hK hPr 6 rfl rfl 6 (by decide) k3 (fun _ h => h) rfl dX4_allCoins_19 ?_
      refine z_iadd hx hb dX4_allCoins_22 ?_
      refine lv_istore_n (lv' := [(1, zi (v + (BF 4 6))), (2, zi 4), (0, .ref f0)]) hx hb dX4_allCoins_23 rfl hl (by decide) rfl (fun ls hl => ?_)
      refine z_iinc (k := 1) (lv' := [(2, zi (4 + 1)), (1, zi (v + (BF 4 6))), (0, .ref f0)]) hx hb dX4_allCoins_24 hl rfl (by decide) rfl (fun ls hl => ?_)
      refine lv_goto (tgt := 4) hx hb dX4_allCoins_27 (by decide) ?_
      exact ih4 (v + (BF 4 6), 4 + 1) _ _ _ (by first | (dsimp only; omega) | omega) ⟨⟨by omega, by rw [sgI_s _ hi4.1.1, ← hi4.2]⟩, lv_sub hl [0, 1, 2] rfl, rfl, rfl⟩
    ·
      subst e9
      refine lv_iload_n hx hb dX4_allCoins_12 rfl (lv_at hl 1 rfl) ?_
      refine lv_aload_n hx hb dX4_allCoins_13 rfl (lv_at hl 2 rfl) ?_
      refine va_get hx hb hts hinX4 hown hK hPr 0 rfl rfl 0 (by decide) k2 (fun _ h => h) rfl dX4_allCoins_14 ?_
      refine lv_iload_n hx hb dX4_allCoins_17 rfl (lv_at hl 0 rfl) ?_
      refine va_aldq hx hb hK hPr 1 3 rfl rfl (iI_in (by omega) (by decide)) dX4_allCoins_18 ?_
      rw [iI_cl (i := 5) (by omega), hfr 5 (by omega) (by omega)]
      show W _ _ _ _ _ _ _ _ _ _ _ _ _ _ _ (F0 _ _ _ (.ref (bh 5) :: zi v :: []))
      refine va_get hx hb hts hinX1 hown hK hPr 7 rfl rfl 6 (by decide) k3 (fun _ h => h) rfl dX4_allCoins_19 ?_
      refine z_iadd hx hb dX4_allCoins_22 ?_
      refine lv_istore_n (lv' := [(1, zi (v + (BF 5 6))), (2, zi 5), (0, .ref f0)]) hx hb dX4_allCoins_23 rfl hl (by decide) rfl (fun ls hl => ?_)
      refine z_iinc (k := 1) (lv' := [(2, zi (5 + 1)), (1, zi (v + (BF 5 6))), (0, .ref f0)]) hx hb dX4_allCoins_24 hl rfl (by decide) rfl (fun ls hl => ?_)
      refine lv_goto (tgt := 4) hx hb dX4_allCoins_27 (by decide) ?_
      exact ih4 (v + (BF 5 6), 5 + 1) _ _ _ (by first | (dsimp only; omega) | omega) ⟨⟨by omega, by rw [sgI_s _ hi4.1.1, ← hi4.2]⟩, lv_sub hl [0, 1, 2] rfl, rfl, rfl⟩
set_option maxHeartbeats 8000000 in
set_option maxRecDepth 100000 in
theorem c_X11_whose_nob (l : Launch) (D : va_G) (y : Nat → ClassId) (x0 : Nat) (t0 : Nat) (g0 : Nat) (f0 : Nat) (r0 : Nat) (sl0 : Nat) (n0 : Nat) (d0 : Nat) (w0 : Nat) (c0 : Nat) (fa : Nat) (fn : Int) (fr : Nat → Option Nat) (la : Int) (pl : Int) (qb : Int) (uq : Int) (hqb : rI qb ∧ 0 ≤ fn ∧ fn ≤ 6 ∧ ¬ (0 ≤ qb ∧ qb < fn)) : Met l yX11_whose wsX11_whose ({ frames := 1, cells := 0, slots := 0, locals := 21 } : Room) (pPc D y [(x0, .inr (10, [.ref t0, .ref g0, .ref f0, .ref r0, .ref sl0, .ref n0, .ref d0, .ref w0, .ref c0])), (f0, .inr (4, [.ref fa, zi fn])), (fa, .inl (y 3, 6, .inr (.inr (.inr (.inr fr)))))] [.ref x0, zi la, zi pl, zi qb, zi uq]) (qV (zl (-1))) 0 0 (fun _ => False) := by
  refine P_of (own := RX11) (cc := cX11_whose) (maxL := 9) (ret := some .long) (by decide) rfl rfl (Nat.le_of_ble_eq_true rfl) (fun p e s m below meth c ls hx hb hr hC hlocks hPr hG hl => ?_)
  have hC0 := hC
  obtain ⟨-, -, hml, hown, hts⟩ := hC0
  have hK := hG.1
  have hinX11 : ∀ w ∈ wsX110, w ∈ wsX11_whose := fun _ h => List.mem_cons_of_mem _ (List.mem_append_left _ (List.mem_append_left _ (List.mem_append_left _ (List.mem_append_left _ (List.mem_append_right _ h)))))
  have k1 := hts (.fieldLink RX11 26 "BoatsOfPaper" "theFleet" "LBoatsOfPaper$Fleet;") (List.mem_of_getElem? (i := 1) rfl)
  have k3 := hts (.constantLong RX11 163 (-1)) (List.mem_of_getElem? (i := 3) rfl)
  have hl : lv_has ls 9 [(0, .ref x0), (1, zi la), (2, zi pl), (3, zi qb), (4, zi uq)] := hl
  refine lv_aload_n hx hb dX11_whose_0 rfl (lv_at hl 0 rfl) ?_
  refine va_get hx hb hts hinX11 hown hK hPr 0 rfl rfl 2 (by decide) k1 (fun _ h => h) rfl dX11_whose_1 ?_
  refine lv_iload_n hx hb dX11_whose_4 rfl (lv_at hl 3 rfl) ?_
  refine z_pV (As := [zi qb]) (rest := []) hC (c_X4_find_no l D y f0 fa fn fr qb (by first | assumption | omega)) (cwV 1 hts gX11_whose_X4_find rfl rfl rfl (by decide +kernel) ⟨Nat.le_of_ble_eq_true rfl, Nat.le_of_ble_eq_true rfl⟩) hG (hPr.sub (ws' := [(f0, .inr (4, [.ref fa, zi fn])), (fa, .inl (y 3, 6, .inr (.inr (.inr (.inr fr)))))]) [1, 2] rfl) 0 rfl rfl rfl hl.1 rfl (Nat.le_of_ble_eq_true rfl) dX11_whose_5 ⟨Nat.le_of_ble_eq_true rfl, Nat.le_of_ble_eq_true rfl⟩ ?_
  refine lv_astoreN (lv' := [(5, .null), (0, .ref x0), (1, zi la), (2, zi pl), (3, zi qb), (4, zi uq)]) hx hb dX11_whose_8 hl (by decide) rfl (fun ls hl => ?_)
  refine lv_aloadN hx hb dX11_whose_10 (lv_at hl 0 rfl) ?_
  refine lv_ifnullN (tgt := 27) hx hb dX11_whose_12 (by decide) ?_
  refine lv_ldc2 (v := iL (-1)) hx hb hown k3 dX11_whose_27 ?_
  exact z_lret0 hx hb hr hlocks (rfl) dX11_whose_30
set_option maxHeartbeats 8000000 in
set_option maxRecDepth 100000 in
theorem c_X11_whose_nol (l : Launch) (D : va_G) (y : Nat → ClassId) (x0 : Nat) (t0 : Nat) (g0 : Nat) (f0 : Nat) (r0 : Nat) (sl0 : Nat) (n0 : Nat) (d0 : Nat) (w0 : Nat) (c0 : Nat) (fa : Nat) (fn : Int) (fr : Nat → Option Nat) (bh : Int → Nat) (ga : Nat) (gl : Int) (gp : Int) (gx : Int) (gy : Int) (GK : Int → Int) (la : Int) (pl : Int) (qb : Int) (uq : Int) (hqb : 0 ≤ fn ∧ fn ≤ 6 ∧ 0 ≤ qb ∧ qb < fn) (hfr : ∀ k : Int, 0 ≤ k → k < 6 → fr k.toNat = some (bh k)) (hg : gOK gl gp gx gy GK) (hla : rI la) (hpl : rI pl) (hq : ¬ (0 ≤ la ∧ la < gl ∧ 0 ≤ pl ∧ pl < gp)) : Met l yX11_whose wsX11_whose ({ frames := 2, cells := 0, slots := 0, locals := 43 } : Room) (pPc D y [(x0, .inr (10, [.ref t0, .ref g0, .ref f0, .ref r0, .ref sl0, .ref n0, .ref d0, .ref w0, .ref c0])), (f0, .inr (4, [.ref fa, zi fn])), (fa, .inl (y 3, 6, .inr (.inr (.inr (.inr fr))))), (g0, .inr (5, [.ref ga, zi gl, zi gp, zi gx, zi gy])), (ga, .inl (y 0, 36, .inl (cI GK)))] [.ref x0, zi la, zi pl, zi qb, zi uq]) (qV (zl (-1))) 0 0 (fun _ => False) := by
  refine P_of (own := RX11) (cc := cX11_whose) (maxL := 9) (ret := some .long) (by decide) rfl rfl (Nat.le_of_ble_eq_true rfl) (fun p e s m below meth c ls hx hb hr hC hlocks hPr hG hl => ?_)
  have hC0 := hC
  obtain ⟨-, -, hml, hown, hts⟩ := hC0
  have hK := hG.1
  have hinX11 : ∀ w ∈ wsX110, w ∈ wsX11_whose := fun _ h => List.mem_cons_of_mem _ (List.mem_append_left _ (List.mem_append_left _ (List.mem_append_left _ (List.mem_append_left _ (List.mem_append_right _ h)))))
  have k1 := hts (.fieldLink RX11 26 "BoatsOfPaper" "theFleet" "LBoatsOfPaper$Fleet;") (List.mem_of_getElem? (i := 1) rfl)
  have k2 := hts (.fieldLink RX11 19 "BoatsOfPaper" "theGutter" "LBoatsOfPaper$Gutter;") (List.mem_of_getElem? (i := 2) rfl)
  have k3 := hts (.constantLong RX11 163 (-1)) (List.mem_of_getElem? (i := 3) rfl)
  have hl : lv_has ls 9 [(0, .ref x0), (1, zi la), (2, zi pl), (3, zi qb), (4, zi uq)] := hl
  obtain ⟨u1, u2, u3, u4, uk⟩ := id hg
  refine lv_aload_n hx hb dX11_whose_0 rfl (lv_at hl 0 rfl) ?_
  refine va_get hx hb hts hinX11 hown hK hPr 0 rfl rfl 2 (by decide) k1 (fun _ h => h) rfl dX11_whose_1 ?_
  refine lv_iload_n hx hb dX11_whose_4 rfl (lv_at hl 3 rfl) ?_
  refine z_pV (As := [zi qb]) (rest := []) hC (c_X4_find l D y f0 fa fn fr qb (bh qb) (by first | assumption | omega) (hfr qb (by omega) (by omega))) (cwV 1 hts gX11_whose_X4_find rfl rfl rfl (by decide +kernel) ⟨Nat.le_of_ble_eq_true rfl, Nat.le_of_ble_eq_true rfl⟩) hG (hPr.sub (ws' := [(f0, .inr (4, [.ref fa, zi fn])), (fa, .inl (y 3, 6, .inr (.inr (.inr (.inr fr)))))]) [1, 2] rfl) 0 rfl rfl rfl hl.1 rfl (Nat.le_of_ble_eq_true rfl) dX11_whose_5 ⟨Nat.le_of_ble_eq_true rfl, Nat.le_of_ble_eq_true rfl⟩ ?_
  refine lv_astore (lv' := [(5, .ref (bh qb)), (0, .ref x0), (1, zi la), (2, zi pl), (3, zi qb), (4, zi uq)]) hx hb dX11_whose_8 hl (by decide) rfl (fun ls hl => ?_)
  refine lv_aload hx hb dX11_whose_10 (lv_at hl 0 rfl) ?_
  refine lv_ifnull hx hb dX11_whose_12 ?_
  refine lv_aload_n hx hb dX11_whose_15 rfl (lv_at hl 1 rfl) ?_
  refine va_get hx hb hts hinX11 hown hK hPr 0 rfl rfl 1 (by decide) k2 (fun _ h => h) rfl dX11_whose_16 ?_
  refine lv_iload_n hx hb dX11_whose_19 rfl (lv_at hl 2 rfl) ?_
  refine lv_iload_n hx hb dX11_whose_20 rfl (lv_at hl 3 rfl) ?_
  refine z_pV (As := [zi la, zi pl]) (rest := []) hC (c_X6_has l D y g0 ga gl gp gx gy GK la pl (by first | assumption | omega) (by first | assumption | omega) (by first | assumption | omega)) (cwV 2 hts gX11_whose_X6_has rfl rfl rfl (by decide +kernel) ⟨Nat.le_of_ble_eq_true rfl, Nat.le_of_ble_eq_true rfl⟩) hG (hPr.sub (ws' := [(g0, .inr (5, [.ref ga, zi gl, zi gp, zi gx, zi gy])), (ga, .inl (y 0, 36, .inl (cI GK)))]) [3, 4] rfl) 0 rfl rfl rfl hl.1 rfl (Nat.le_of_ble_eq_true rfl) dX11_whose_21 ⟨Nat.le_of_ble_eq_true rfl, Nat.le_of_ble_eq_true rfl⟩ ?_
  refine z_ifB_ne (tgt := 31) hx hb dX11_whose_24 (by decide) (fun c_24 => ?_) (fun c_24 => ?_)
  · exfalso; omega
  ·
    refine lv_ldc2 (v := iL (-1)) hx hb hown k3 dX11_whose_27 ?_
    exact z_lret0 hx hb hr hlocks (rfl) dX11_whose_30
set_option maxHeartbeats 8000000 in
set_option maxRecDepth 100000 in
theorem c_X11_whose (l : Launch) (D : va_G) (y : Nat → ClassId) (x0 : Nat) (t0 : Nat) (g0 : Nat) (f0 : Nat) (r0 : Nat) (sl0 : Nat) (n0 : Nat) (d0 : Nat) (w0 : Nat) (c0 : Nat) (fa : Nat) (fn : Int) (fr : Nat → Option Nat) (bh : Int → Nat) (ba : Int → Nat) (bb : Int → Nat) (bc : Int → Nat) (BF : Int → Int → Int) (FI : Int → Int → Int) (FJ : Int → Int → Int) (FW : Int → Int → Int) (ga : Nat) (gl : Int) (gp : Int) (gx : Int) (gy : Int) (GK : Int → Int) (da : Nat) (dc : Int) (DE : Int → Int) (la : Int) (pl : Int) (qb : Int) (uq : Int) (hfr : ∀ k : Int, 0 ≤ k → k < 6 → fr k.toNat = some (bh k)) (hBK : ∀ k : Int, 0 ≤ k → k < fn → bOK (BF k 0) (BF k 1) (BF k 2) (BF k 3) (BF k 4) (BF k 5) (BF k 6) (FI k) (FJ k) (FW k)) (hfn : 0 ≤ fn ∧ fn ≤ 6) (hg : gOK gl gp gx gy GK) (hla : 0 ≤ la ∧ la < gl) (hpl : 0 ≤ pl ∧ pl < gp) (huq : uq = 0 ∨ uq = 1) (hqb : 0 ≤ qb ∧ qb < fn) (sz : Nat) : Met l yX11_whose wsX11_whose ({ frames := 6, cells := 0, slots := 0, locals := 140 } : Room) (wPc D y [(x0, .inr (10, [.ref t0, .ref g0, .ref f0, .ref r0, .ref sl0, .ref n0, .ref d0, .ref w0, .ref c0])), (f0, .inr (4, [.ref fa, zi fn])), (fa, .inl (y 3, 6, .inr (.inr (.inr (.inr fr))))), ((bh 0), .inr (1, [zi (BF 0 0), zi (BF 0 1), zi (BF 0 2), zi (BF 0 3), zi (BF 0 4), zi (BF 0 5), zi (BF 0 6), .ref (ba 0), .ref (bb 0), .ref (bc 0)])), ((ba 0), .inl (y 0, 8, .inl (cI (FI 0)))), ((bb 0), .inl (y 0, 8, .inl (cI (FJ 0)))), ((bc 0), .inl (y 0, 8, .inl (cI (FW 0)))), ((bh 1), .inr (1, [zi (BF 1 0), zi (BF 1 1), zi (BF 1 2), zi (BF 1 3), zi (BF 1 4), zi (BF 1 5), zi (BF 1 6), .ref (ba 1), .ref (bb 1), .ref (bc 1)])), ((ba 1), .inl (y 0, 8, .inl (cI (FI 1)))), ((bb 1), .inl (y 0, 8, .inl (cI (FJ 1)))), ((bc 1), .inl (y 0, 8, .inl (cI (FW 1)))), ((bh 2), .inr (1, [zi (BF 2 0), zi (BF 2 1), zi (BF 2 2), zi (BF 2 3), zi (BF 2 4), zi (BF 2 5), zi (BF 2 6), .ref (ba 2), .ref (bb 2), .ref (bc 2)])), ((ba 2), .inl (y 0, 8, .inl (cI (FI 2)))), ((bb 2), .inl (y 0, 8, .inl (cI (FJ 2)))), ((bc 2), .inl (y 0, 8, .inl (cI (FW 2)))), ((bh 3), .inr (1, [zi (BF 3 0), zi (BF 3 1), zi (BF 3 2), zi (BF 3 3), zi (BF 3 4), zi (BF 3 5), zi (BF 3 6), .ref (ba 3), .ref (bb 3), .ref (bc 3)])), ((ba 3), .inl (y 0, 8, .inl (cI (FI 3)))), ((bb 3), .inl (y 0, 8, .inl (cI (FJ 3)))), ((bc 3), .inl (y 0, 8, .inl (cI (FW 3)))), ((bh 4), .inr (1, [zi (BF 4 0), zi (BF 4 1), zi (BF 4 2), zi (BF 4 3), zi (BF 4 4), zi (BF 4 5), zi (BF 4 6), .ref (ba 4), .ref (bb 4), .ref (bc 4)])), ((ba 4), .inl (y 0, 8, .inl (cI (FI 4)))), ((bb 4), .inl (y 0, 8, .inl (cI (FJ 4)))), ((bc 4), .inl (y 0, 8, .inl (cI (FW 4)))), ((bh 5), .inr (1, [zi (BF 5 0), zi (BF 5 1), zi (BF 5 2), zi (BF 5 3), zi (BF 5 4), zi (BF 5 5), zi (BF 5 6), .ref (ba 5), .ref (bb 5), .ref (bc 5)])), ((ba 5), .inl (y 0, 8, .inl (cI (FI 5)))), ((bb 5), .inl (y 0, 8, .inl (cI (FJ 5)))), ((bc 5), .inl (y 0, 8, .inl (cI (FW 5)))), (g0, .inr (5, [.ref ga, zi gl, zi gp, zi gx, zi gy])), (ga, .inl (y 0, 36, .inl (cI GK)))] [(d0, .inr (3, [.ref da, zl dc])), (da, .inl (y 1, 12, .inr (.inl (cL DE))))] sz [.ref x0, zi la, zi pl, zi qb, zi uq]) (wQ D (fun (x9 : Int × (Int → Int)) => match x9 with | (dc2, DE2) => some (zl (if sgI (fun b => enF (acx gl gp gx gy GK la (xLife BF FI FJ FW b)) pl) fn = 0 then -3 else tellV (enF (acx gl gp gx gy GK la (xLife BF FI FJ FW qb)) pl) (sgI (fun b => enF (acx gl gp gx gy GK la (xLife BF FI FJ FW b)) pl) fn) uq))) (fun (x9 : Int × (Int → Int)) => match x9 with | (dc2, DE2) => True) (fun (x9 : Int × (Int → Int)) => match x9 with | (dc2, DE2) => [(d0, .inr (3, [.ref da, zl dc2])), (da, .inl (y 1, 12, .inr (.inl (cL DE2))))]) (va_A [(d0, .inr (3, [.ref da, zl dc])), (da, .inl (y 1, 12, .inr (.inl (cL DE))))] sz)) 0 0 (va_A [(d0, .inr (3, [.ref da, zl dc])), (da, .inl (y 1, 12, .inr (.inl (cL DE))))] sz) := by
  refine W_of (own := RX11) (cc := cX11_whose) (maxL := 9) (ret := some .long) (by decide) rfl rfl (Nat.le_of_ble_eq_true rfl) (fun p e s m below meth c ls A hx hb hr hC hlocks hin0 hR0 hN hP hD hA hG hl => ?_)
  have hC0 := hC
  obtain ⟨-, -, hml, hown, hts⟩ := hC0
  have hK := hG.1
  have hS : va_S A s.heap s.heap [] := va_S.rf
  have hPr := hR0
  have hinX11 : ∀ w ∈ wsX110, w ∈ wsX11_whose := fun _ h => List.mem_cons_of_mem _ (List.mem_append_left _ (List.mem_append_left _ (List.mem_append_left _ (List.mem_append_left _ (List.mem_append_right _ h)))))
  have hinX4 : ∀ w ∈ wsX40, w ∈ wsX11_whose := fun _ h => List.mem_cons_of_mem _ (List.mem_append_left _ (List.mem_append_left _ (List.mem_append_left _ (List.mem_append_right _ h))))
  have k1 := hts (.fieldLink RX11 26 "BoatsOfPaper" "theFleet" "LBoatsOfPaper$Fleet;") (List.mem_of_getElem? (i := 1) rfl)
  have k2 := hts (.fieldLink RX11 19 "BoatsOfPaper" "theGutter" "LBoatsOfPaper$Gutter;") (List.mem_of_getElem? (i := 2) rfl)
  have k4 := hts (.fieldLink RX11 254 "BoatsOfPaper$Fleet" "size" "I") (List.mem_of_getElem? (i := 4) rfl)
  have k5 := hts (.constantLong RX11 261 (-3)) (List.mem_of_getElem? (i := 5) rfl)
  have hl : lv_has ls 9 [(0, .ref x0), (1, zi la), (2, zi pl), (3, zi qb), (4, zi uq)] := hl
  obtain ⟨u1, u2, u3, u4, uk⟩ := id hg
  have hx2 : ∀ b, ∀ k, 0 ≤ acx gl gp gx gy GK la (xLife BF FI FJ FW b) k ∧ acx gl gp gx gy GK la (xLife BF FI FJ FW b) k ≤ 10 := fun b => acx_bd hg la (xLife BF FI FJ FW b)
  have t1 := ten12 (r := gp.toNat) (by omega)
  have t3 := ten12 (r := (pl + 1).toNat) (by omega)
  have e0 : ∀ b : Int, 0 ≤ enF (acx gl gp gx gy GK la (xLife BF FI FJ FW b)) pl ∧ enF (acx gl gp gx gy GK la (xLife BF FI FJ FW b)) pl ≤ 10 ^ (pl + 1).toNat := fun b => enF_bd (hx2 b) hpl.1
  have t5 : 0 ≤ sgI (fun b => enF (acx gl gp gx gy GK la (xLife BF FI FJ FW b)) pl) fn ∧ sgI (fun b => enF (acx gl gp gx gy GK la (xLife BF FI FJ FW b)) pl) fn ≤ 6 * 10 ^ (pl + 1).toNat := en_sum hx2 hpl.1 (by omega)
  have ek := e0 qb
  refine lv_aload_n hx hb dX11_whose_0 rfl (lv_at hl 0 rfl) ?_
  refine va_get hx hb hts hinX11 hown hK hPr 0 rfl rfl 2 (by decide) k1 (fun _ h => h) rfl dX11_whose_1 ?_
  refine lv_iload_n hx hb dX11_whose_4 rfl (lv_at hl 3 rfl) ?_
  refine z_pV (As := [zi qb]) (rest := []) hC (c_X4_find l D y f0 fa fn fr qb (bh qb) (by first | assumption | omega) (hfr qb (by omega) (by omega))) (cwV 1 hts gX11_whose_X4_find rfl rfl rfl (by decide +kernel) ⟨Nat.le_of_ble_eq_true rfl, Nat.le_of_ble_eq_true rfl⟩) hG (hPr.sub (ws' := [(f0, .inr (4, [.ref fa, zi fn])), (fa, .inl (y 3, 6, .inr (.inr (.inr (.inr fr)))))]) [1, 2] rfl) 0 rfl rfl rfl hl.1 rfl (Nat.le_of_ble_eq_true rfl) dX11_whose_5 ⟨Nat.le_of_ble_eq_true rfl, Nat.le_of_ble_eq_true rfl⟩ ?_
  refine lv_astore (lv' := [(5, .ref (bh qb)), (0, .ref x0), (1, zi la), (2, zi pl), (3, zi qb), (4, zi uq)]) hx hb dX11_whose_8 hl (by decide) rfl (fun ls hl => ?_)
  refine lv_aload hx hb dX11_whose_10 (lv_at hl 0 rfl) ?_
  refine lv_ifnull hx hb dX11_whose_12 ?_
  refine lv_aload_n hx hb dX11_whose_15 rfl (lv_at hl 1 rfl) ?_
  refine va_get hx hb hts hinX11 hown hK hPr 0 rfl rfl 1 (by decide) k2 (fun _ h => h) rfl dX11_whose_16 ?_
  refine lv_iload_n hx hb dX11_whose_19 rfl (lv_at hl 2 rfl) ?_
  refine lv_iload_n hx hb dX11_whose_20 rfl (lv_at hl 3 rfl) ?_
  refine z_pV (As := [zi la, zi pl]) (rest := []) hC (c_X6_has l D y g0 ga gl gp gx gy GK la pl (by first | assumption | omega) (by first | assumption | omega) (by first | assumption | omega)) (cwV 2 hts gX11_whose_X6_has rfl rfl rfl (by decide +kernel) ⟨Nat.le_of_ble_eq_true rfl, Nat.le_of_ble_eq_true rfl⟩) hG (hPr.sub (ws' := [(g0, .inr (5, [.ref ga, zi gl, zi gp, zi gx, zi gy])), (ga, .inl (y 0, 36, .inl (cI GK)))]) [27, 28] rfl) 0 rfl rfl rfl hl.1 rfl (Nat.le_of_ble_eq_true rfl) dX11_whose_21 ⟨Nat.le_of_ble_eq_true rfl, Nat.le_of_ble_eq_true rfl⟩ ?_
  refine z_ifB_ne (tgt := 31) hx hb dX11_whose_24 (by decide) (fun c_24 => ?_) (fun c_24 => ?_)
  ·
    refine lv_lconst (v := iL 0) hx hb dX11_whose_31 rfl ?_
    refine lv_lstore (lv' := [(6, zl 0), (5, .ref (bh qb)), (0, .ref x0), (1, zi la), (2, zi pl), (3, zi qb), (4, zi uq)]) hx hb dX11_whose_32 hl (by decide) rfl (fun ls hl => ?_)
    refine z_iconst hx hb dX11_whose_34 ?_
    refine lv_istore (lv' := [(8, zi 0), (6, zl 0), (5, .ref (bh qb)), (0, .ref x0), (1, zi la), (2, zi pl), (3, zi qb), (4, zi uq)]) hx hb dX11_whose_35 hl (by decide) rfl (fun ls hl => ?_)
    refine z_loop (σ := Int × Int × Int × (Int → Int)) (fun x9 H lc ls => match x9 with | (v, k, cr, E) => ((0 ≤ k ∧ k ≤ fn) ∧ v = sgI (fun b => enF (acx gl gp gx gy GK la (xLife BF FI FJ FW b)) pl) k) ∧ lv_has ls 9 [(8, zi k), (6, zl v), (5, .ref (bh qb)), (0, .ref x0), (1, zi la), (2, zi pl), (3, zi qb), (4, zi uq)] ∧ va_P D vwCl [(d0, .inr (3, [.ref da, zl cr])), (da, .inl (y 1, 12, .inr (.inl (cL E))))] H ∧ va_D A [(d0, .inr (3, [.ref da, zl cr])), (da, .inl (y 1, 12, .inr (.inl (cL E))))] ∧ va_S A s.heap H lc) (fun x9  => match x9 with | (v, k, cr, E) => ((fn - k).toNat)) ?_ (0, 0, dc, DE) ⟨⟨by omega, rfl⟩, lv_sub hl [0, 1, 2, 3, 4, 5, 6, 7] rfl, hP.sub [0, 1] rfl, hD.sub [0, 1] (by decide) rfl, hS⟩
    rintro ⟨v, k, cr, E⟩ H lc ls ⟨hi37, hl, hP, hD, hS⟩ ih37
    have hP : va_P D vwCl [(d0, .inr (3, [.ref da, zl cr])), (da, .inl (y 1, 12, .inr (.inl (cL E))))] H := hP
    have hD : va_D A [(d0, .inr (3, [.ref da, zl cr])), (da, .inl (y 1, 12, .inr (.inl (cL E))))] := hD
    have hPr := ro_now hR0 hN hS
    refine lv_iload hx hb dX11_whose_37 (lv_at hl 0 rfl) ?_
    refine lv_aload_n hx hb dX11_whose_39 rfl (lv_at hl 3 rfl) ?_
    refine va_get hx hb hts hinX11 hown hK hPr 0 rfl rfl 2 (by decide) k1 (fun _ h => h) rfl dX11_whose_40 ?_
    refine va_get hx hb hts hinX4 hown hK hPr 1 rfl rfl 1 (by decide) k4 (fun _ h => h) rfl dX11_whose_43 ?_
    refine z_icmp_ge (tgt := 68) hx hb (by omega) (by omega) dX11_whose_46 (by decide) (fun c_46 => ?_) (fun c_46 => ?_)
    ·
      have v9 : v = sgI (fun b => enF (acx gl gp gx gy GK la (xLife BF FI FJ FW b)) pl) fn := (by rw [hi37.2, show k = fn by omega])
      refine lv_lload hx hb dX11_whose_68 (lv_at hl 1 rfl) ?_
      refine lv_lconst (v := iL 0) hx hb dX11_whose_70 rfl ?_
      refine z_lcmp_ne (tgt := 79) hx hb (by omega) (by omega) dX11_whose_71 dX11_whose_72 (by decide) (fun c_71 => ?_) (fun c_71 => ?_)
      ·
        rcases (by omega : qb = 0 ∨ qb = 1 ∨ qb = 2 ∨ qb = 3 ∨ qb = 4 ∨ qb = 5) with e9 | e9 | e9 | e9 | e9 | e9
        ·
          subst e9
          refine lv_aload_n hx hb dX11_whose_79 rfl (lv_at hl 3 rfl) ?_
          refine lv_iload_n hx hb dX11_whose_80 rfl (lv_at hl 6 rfl) ?_
          refine lv_iload_n hx hb dX11_whose_81 rfl (lv_at hl 4 rfl) ?_
          refine lv_iload_n hx hb dX11_whose_82 rfl (lv_at hl 5 rfl) ?_
          refine z_wR (As := [zi 0, zi la, zi pl]) (rest := []) (wc := [(d0, .inr (3, [.ref da, zl cr])), (da, .inl (y 1, 12, .inr (.inl (cL E))))]) (wrest := []) hC (c_X11_wreckShare l D y x0 t0 g0 f0 r0 sl0 n0 d0 w0 c0 fa fn fr 0 (bh 0) (ba 0) (bb 0) (bc 0) (BF 0 0) (BF 0 1) (BF 0 2) (BF 0 3) (BF 0 4) (BF 0 5) (BF 0 6) (FI 0) (FJ 0) (FW 0) la pl ga gl gp gx gy GK da cr E ⟨by omega, by omega, by omega, by omega⟩ (hfr 0 (by omega) (by omega)) (hBK 0 (by omega) (by omega)) (by first | assumption | omega) (by first | assumption | omega) (by first | assumption | omega) _) (cwV 3 hts gX11_whose_X11_wreckShare rfl rfl rfl (by decide +kernel) ⟨Nat.le_of_ble_eq_true rfl, Nat.le_of_ble_eq_true rfl⟩) hG hP hD hS hA [0, 1] [] rfl rfl (by decide) (by decide) (by decide) (hPr.sub (ws' := [(x0, .inr (10, [.ref t0, .ref g0, .ref f0, .ref r0, .ref sl0, .ref n0, .ref d0, .ref w0, .ref c0])), (f0, .inr (4, [.ref fa, zi fn])), (fa, .inl (y 3, 6, .inr (.inr (.inr (.inr fr))))), ((bh 0), .inr (1, [zi (BF 0 0), zi (BF 0 1), zi (BF 0 2), zi (BF 0 3), zi (BF 0 4), zi (BF 0 5), zi (BF 0 6), .ref (ba 0), .ref (bb 0), .ref (bc 0)])), ((ba 0), .inl (y 0, 8, .inl (cI (FI 0)))), ((bb 0), .inl (y 0, 8, .inl (cI (FJ 0)))), ((bc 0), .inl (y 0, 8, .inl (cI (FW 0)))), (g0, .inr (5, [.ref ga, zi gl, zi gp, zi gx, zi gy])), (ga, .inl (y 0, 36, .inl (cI GK)))]) [0, 1, 2, 3, 4, 5, 6, 27, 28] rfl) (fun k q hk z => ro_sub (wr' := [(x0, .inr (10, [.ref t0, .ref g0, .ref f0, .ref r0, .ref sl0, .ref n0, .ref d0, .ref w0, .ref c0])), (f0, .inr (4, [.ref fa, zi fn])), (fa, .inl (y 3, 6, .inr (.inr (.inr (.inr fr))))), ((bh 0), .inr (1, [zi (BF 0 0), zi (BF 0 1), zi (BF 0 2), zi (BF 0 3), zi (BF 0 4), zi (BF 0 5), zi (BF 0 6), .ref (ba 0), .ref (bb 0), .ref (bc 0)])), ((ba 0), .inl (y 0, 8, .inl (cI (FI 0)))), ((bb 0), .inl (y 0, 8, .inl (cI (FJ 0)))), ((bc 0), .inl (y 0, 8, .inl (cI (FW 0)))), (g0, .inr (5, [.ref ga, zi gl, zi gp, zi gx, zi gy])), (ga, .inl (y 0, 36, .inl (cI GK)))]) hN [0, 1, 2, 3, 4, 5, 6, 27, 28] rfl k q hk (va_free (wc := [(d0, .inr (3, [.ref da, zl cr])), (da, .inl (y 1, 12, .inr (.inl (cL E))))]) hD hS hA [0, 1] rfl q.1 z)) 0 rfl rfl rfl hl.1 rfl (Nat.le_of_ble_eq_true rfl) dX11_whose_83 ⟨Nat.le_of_ble_eq_true rfl, Nat.le_of_ble_eq_true rfl⟩ (fun u9 H locs hw_3 hP hD hS => ?_)
          obtain ⟨dc2, DE2⟩ := u9
          have hw_3 : True := hw_3
          have hP : va_P D vwCl [(d0, .inr (3, [.ref da, zl dc2])), (da, .inl (y 1, 12, .inr (.inl (cL DE2))))] H := hP
          have hD : va_D A [(d0, .inr (3, [.ref da, zl dc2])), (da, .inl (y 1, 12, .inr (.inl (cL DE2))))] := hD
          have hPr := ro_now hR0 hN hS
          refine lv_lload hx hb dX11_whose_86 (lv_at hl 1 rfl) ?_
          refine lv_iload hx hb dX11_whose_88 (lv_at hl 7 rfl) ?_
          refine z_pS (As := [zl (enF (acx gl gp gx gy GK la (lifeV (BF 0 0) (BF 0 1) (BF 0 2) (BF 0 3) (BF 0 4) (BF 0 5) (BF 0 6) (FI 0) (FJ 0) (FW 0))) pl), zl v, zi uq]) (rest := []) hC (c_X5_tell l D y (enF (acx gl gp gx gy GK la (lifeV (BF 0 0) (BF 0 1) (BF 0 2) (BF 0 3) (BF 0 4) (BF 0 5) (BF 0 6) (FI 0) (FJ 0) (FW 0))) pl) v uq ⟨⟨ek.1, Int.le_trans ek.2 (by omega)⟩, by omega, by omega⟩ (by first | assumption | omega)) (va_cwS 3 hts gX11_whose_X5_tell rfl rfl rfl (by decide +kernel) ⟨Nat.le_of_ble_eq_true rfl, Nat.le_of_ble_eq_true rfl⟩) hG va_P_nil rfl hl.1 rfl (Nat.le_of_ble_eq_true rfl) dX11_whose_90 ⟨Nat.le_of_ble_eq_true rfl, Nat.le_of_ble_eq_true rfl⟩ ?_
          exact z_lretW hx hb hr hlocks (dc2, DE2) (by first | exact congrArg (fun z => some (zl z)) (if_pos (by omega)) | exact congrArg (fun z => some (zl z)) ((if_neg (by omega)).trans (by rw [v9]; rfl))) (trivial) (hP.sub [0, 1] rfl) (hD.sub [0, 1] (by decide) rfl) hS dX11_whose_93
        ·
          subst e9
          refine lv_aload_n hx hb dX11_whose_79 rfl (lv_at hl 3 rfl) ?_
          refine lv_iload_n hx hb dX11_whose_80 rfl (lv_at hl 6 rfl) ?_
          refine lv_iload_n hx hb dX11_whose_81 rfl (lv_at hl 4 rfl) ?_
          refine lv_iload_n hx hb dX11_whose_82 rfl (lv_at hl 5 rfl) ?_
          refine z_wR (As := [zi 1, zi la, zi pl]) (rest := []) (wc := [(d0, .inr (3, [.ref da, zl cr])), (da, .inl (y 1, 12, .inr (.inl (cL E))))]) (wrest := []) hC (c_X11_wreckShare l D y x0 t0 g0 f0 r0 sl0 n0 d0 w0 c0 fa fn fr 1 (bh 1) (ba 1) (bb 1) (bc 1) (BF 1 0) (BF 1 1) (BF 1 2) (BF 1 3) (BF 1 4) (BF 1 5) (BF 1 6) (FI 1) (FJ 1) (FW 1) la pl ga gl gp gx gy GK da cr E ⟨by omega, by omega, by omega, by omega⟩ (hfr 1 (by omega) (by omega)) (hBK 1 (by omega) (by omega)) (by first | assumption | omega) (by first | assumption | omega) (by first | assumption | omega) _) (cwV 3 hts gX11_whose_X11_wreckShare rfl rfl rfl (by decide +kernel) ⟨Nat.le_of_ble_eq_true rfl, Nat.le_of_ble_eq_true rfl⟩) hG hP hD hS hA [0, 1] [] rfl rfl (by decide) (by decide) (by decide) (hPr.sub (ws' := [(x0, .inr (10, [.ref t0, .ref g0, .ref f0, .ref r0, .ref sl0, .ref n0, .ref d0, .ref w0, .ref c0])), (f0, .inr (4, [.ref fa, zi fn])), (fa, .inl (y 3, 6, .inr (.inr (.inr (.inr fr))))), ((bh 1), .inr (1, [zi (BF 1 0), zi (BF 1 1), zi (BF 1 2), zi (BF 1 3), zi (BF 1 4), zi (BF 1 5), zi (BF 1 6), .ref (ba 1), .ref (bb 1), .ref (bc 1)])), ((ba 1), .inl (y 0, 8, .inl (cI (FI 1)))), ((bb 1), .inl (y 0, 8, .inl (cI (FJ 1)))), ((bc 1), .inl (y 0, 8, .inl (cI (FW 1)))), (g0, .inr (5, [.ref ga, zi gl, zi gp, zi gx, zi gy])), (ga, .inl (y 0, 36, .inl (cI GK)))]) [0, 1, 2, 7, 8, 9, 10, 27, 28] rfl) (fun k q hk z => ro_sub (wr' := [(x0, .inr (10, [.ref t0, .ref g0, .ref f0, .ref r0, .ref sl0, .ref n0, .ref d0, .ref w0, .ref c0])), (f0, .inr (4, [.ref fa, zi fn])), (fa, .inl (y 3, 6, .inr (.inr (.inr (.inr fr))))), ((bh 1), .inr (1, [zi (BF 1 0), zi (BF 1 1), zi (BF 1 2), zi (BF 1 3), zi (BF 1 4), zi (BF 1 5), zi (BF 1 6), .ref (ba 1), .ref (bb 1), .ref (bc 1)])), ((ba 1), .inl (y 0, 8, .inl (cI (FI 1)))), ((bb 1), .inl (y 0, 8, .inl (cI (FJ 1)))), ((bc 1), .inl (y 0, 8, .inl (cI (FW 1)))), (g0, .inr (5, [.ref ga, zi gl, zi gp, zi gx, zi gy])), (ga, .inl (y 0, 36, .inl (cI GK)))]) hN [0, 1, 2, 7, 8, 9, 10, 27, 28] rfl k q hk (va_free (wc := [(d0, .inr (3, [.ref da, zl cr])), (da, .inl (y 1, 12, .inr (.inl (cL E))))]) hD hS hA [0, 1] rfl q.1 z)) 0 rfl rfl rfl hl.1 rfl (Nat.le_of_ble_eq_true rfl) dX11_whose_83 ⟨Nat.le_of_ble_eq_true rfl, Nat.le_of_ble_eq_true rfl⟩ (fun u9 H locs hw_6 hP hD hS => ?_)
          obtain ⟨dc2, DE2⟩ := u9
          have hw_6 : True := hw_6
          have hP : va_P D vwCl [(d0, .inr (3, [.ref da, zl dc2])), (da, .inl (y 1, 12, .inr (.inl (cL DE2))))] H := hP
          have hD : va_D A [(d0, .inr (3, [.ref da, zl dc2])), (da, .inl (y 1, 12, .inr (.inl (cL DE2))))] := hD
          have hPr := ro_now hR0 hN hS
          refine lv_lload hx hb dX11_whose_86 (lv_at hl 1 rfl) ?_
          refine lv_iload hx hb dX11_whose_88 (lv_at hl 7 rfl) ?_
          refine z_pS (As := [zl (enF (acx gl gp gx gy GK la (lifeV (BF 1 0) (BF 1 1) (BF 1 2) (BF 1 3) (BF 1 4) (BF 1 5) (BF 1 6) (FI 1) (FJ 1) (FW 1))) pl), zl v, zi uq]) (rest := []) hC (c_X5_tell l D y (enF (acx gl gp gx gy GK la (lifeV (BF 1 0) (BF 1 1) (BF 1 2) (BF 1 3) (BF 1 4) (BF 1 5) (BF 1 6) (FI 1) (FJ 1) (FW 1))) pl) v uq ⟨⟨ek.1, Int.le_trans ek.2 (by omega)⟩, by omega, by omega⟩ (by first | assumption | omega)) (va_cwS 3 hts gX11_whose_X5_tell rfl rfl rfl (by decide +kernel) ⟨Nat.le_of_ble_eq_true rfl, Nat.le_of_ble_eq_true rfl⟩) hG va_P_nil rfl hl.1 rfl (Nat.le_of_ble_eq_true rfl) dX11_whose_90 ⟨Nat.le_of_ble_eq_true rfl, Nat.le_of_ble_eq_true rfl⟩ ?_
          exact z_lretW hx hb hr hlocks (dc2, DE2) (by first | exact congrArg (fun z => some (zl z)) (if_pos (by omega)) | exact congrArg (fun z => some (zl z)) ((if_neg (by omega)).trans (by rw [v9]; rfl))) (trivial) (hP.sub [0, 1] rfl) (hD.sub [0, 1] (by decide) rfl) hS dX11_whose_93
        ·
          subst e9
          refine lv_aload_n hx hb dX11_whose_79 rfl (lv_at hl 3 rfl) ?_
          refine lv_iload_n hx hb dX11_whose_80 rfl (lv_at hl 6 rfl) ?_
          refine lv_iload_n hx hb dX11_whose_81 rfl (lv_at hl 4 rfl) ?_
          refine lv_iload_n hx hb dX11_whose_82 rfl (lv_at hl 5 rfl) ?_
          refine z_wR (As := [zi 2, zi la, zi pl]) (rest := []) (wc := [(d0, .inr (3, [.ref da, zl cr])), (da, .inl (y 1, 12, .inr (.inl (cL E))))]) (wrest := []) hC (c_X11_wreckShare l D y x0 t0 g0 f0 r0 sl0 n0 d0 w0 c0 fa fn fr 2 (bh 2) (ba 2) (bb 2) (bc 2) (BF 2 0) (BF 2 1) (BF 2 2) (BF 2 3) (BF 2 4) (BF 2 5) (BF 2 6) (FI 2) (FJ 2) (FW 2) la pl ga gl gp gx gy GK da cr E ⟨by omega, by omega, by omega, by omega⟩ (hfr 2 (by omega) (by omega)) (hBK 2 (by omega) (by omega)) (by first | assumption | omega) (by first | assumption | omega) (by first | assumption | omega) _) (cwV 3 hts gX11_whose_X11_wreckShare rfl rfl rfl (by decide +kernel) ⟨Nat.le_of_ble_eq_true rfl, Nat.le_of_ble_eq_true rfl⟩) hG hP hD hS hA [0, 1] [] rfl rfl (by decide) (by decide) (by decide) (hPr.sub (ws' := [(x0, .inr (10, [.ref t0, .ref g0, .ref f0, .ref r0, .ref sl0, .ref n0, .ref d0, .ref w0, .ref c0])), (f0, .inr (4, [.ref fa, zi fn])), (fa, .inl (y 3, 6, .inr (.inr (.inr (.inr fr))))), ((bh 2), .inr (1, [zi (BF 2 0), zi (BF 2 1), zi (BF 2 2), zi (BF 2 3), zi (BF 2 4), zi (BF 2 5), zi (BF 2 6), .ref (ba 2), .ref (bb 2), .ref (bc 2)])), ((ba 2), .inl (y 0, 8, .inl (cI (FI 2)))), ((bb 2), .inl (y 0, 8, .inl (cI (FJ 2)))), ((bc 2), .inl (y 0, 8, .inl (cI (FW 2)))), (g0, .inr (5, [.ref ga, zi gl, zi gp, zi gx, zi gy])), (ga, .inl (y 0, 36, .inl (cI GK)))]) [0, 1, 2, 11, 12, 13, 14, 27, 28] rfl) (fun k q hk z => ro_sub (wr' := [(x0, .inr (10, [.ref t0, .ref g0, .ref f0, .ref r0, .ref sl0, .ref n0, .ref d0, .ref w0, .ref c0])), (f0, .inr (4, [.ref fa, zi fn])), (fa, .inl (y 3, 6, .inr (.inr (.inr (.inr fr))))), ((bh 2), .inr (1, [zi (BF 2 0), zi (BF 2 1), zi (BF 2 2), zi (BF 2 3), zi (BF 2 4), zi (BF 2 5), zi (BF 2 6), .ref (ba 2), .ref (bb 2), .ref (bc 2)])), ((ba 2), .inl (y 0, 8, .inl (cI (FI 2)))), ((bb 2), .inl (y 0, 8, .inl (cI (FJ 2)))), ((bc 2), .inl (y 0, 8, .inl (cI (FW 2)))), (g0, .inr (5, [.ref ga, zi gl, zi gp, zi gx, zi gy])), (ga, .inl (y 0, 36, .inl (cI GK)))]) hN [0, 1, 2, 11, 12, 13, 14, 27, 28] rfl k q hk (va_free (wc := [(d0, .inr (3, [.ref da, zl cr])), (da, .inl (y 1, 12, .inr (.inl (cL E))))]) hD hS hA [0, 1] rfl q.1 z)) 0 rfl rfl rfl hl.1 rfl (Nat.le_of_ble_eq_true rfl) dX11_whose_83 ⟨Nat.le_of_ble_eq_true rfl, Nat.le_of_ble_eq_true rfl⟩ (fun u9 H locs hw_9 hP hD hS => ?_)
          obtain ⟨dc2, DE2⟩ := u9
          have hw_9 : True := hw_9
          have hP : va_P D vwCl [(d0, .inr (3, [.ref da, zl dc2])), (da, .inl (y 1, 12, .inr (.inl (cL DE2))))] H := hP
          have hD : va_D A [(d0, .inr (3, [.ref da, zl dc2])), (da, .inl (y 1, 12, .inr (.inl (cL DE2))))] := hD
          have hPr := ro_now hR0 hN hS
          refine lv_lload hx hb dX11_whose_86 (lv_at hl 1 rfl) ?_
          refine lv_iload hx hb dX11_whose_88 (lv_at hl 7 rfl) ?_
          refine z_pS (As := [zl (enF (acx gl gp gx gy GK la (lifeV (BF 2 0) (BF 2 1) (BF 2 2) (BF 2 3) (BF 2 4) (BF 2 5) (BF 2 6) (FI 2) (FJ 2) (FW 2))) pl), zl v, zi uq]) (rest := []) hC (c_X5_tell l D y (enF (acx gl gp gx gy GK la (lifeV (BF 2 0) (BF 2 1) (BF 2 2) (BF 2 3) (BF 2 4) (BF 2 5) (BF 2 6) (FI 2) (FJ 2) (FW 2))) pl) v uq ⟨⟨ek.1, Int.le_trans ek.2 (by omega)⟩, by omega, by omega⟩ (by first | assumption | omega)) (va_cwS 3 hts gX11_whose_X5_tell rfl rfl rfl (by decide +kernel) ⟨Nat.le_of_ble_eq_true rfl, Nat.le_of_ble_eq_true rfl⟩) hG va_P_nil rfl hl.1 rfl (Nat.le_of_ble_eq_true rfl) dX11_whose_90 ⟨Nat.le_of_ble_eq_true rfl, Nat.le_of_ble_eq_true rfl⟩ ?_
          exact z_lretW hx hb hr hlocks (dc2, DE2) (by first | exact congrArg (fun z => some (zl z)) (if_pos (by omega)) | exact congrArg (fun z => some (zl z)) ((if_neg (by omega)).trans (by rw [v9]; rfl))) (trivial) (hP.sub [0, 1] rfl) (hD.sub [0, 1] (by decide) rfl) hS dX11_whose_93
        ·
          subst e9
          refine lv_aload_n hx hb dX11_whose_79 rfl (lv_at hl 3 rfl) ?_
          refine lv_iload_n hx hb dX11_whose_80 rfl (lv_at hl 6 rfl) ?_
          refine lv_iload_n hx hb dX11_whose_81 rfl (lv_at hl 4 rfl) ?_
          refine lv_iload_n hx hb dX11_whose_82 rfl (lv_at hl 5 rfl) ?_
          refine z_wR (As := [zi 3, zi la, zi pl]) (rest := []) (wc := [(d0, .inr (3, [.ref da, zl cr])), (da, .inl (y 1, 12, .inr (.inl (cL E))))]) (wrest := []) hC (c_X11_wreckShare l D y x0 t0 g0 f0 r0 sl0 n0 d0 w0 c0 fa fn fr 3 (bh 3) (ba 3) (bb 3) (bc 3) (BF 3 0) (BF 3 1) (BF 3 2) (BF 3 3) (BF 3 4) (BF 3 5) (BF 3 6) (FI 3) (FJ 3) (FW 3) la pl ga gl gp gx gy GK da cr E ⟨by omega, by omega, by omega, by omega⟩ (hfr 3 (by omega) (by omega)) (hBK 3 (by omega) (by omega)) (by first | assumption | omega) (by first | assumption | omega) (by first | assumption | omega) _) (cwV 3 hts gX11_whose_X11_wreckShare rfl rfl rfl (by decide +kernel) ⟨Nat.le_of_ble_eq_true rfl, Nat.le_of_ble_eq_true rfl⟩) hG hP hD hS hA [0, 1] [] rfl rfl (by decide) (by decide) (by decide) (hPr.sub (ws' := [(x0, .inr (10, [.ref t0, .ref g0, .ref f0, .ref r0, .ref sl0, .ref n0, .ref d0, .ref w0, .ref c0])), (f0, .inr (4, [.ref fa, zi fn])), (fa, .inl (y 3, 6, .inr (.inr (.inr (.inr fr))))), ((bh 3), .inr (1, [zi (BF 3 0), zi (BF 3 1), zi (BF 3 2), zi (BF 3 3), zi (BF 3 4), zi (BF 3 5), zi (BF 3 6), .ref (ba 3), .ref (bb 3), .ref (bc 3)])), ((ba 3), .inl (y 0, 8, .inl (cI (FI 3)))), ((bb 3), .inl (y 0, 8, .inl (cI (FJ 3)))), ((bc 3), .inl (y 0, 8, .inl (cI (FW 3)))), (g0, .inr (5, [.ref ga, zi gl, zi gp, zi gx, zi gy])), (ga, .inl (y 0, 36, .inl (cI GK)))]) [0, 1, 2, 15, 16, 17, 18, 27, 28] rfl) (fun k q hk z => ro_sub (wr' := [(x0, .inr (10, [.ref t0, .ref g0, .ref f0, .ref r0, .ref sl0, .ref n0, .ref d0, .ref w0, .ref c0])), (f0, .inr (4, [.ref fa, zi fn])), (fa, .inl (y 3, 6, .inr (.inr (.inr (.inr fr))))), ((bh 3), .inr (1, [zi (BF 3 0), zi (BF 3 1), zi (BF 3 2), zi (BF 3 3), zi (BF 3 4), zi (BF 3 5), zi (BF 3 6), .ref (ba 3), .ref (bb 3), .ref (bc 3)])), ((ba 3), .inl (y 0, 8, .inl (cI (FI 3)))), ((bb 3), .inl (y 0, 8, .inl (cI (FJ 3)))), ((bc 3), .inl (y 0, 8, .inl (cI (FW 3)))), (g0, .inr (5, [.ref ga, zi gl, zi gp, zi gx, zi gy])), (ga, .inl (y 0, 36, .inl (cI GK)))]) hN [0, 1, 2, 15, 16, 17, 18, 27, 28] rfl k q hk (va_free (wc := [(d0, .inr (3, [.ref da, zl cr])), (da, .inl (y 1, 12, .inr (.inl (cL E))))]) hD hS hA [0, 1] rfl q.1 z)) 0 rfl rfl rfl hl.1 rfl (Nat.le_of_ble_eq_true rfl) dX11_whose_83 ⟨Nat.le_of_ble_eq_true rfl, Nat.le_of_ble_eq_true rfl⟩ (fun u9 H locs hw_12 hP hD hS => ?_)
          obtain ⟨dc2, DE2⟩ := u9
          have hw_12 : True := hw_12
          have hP : va_P D vwCl [(d0, .inr (3, [.ref da, zl dc2])), (da, .inl (y 1, 12, .inr (.inl (cL DE2))))] H := hP
          have hD : va_D A [(d0, .inr (3, [.ref da, zl dc2])), (da, .inl (y 1, 12, .inr (.inl (cL DE2))))] := hD
          have hPr := ro_now hR0 hN hS
          refine lv_lload hx hb dX11_whose_86 (lv_at hl 1 rfl) ?_
          refine lv_iload hx hb dX11_whose_88 (lv_at hl 7 rfl) ?_
          refine z_pS (As := [zl (enF (acx gl gp gx gy GK la (lifeV (BF 3 0) (BF 3 1) (BF 3 2) (BF 3 3) (BF 3 4) (BF 3 5) (BF 3 6) (FI 3) (FJ 3) (FW 3))) pl), zl v, zi uq]) (rest := []) hC (c_X5_tell l D y (enF (acx gl gp gx gy GK la (lifeV (BF 3 0) (BF 3 1) (BF 3 2) (BF 3 3) (BF 3 4) (BF 3 5) (BF 3 6) (FI 3) (FJ 3) (FW 3))) pl) v uq ⟨⟨ek.1, Int.le_trans ek.2 (by omega)⟩, by omega, by omega⟩ (by first | assumption | omega)) (va_cwS 3 hts gX11_whose_X5_tell rfl rfl rfl (by decide +kernel) ⟨Nat.le_of_ble_eq_true rfl, Nat.le_of_ble_eq_true rfl⟩) hG va_P_nil rfl hl.1 rfl (Nat.le_of_ble_eq_true rfl) dX11_whose_90 ⟨Nat.le_of_ble_eq_true rfl, Nat.le_of_ble_eq_true rfl⟩ ?_
          exact z_lretW hx hb hr hlocks (dc2, DE2) (by first | exact congrArg (fun z => some (zl z)) (if_pos (by omega)) | exact congrArg (fun z => some (zl z)) ((if_neg (by omega)).trans (by rw [v9]; rfl))) (trivial) (hP.sub [0, 1] rfl) (hD.sub [0, 1] (by decide) rfl) hS dX11_whose_93
        ·
          subst e9
          refine lv_aload_n hx hb dX11_whose_79 rfl (lv_at hl 3 rfl) ?_
          refine lv_iload_n hx hb dX11_whose_80 rfl (lv_at hl 6 rfl) ?_
          refine lv_iload_n hx hb dX11_whose_81 rfl (lv_at hl 4 rfl) ?_
          refine lv_iload_n hx hb dX11_whose_82 rfl (lv_at hl 5 rfl) ?_
          refine z_wR (As := [zi 4, zi la, zi pl]) (rest := []) (wc := [(d0, .inr (3, [.ref da, zl cr])), (da, .inl (y 1, 12, .inr (.inl (cL E))))]) (wrest := []) hC (c_X11_wreckShare l D y x0 t0 g0 f0 r0 sl0 n0 d0 w0 c0 fa fn fr 4 (bh 4) (ba 4) (bb 4) (bc 4) (BF 4 0) (BF 4 1) (BF 4 2) (BF 4 3) (BF 4 4) (BF 4 5) (BF 4 6) (FI 4) (FJ 4) (FW 4) la pl ga gl gp gx gy GK da cr E ⟨by omega, by omega, by omega, by omega⟩ (hfr 4 (by omega) (by omega)) (hBK 4 (by omega) (by omega)) (by first | assumption | omega) (by first | assumption | omega) (by first | assumption | omega) _) (cwV 3 hts gX11_whose_X11_wreckShare rfl rfl rfl (by decide +kernel) ⟨Nat.le_of_ble_eq_true rfl, Nat.le_of_ble_eq_true rfl⟩) hG hP hD hS hA [0, 1] [] rfl rfl (by decide) (by decide) (by decide) (hPr.sub (ws' := [(x0, .inr (10, [.ref t0, .ref g0, .ref f0, .ref r0, .ref sl0, .ref n0, .ref d0, .ref w0, .ref c0])), (f0, .inr (4, [.ref fa, zi fn])), (fa, .inl (y 3, 6, .inr (.inr (.inr (.inr fr))))), ((bh 4), .inr (1, [zi (BF 4 0), zi (BF 4 1), zi (BF 4 2), zi (BF 4 3), zi (BF 4 4), zi (BF 4 5), zi (BF 4 6), .ref (ba 4), .ref (bb 4), .ref (bc 4)])), ((ba 4), .inl (y 0, 8, .inl (cI (FI 4)))), ((bb 4), .inl (y 0, 8, .inl (cI (FJ 4)))), ((bc 4), .inl (y 0, 8, .inl (cI (FW 4)))), (g0, .inr (5, [.ref ga, zi gl, zi gp, zi gx, zi gy])), (ga, .inl (y 0, 36, .inl (cI GK)))]) [0, 1, 2, 19, 20, 21, 22, 27, 28] rfl) (fun k q hk z => ro_sub (wr' := [(x0, .inr (10, [.ref t0, .ref g0, .ref f0, .ref r0, .ref sl0, .ref n0, .ref d0, .ref w0, .ref c0])), (f0, .inr (4, [.ref fa, zi fn])), (fa, .inl (y 3, 6, .inr (.inr (.inr (.inr fr))))), ((bh 4), .inr (1, [zi (BF 4 0), zi (BF 4 1), zi (BF 4 2), zi (BF 4 3), zi (BF 4 4), zi (BF 4 5), zi (BF 4 6), .ref (ba 4), .ref (bb 4), .ref (bc 4)])), ((ba 4), .inl (y 0, 8, .inl (cI (FI 4)))), ((bb 4), .inl (y 0, 8, .inl (cI (FJ 4)))), ((bc 4), .inl (y 0, 8, .inl (cI (FW 4)))), (g0, .inr (5, [.ref ga, zi gl, zi gp, zi gx, zi gy])), (ga, .inl (y 0, 36, .inl (cI GK)))]) hN [0, 1, 2, 19, 20, 21, 22, 27, 28] rfl k q hk (va_free (wc := [(d0, .inr (3, [.ref da, zl cr])), (da, .inl (y 1, 12, .inr (.inl (cL E))))]) hD hS hA [0, 1] rfl q.1 z)) 0 rfl rfl rfl hl.1 rfl (Nat.le_of_ble_eq_true rfl) dX11_whose_83 ⟨Nat.le_of_ble_eq_true rfl, Nat.le_of_ble_eq_true rfl⟩ (fun u9 H locs hw_15 hP hD hS => ?_)
          obtain ⟨dc2, DE2⟩ := u9
          have hw_15 : True := hw_15
          have hP : va_P D vwCl [(d0, .inr (3, [.ref da, zl dc2])), (da, .inl (y 1, 12, .inr (.inl (cL DE2))))] H := hP
          have hD : va_D A [(d0, .inr (3, [.ref da, zl dc2])), (da, .inl (y 1, 12, .inr (.inl (cL DE2))))] := hD
          have hPr := ro_now hR0 hN hS
          refine lv_lload hx hb dX11_whose_86 (lv_at hl 1 rfl) ?_
          refine lv_iload hx hb dX11_whose_88 (lv_at hl 7 rfl) ?_
          refine z_pS (As := [zl (enF (acx gl gp gx gy GK la (lifeV (BF 4 0) (BF 4 1) (BF 4 2) (BF 4 3) (BF 4 4) (BF 4 5) (BF 4 6) (FI 4) (FJ 4) (FW 4))) pl), zl v, zi uq]) (rest := []) hC (c_X5_tell l D y (enF (acx gl gp gx gy GK la (lifeV (BF 4 0) (BF 4 1) (BF 4 2) (BF 4 3) (BF 4 4) (BF 4 5) (BF 4 6) (FI 4) (FJ 4) (FW 4))) pl) v uq ⟨⟨ek.1, Int.le_trans ek.2 (by omega)⟩, by omega, by omega⟩ (by first | assumption | omega)) (va_cwS 3 hts gX11_whose_X5_tell rfl rfl rfl (by decide +kernel) ⟨Nat.le_of_ble_eq_true rfl, Nat.le_of_ble_eq_true rfl⟩) hG va_P_nil rfl hl.1 rfl (Nat.le_of_ble_eq_true rfl) dX11_whose_90 ⟨Nat.le_of_ble_eq_true rfl, Nat.le_of_ble_eq_true rfl⟩ ?_
          exact z_lretW hx hb hr hlocks (dc2, DE2) (by first | exact congrArg (fun z => some (zl z)) (if_pos (by omega)) | exact congrArg (fun z => some (zl z)) ((if_neg (by omega)).trans (by rw [v9]; rfl))) (trivial) (hP.sub [0, 1] rfl) (hD.sub [0, 1] (by decide) rfl) hS dX11_whose_93
        ·
          subst e9
          refine lv_aload_n hx hb dX11_whose_79 rfl (lv_at hl 3 rfl) ?_
          refine lv_iload_n hx hb dX11_whose_80 rfl (lv_at hl 6 rfl) ?_
          refine lv_iload_n hx hb dX11_whose_81 rfl (lv_at hl 4 rfl) ?_
          refine lv_iload_n hx hb dX11_whose_82 rfl (lv_at hl 5 rfl) ?_
          refine z_wR (As := [zi 5, zi la, zi pl]) (rest := []) (wc := [(d0, .inr (3, [.ref da, zl cr])), (da, .inl (y 1, 12, .inr (.inl (cL E))))]) (wrest := []) hC (c_X11_wreckShare l D y x0 t0 g0 f0 r0 sl0 n0 d0 w0 c0 fa fn fr 5 (bh 5) (ba 5) (bb 5) (bc 5) (BF 5 0) (BF 5 1) (BF 5 2) (BF 5 3) (BF 5 4) (BF 5 5) (BF 5 6) (FI 5) (FJ 5) (FW 5) la pl ga gl gp gx gy GK da cr E ⟨by omega, by omega, by omega, by omega⟩ (hfr 5 (by omega) (by omega)) (hBK 5 (by omega) (by omega)) (by first | assumption | omega) (by first | assumption | omega) (by first | assumption | omega) _) (cwV 3 hts gX11_whose_X11_wreckShare rfl rfl rfl (by decide +kernel) ⟨Nat.le_of_ble_eq_true rfl, Nat.le_of_ble_eq_true rfl⟩) hG hP hD hS hA [0, 1] [] rfl rfl (by decide) (by decide) (by decide) (hPr.sub (ws' := [(x0, .inr (10, [.ref t0, .ref g0, .ref f0, .ref r0, .ref sl0, .ref n0, .ref d0, .ref w0, .ref c0])), (f0, .inr (4, [.ref fa, zi fn])), (fa, .inl (y 3, 6, .inr (.inr (.inr (.inr fr))))), ((bh 5), .inr (1, [zi (BF 5 0), zi (BF 5 1), zi (BF 5 2), zi (BF 5 3), zi (BF 5 4), zi (BF 5 5), zi (BF 5 6), .ref (ba 5), .ref (bb 5), .ref (bc 5)])), ((ba 5), .inl (y 0, 8, .inl (cI (FI 5)))), ((bb 5), .inl (y 0, 8, .inl (cI (FJ 5)))), ((bc 5), .inl (y 0, 8, .inl (cI (FW 5)))), (g0, .inr (5, [.ref ga, zi gl, zi gp, zi gx, zi gy])), (ga, .inl (y 0, 36, .inl (cI GK)))]) [0, 1, 2, 23, 24, 25, 26, 27, 28] rfl) (fun k q hk z => ro_sub (wr' := [(x0, .inr (10, [.ref t0, .ref g0, .ref f0, .ref r0, .ref sl0, .ref n0, .ref d0, .ref w0, .ref c0])), (f0, .inr (4, [.ref fa, zi fn])), (fa, .inl (y 3, 6, .inr (.inr (.inr (.inr fr))))), ((bh 5), .inr (1, [zi (BF 5 0), zi (BF 5 1), zi (BF 5 2), zi (BF 5 3), zi (BF 5 4), zi (BF 5 5), zi (BF 5 6), .ref (ba 5), .ref (bb 5), .ref (bc 5)])), ((ba 5), .inl (y 0, 8, .inl (cI (FI 5)))), ((bb 5), .inl (y 0, 8, .inl (cI (FJ 5)))), ((bc 5), .inl (y 0, 8, .inl (cI (FW 5)))), (g0, .inr (5, [.ref ga, zi gl, zi gp, zi gx, zi gy])), (ga, .inl (y 0, 36, .inl (cI GK)))]) hN [0, 1, 2, 23, 24, 25, 26, 27, 28] rfl k q hk (va_free (wc := [(d0, .inr (3, [.ref da, zl cr])), (da, .inl (y 1, 12, .inr (.inl (cL E))))]) hD hS hA [0, 1] rfl q.1 z)) 0 rfl rfl rfl hl.1 rfl (Nat.le_of_ble_eq_true rfl) dX11_whose_83 ⟨Nat.le_of_ble_eq_true rfl, Nat.le_of_ble_eq_true rfl⟩ (fun u9 H locs hw_18 hP hD hS => ?_)
          obtain ⟨dc2, DE2⟩ := u9
          have hw_18 : True := hw_18
          have hP : va_P D vwCl [(d0, .inr (3, [.ref da, zl dc2])), (da, .inl (y 1, 12, .inr (.inl (cL DE2))))] H := hP
          have hD : va_D A [(d0, .inr (3, [.ref da, zl dc2])), (da, .inl (y 1, 12, .inr (.inl (cL DE2))))] := hD
          have hPr := ro_now hR0 hN hS
          refine lv_lload hx hb dX11_whose_86 (lv_at hl 1 rfl) ?_
          refine lv_iload hx hb dX11_whose_88 (lv_at hl 7 rfl) ?_
          refine z_pS (As := [zl (enF (acx gl gp gx gy GK la (lifeV (BF 5 0) (BF 5 1) (BF 5 2) (BF 5 3) (BF 5 4) (BF 5 5) (BF 5 6) (FI 5) (FJ 5) (FW 5))) pl), zl v, zi uq]) (rest := []) hC (c_X5_tell l D y (enF (acx gl gp gx gy GK la (lifeV (BF 5 0) (BF 5 1) (BF 5 2) (BF 5 3) (BF 5 4) (BF 5 5) (BF 5 6) (FI 5) (FJ 5) (FW 5))) pl) v uq ⟨⟨ek.1, Int.le_trans ek.2 (by omega)⟩, by omega, by omega⟩ (by first | assumption | omega)) (va_cwS 3 hts gX11_whose_X5_tell rfl rfl rfl (by decide +kernel) ⟨Nat.le_of_ble_eq_true rfl, Nat.le_of_ble_eq_true rfl⟩) hG va_P_nil rfl hl.1 rfl (Nat.le_of_ble_eq_true rfl) dX11_whose_90 ⟨Nat.le_of_ble_eq_true rfl, Nat.le_of_ble_eq_true rfl⟩ ?_
          exact z_lretW hx hb hr hlocks (dc2, DE2) (by first | exact congrArg (fun z => some (zl z)) (if_pos (by omega)) | exact congrArg (fun z => some (zl z)) ((if_neg (by omega)).trans (by rw [v9]; rfl))) (trivial) (hP.sub [0, 1] rfl) (hD.sub [0, 1] (by decide) rfl) hS dX11_whose_93
      ·
        refine lv_ldc2 (v := iL (-3)) hx hb hown k5 dX11_whose_75 ?_
        exact z_lretW hx hb hr hlocks (cr, E) (by first | exact congrArg (fun z => some (zl z)) (if_pos (by omega)) | exact congrArg (fun z => some (zl z)) ((if_neg (by omega)).trans (by rw [v9]; rfl))) (trivial) (hP.sub [0, 1] rfl) (hD.sub [0, 1] (by decide) rfl) hS dX11_whose_78
    ·
      rcases (by omega : k = 0 ∨ k = 1 ∨ k = 2 ∨ k = 3 ∨ k = 4 ∨ k = 5) with e9 | e9 | e9 | e9 | e9 | e9
      ·
        subst e9
        refine lv_lload hx hb dX11_whose_49 (lv_at hl 1 rfl) ?_
        refine lv_aload_n hx hb dX11_whose_51 rfl (lv_at hl 3 rfl) ?_
        refine lv_iload hx hb dX11_whose_52 (lv_at hl 0 rfl) ?_
        refine lv_iload_n hx hb dX11_whose_54 rfl (lv_at hl 4 rfl) ?_
        refine lv_iload_n hx hb dX11_whose_55 rfl (lv_at hl 5 rfl) ?_
        refine z_wR (As := [zi 0, zi la, zi pl]) (rest := [zl v]) (wc := [(d0, .inr (3, [.ref da, zl cr])), (da, .inl (y 1, 12, .inr (.inl (cL E))))]) (wrest := []) hC (c_X11_wreckShare l D y x0 t0 g0 f0 r0 sl0 n0 d0 w0 c0 fa fn fr 0 (bh 0) (ba 0) (bb 0) (bc 0) (BF 0 0) (BF 0 1) (BF 0 2) (BF 0 3) (BF 0 4) (BF 0 5) (BF 0 6) (FI 0) (FJ 0) (FW 0) la pl ga gl gp gx gy GK da cr E ⟨by omega, by omega, by omega, by omega⟩ (hfr 0 (by omega) (by omega)) (hBK 0 (by omega) (by omega)) (by first | assumption | omega) (by first | assumption | omega) (by first | assumption | omega) _) (cwV 3 hts gX11_whose_X11_wreckShare rfl rfl rfl (by decide +kernel) ⟨Nat.le_of_ble_eq_true rfl, Nat.le_of_ble_eq_true rfl⟩) hG hP hD hS hA [0, 1] [] rfl rfl (by decide) (by decide) (by decide) (hPr.sub (ws' := [(x0, .inr (10, [.ref t0, .ref g0, .ref f0, .ref r0, .ref sl0, .ref n0, .ref d0, .ref w0, .ref c0])), (f0, .inr (4, [.ref fa, zi fn])), (fa, .inl (y 3, 6, .inr (.inr (.inr (.inr fr))))), ((bh 0), .inr (1, [zi (BF 0 0), zi (BF 0 1), zi (BF 0 2), zi (BF 0 3), zi (BF 0 4), zi (BF 0 5), zi (BF 0 6), .ref (ba 0), .ref (bb 0), .ref (bc 0)])), ((ba 0), .inl (y 0, 8, .inl (cI (FI 0)))), ((bb 0), .inl (y 0, 8, .inl (cI (FJ 0)))), ((bc 0), .inl (y 0, 8, .inl (cI (FW 0)))), (g0, .inr (5, [.ref ga, zi gl, zi gp, zi gx, zi gy])), (ga, .inl (y 0, 36, .inl (cI GK)))]) [0, 1, 2, 3, 4, 5, 6, 27, 28] rfl) (fun k q hk z => ro_sub (wr' := [(x0, .inr (10, [.ref t0, .ref g0, .ref f0, .ref r0, .ref sl0, .ref n0, .ref d0, .ref w0, .ref c0])), (f0, .inr (4, [.ref fa, zi fn])), (fa, .inl (y 3, 6, .inr (.inr (.inr (.inr fr))))), ((bh 0), .inr (1, [zi (BF 0 0), zi (BF 0 1), zi (BF 0 2), zi (BF 0 3), zi (BF 0 4), zi (BF 0 5), zi (BF 0 6), .ref (ba 0), .ref (bb 0), .ref (bc 0)])), ((ba 0), .inl (y 0, 8, .inl (cI (FI 0)))), ((bb 0), .inl (y 0, 8, .inl (cI (FJ 0)))), ((bc 0), .inl (y 0, 8, .inl (cI (FW 0)))), (g0, .inr (5, [.ref ga, zi gl, zi gp, zi gx, zi gy])), (ga, .inl (y 0, 36, .inl (cI GK)))]) hN [0, 1, 2, 3, 4, 5, 6, 27, 28] rfl k q hk (va_free (wc := [(d0, .inr (3, [.ref da, zl cr])), (da, .inl (y 1, 12, .inr (.inl (cL E))))]) hD hS hA [0, 1] rfl q.1 z)) 0 rfl rfl rfl hl.1 rfl (Nat.le_of_ble_eq_true rfl) dX11_whose_56 ⟨Nat.le_of_ble_eq_true rfl, Nat.le_of_ble_eq_true rfl⟩ (fun u9 H locs hw_21 hP hD hS => ?_)
        obtain ⟨dc2, DE2⟩ := u9
        have hw_21 : True := hw_21
        have hP : va_P D vwCl [(d0, .inr (3, [.ref da, zl dc2])), (da, .inl (y 1, 12, .inr (.inl (cL DE2))))] H := hP
        have hD : va_D A [(d0, .inr (3, [.ref da, zl dc2])), (da, .inl (y 1, 12, .inr (.inl (cL DE2))))] := hD
        have hPr := ro_now hR0 hN hS
        refine z_ladd hx hb dX11_whose_59 ?_
        refine lv_lstore (lv' := [(6, zl (v + (enF (acx gl gp gx gy GK la (lifeV (BF 0 0) (BF 0 1) (BF 0 2) (BF 0 3) (BF 0 4) (BF 0 5) (BF 0 6) (FI 0) (FJ 0) (FW 0))) pl))), (8, zi 0), (5, .ref (bh qb)), (0, .ref x0), (1, zi la), (2, zi pl), (3, zi qb), (4, zi uq)]) hx hb dX11_whose_60 hl (by decide) rfl (fun ls hl => ?_)
        refine z_iinc (k := 1) (lv' := [(8, zi (0 + 1)), (6, zl (v + (enF (acx gl gp gx gy GK la (lifeV (BF 0 0) (BF 0 1) (BF 0 2) (BF 0 3) (BF 0 4) (BF 0 5) (BF 0 6) (FI 0) (FJ 0) (FW 0))) pl))), (5, .ref (bh qb)), (0, .ref x0), (1, zi la), (2, zi pl), (3, zi qb), (4, zi uq)]) hx hb dX11_whose_62 hl rfl (by decide) rfl (fun ls hl => ?_)
        refine lv_goto (tgt := 37) hx hb dX11_whose_65 (by decide) ?_
        exact ih37 (v + (enF (acx gl gp gx gy GK la (lifeV (BF 0 0) (BF 0 1) (BF 0 2) (BF 0 3) (BF 0 4) (BF 0 5) (BF 0 6) (FI 0) (FJ 0) (FW 0))) pl), 0 + 1, dc2, DE2) _ _ _ (by first | (dsimp only; omega) | omega) ⟨⟨by omega, by rw [sgI_s _ hi37.1.1, ← hi37.2]; rfl⟩, lv_sub hl [0, 1, 2, 3, 4, 5, 6, 7] rfl, hP.sub [0, 1] rfl, hD.sub [0, 1] (by decide) rfl, hS⟩
      ·
        subst e9
        refine lv_lload hx hb dX11_whose_49 (lv_at hl 1 rfl) ?_
        refine lv_aload_n hx hb dX11_whose_51 rfl (lv_at hl 3 rfl) ?_
        refine lv_iload hx hb dX11_whose_52 (lv_at hl 0 rfl) ?_
        refine lv_iload_n hx hb dX11_whose_54 rfl (lv_at hl 4 rfl) ?_
        refine lv_iload_n hx hb dX11_whose_55 rfl (lv_at hl 5 rfl) ?_
        refine z_wR (As := [zi 1, zi la, zi pl]) (rest := [zl v]) (wc := [(d0, .inr (3, [.ref da, zl cr])), (da, .inl (y 1, 12, .inr (.inl (cL E))))]) (wrest := []) hC (c_X11_wreckShare l D y x0 t0 g0 f0 r0 sl0 n0 d0 w0 c0 fa fn fr 1 (bh 1) (ba 1) (bb 1) (bc 1) (BF 1 0) (BF 1 1) (BF 1 2) (BF 1 3) (BF 1 4) (BF 1 5) (BF 1 6) (FI 1) (FJ 1) (FW 1) la pl ga gl gp gx gy GK da cr E ⟨by omega, by omega, by omega, by omega⟩ (hfr 1 (by omega) (by omega)) (hBK 1 (by omega) (by omega)) (by first | assumption | omega) (by first | assumption | omega) (by first | assumption | omega) _) (cwV 3 hts gX11_whose_X11_wreckShare rfl rfl rfl (by decide +kernel) ⟨Nat.le_of_ble_eq_true rfl, Nat.le_of_ble_eq_true rfl⟩) hG hP hD hS hA [0, 1] [] rfl rfl (by decide) (by decide) (by decide) (hPr.sub (ws' := [(x0, .inr (10, [.ref t0, .ref g0, .ref f0, .ref r0, .ref sl0, .ref n0, .ref d0, .ref w0, .ref c0])), (f0, .inr (4, [.ref fa, zi fn])), (fa, .inl (y 3, 6, .inr (.inr (.inr (.inr fr))))), ((bh 1), .inr (1, [zi (BF 1 0), zi (BF 1 1), zi (BF 1 2), zi (BF 1 3), zi (BF 1 4), zi (BF 1 5), zi (BF 1 6), .ref (ba 1), .ref (bb 1), .ref (bc 1)])), ((ba 1), .inl (y 0, 8, .inl (cI (FI 1)))), ((bb 1), .inl (y 0, 8, .inl (cI (FJ 1)))), ((bc 1), .inl (y 0, 8, .inl (cI (FW 1)))), (g0, .inr (5, [.ref ga, zi gl, zi gp, zi gx, zi gy])), (ga, .inl (y 0, 36, .inl (cI GK)))]) [0, 1, 2, 7, 8, 9, 10, 27, 28] rfl) (fun k q hk z => ro_sub (wr' := [(x0, .inr (10, [.ref t0, .ref g0, .ref f0, .ref r0, .ref sl0, .ref n0, .ref d0, .ref w0, .ref c0])), (f0, .inr (4, [.ref fa, zi fn])), (fa, .inl (y 3, 6, .inr (.inr (.inr (.inr fr))))), ((bh 1), .inr (1, [zi (BF 1 0), zi (BF 1 1), zi (BF 1 2), zi (BF 1 3), zi (BF 1 4), zi (BF 1 5), zi (BF 1 6), .ref (ba 1), .ref (bb 1), .ref (bc 1)])), ((ba 1), .inl (y 0, 8, .inl (cI (FI 1)))), ((bb 1), .inl (y 0, 8, .inl (cI (FJ 1)))), ((bc 1), .inl (y 0, 8, .inl (cI (FW 1)))), (g0, .inr (5, [.ref ga, zi gl, zi gp, zi gx, zi gy])), (ga, .inl (y 0, 36, .inl (cI GK)))]) hN [0, 1, 2, 7, 8, 9, 10, 27, 28] rfl k q hk (va_free (wc := [(d0, .inr (3, [.ref da, zl cr])), (da, .inl (y 1, 12, .inr (.inl (cL E))))]) hD hS hA [0, 1] rfl q.1 z)) 0 rfl rfl rfl hl.1 rfl (Nat.le_of_ble_eq_true rfl) dX11_whose_56 ⟨Nat.le_of_ble_eq_true rfl, Nat.le_of_ble_eq_true rfl⟩ (fun u9 H locs hw_24 hP hD hS => ?_)
        obtain ⟨dc2, DE2⟩ := u9
        have hw_24 : True := hw_24
        have hP : va_P D vwCl [(d0, .inr (3, [.ref da, zl dc2])), (da, .inl (y 1, 12, .inr (.inl (cL DE2))))] H := hP
        have hD : va_D A [(d0, .inr (3, [.ref da, zl dc2])), (da, .inl (y 1, 12, .inr (.inl (cL DE2))))] := hD
        have hPr := ro_now hR0 hN hS
        refine z_ladd hx hb dX11_whose_59 ?_
        refine lv_lstore (lv' := [(6, zl (v + (enF (acx gl gp gx gy GK la (lifeV (BF 1 0) (BF 1 1) (BF 1 2) (BF 1 3) (BF 1 4) (BF 1 5) (BF 1 6) (FI 1) (FJ 1) (FW 1))) pl))), (8, zi 1), (5, .ref (bh qb)), (0, .ref x0), (1, zi la), (2, zi pl), (3, zi qb), (4, zi uq)]) hx hb dX11_whose_60 hl (by decide) rfl (fun ls hl => ?_)
        refine z_iinc (k := 1) (lv' := [(8, zi (1 + 1)), (6, zl (v + (enF (acx gl gp gx gy GK la (lifeV (BF 1 0) (BF 1 1) (BF 1 2) (BF 1 3) (BF 1 4) (BF 1 5) (BF 1 6) (FI 1) (FJ 1) (FW 1))) pl))), (5, .ref (bh qb)), (0, .ref x0), (1, zi la), (2, zi pl), (3, zi qb), (4, zi uq)]) hx hb dX11_whose_62 hl rfl (by decide) rfl (fun ls hl => ?_)
        refine lv_goto (tgt := 37) hx hb dX11_whose_65 (by decide) ?_
        exact ih37 (v + (enF (acx gl gp gx gy GK la (lifeV (BF 1 0) (BF 1 1) (BF 1 2) (BF 1 3) (BF 1 4) (BF 1 5) (BF 1 6) (FI 1) (FJ 1) (FW 1))) pl), 1 + 1, dc2, DE2) _ _ _ (by first | (dsimp only; omega) | omega) ⟨⟨by omega, by rw [sgI_s _ hi37.1.1, ← hi37.2]; rfl⟩, lv_sub hl [0, 1, 2, 3, 4, 5, 6, 7] rfl, hP.sub [0, 1] rfl, hD.sub [0, 1] (by decide) rfl, hS⟩
      ·
        subst e9
        refine lv_lload hx hb dX11_whose_49 (lv_at hl 1 rfl) ?_
        refine lv_aload_n hx hb dX11_whose_51 rfl (lv_at hl 3 rfl) ?_
        refine lv_iload hx hb dX11_whose_52 (lv_at hl 0 rfl) ?_
        refine lv_iload_n hx hb dX11_whose_54 rfl (lv_at hl 4 rfl) ?_
        refine lv_iload_n hx hb dX11_whose_55 rfl (lv_at hl 5 rfl) ?_
        refine z_wR (As := [zi 2, zi la, zi pl]) (rest := [zl v]) (wc := [(d0, .inr (3, [.ref da, zl cr])), (da, .inl (y 1, 12, .inr (.inl (cL E))))]) (wrest := []) hC (c_X11_wreckShare l D y x0 t0 g0 f0 r0 sl0 n0 d0 w0 c0 fa fn fr 2 (bh 2) (ba 2) (bb 2) (bc 2) (BF 2 0) (BF 2 1) (BF 2 2) (BF 2 3) (BF 2 4) (BF 2 5) (BF 2 6) (FI 2) (FJ 2) (FW 2) la pl ga gl gp gx gy GK da cr E ⟨by omega, by omega, by omega, by omega⟩ (hfr 2 (by omega) (by omega)) (hBK 2 (by omega) (by omega)) (by first | assumption | omega) (by first | assumption | omega) (by first | assumption | omega) _) (cwV 3 hts gX11_whose_X11_wreckShare rfl rfl rfl (by decide +kernel) ⟨Nat.le_of_ble_eq_true rfl, Nat.le_of_ble_eq_true rfl⟩) hG hP hD hS hA [0, 1] [] rfl rfl (by decide) (by decide) (by decide) (hPr.sub (ws' := [(x0, .inr (10, [.ref t0, .ref g0, .ref f0, .ref r0, .ref sl0, .ref n0, .ref d0, .ref w0, .ref c0])), (f0, .inr (4, [.ref fa, zi fn])), (fa, .inl (y 3, 6, .inr (.inr (.inr (.inr fr))))), ((bh 2), .inr (1, [zi (BF 2 0), zi (BF 2 1), zi (BF 2 2), zi (BF 2 3), zi (BF 2 4), zi (BF 2 5), zi (BF 2 6), .ref (ba 2), .ref (bb 2), .ref (bc 2)])), ((ba 2), .inl (y 0, 8, .inl (cI (FI 2)))), ((bb 2), .inl (y 0, 8, .inl (cI (FJ 2)))), ((bc 2), .inl (y 0, 8, .inl (cI (FW 2)))), (g0, .inr (5, [.ref ga, zi gl, zi gp, zi gx, zi gy])), (ga, .inl (y 0, 36, .inl (cI GK)))]) [0, 1, 2, 11, 12, 13, 14, 27, 28] rfl) (fun k q hk z => ro_sub (wr' := [(x0, .inr (10, [.ref t0, .ref g0, .ref f0, .ref r0, .ref sl0, .ref n0, .ref d0, .ref w0, .ref c0])), (f0, .inr (4, [.ref fa, zi fn])), (fa, .inl (y 3, 6, .inr (.inr (.inr (.inr fr))))), ((bh 2), .inr (1, [zi (BF 2 0), zi (BF 2 1), zi (BF 2 2), zi (BF 2 3), zi (BF 2 4), zi (BF 2 5), zi (BF 2 6), .ref (ba 2), .ref (bb 2), .ref (bc 2)])), ((ba 2), .inl (y 0, 8, .inl (cI (FI 2)))), ((bb 2), .inl (y 0, 8, .inl (cI (FJ 2)))), ((bc 2), .inl (y 0, 8, .inl (cI (FW 2)))), (g0, .inr (5, [.ref ga, zi gl, zi gp, zi gx, zi gy])), (ga, .inl (y 0, 36, .inl (cI GK)))]) hN [0, 1, 2, 11, 12, 13, 14, 27, 28] rfl k q hk (va_free (wc := [(d0, .inr (3, [.ref da, zl cr])), (da, .inl (y 1, 12, .inr (.inl (cL E))))]) hD hS hA [0, 1] rfl q.1 z)) 0 rfl rfl rfl hl.1 rfl (Nat.le_of_ble_eq_true rfl) dX11_whose_56 ⟨Nat.le_of_ble_eq_true rfl, Nat.le_of_ble_eq_true rfl⟩ (fun u9 H locs hw_27 hP hD hS => ?_)
        obtain ⟨dc2, DE2⟩ := u9
        have hw_27 : True := hw_27
        have hP : va_P D vwCl [(d0, .inr (3, [.ref da, zl dc2])), (da, .inl (y 1, 12, .inr (.inl (cL DE2))))] H := hP
        have hD : va_D A [(d0, .inr (3, [.ref da, zl dc2])), (da, .inl (y 1, 12, .inr (.inl (cL DE2))))] := hD
        have hPr := ro_now hR0 hN hS
        refine z_ladd hx hb dX11_whose_59 ?_
        refine lv_lstore (lv' := [(6, zl (v + (enF (acx gl gp gx gy GK la (lifeV (BF 2 0) (BF 2 1) (BF 2 2) (BF 2 3) (BF 2 4) (BF 2 5) (BF 2 6) (FI 2) (FJ 2) (FW 2))) pl))), (8, zi 2), (5, .ref (bh qb)), (0, .ref x0), (1, zi la), (2, zi pl), (3, zi qb), (4, zi uq)]) hx hb dX11_whose_60 hl (by decide) rfl (fun ls hl => ?_)
        refine z_iinc (k := 1) (lv' := [(8, zi (2 + 1)), (6, zl (v + (enF (acx gl gp gx gy GK la (lifeV (BF 2 0) (BF 2 1) (BF 2 2) (BF 2 3) (BF 2 4) (BF 2 5) (BF 2 6) (FI 2) (FJ 2) (FW 2))) pl))), (5, .ref (bh qb)), (0, .ref x0), (1, zi la), (2, zi pl), (3, zi qb), (4, zi uq)]) hx hb dX11_whose_62 hl rfl (by decide) rfl (fun ls hl => ?_)
        refine lv_goto (tgt := 37) hx hb dX11_whose_65 (by decide) ?_
        exact ih37 (v + (enF (acx gl gp gx gy GK la (lifeV (BF 2 0) (BF 2 1) (BF 2 2) (BF 2 3) (BF 2 4) (BF 2 5) (BF 2 6) (FI 2) (FJ 2) (FW 2))) pl), 2 + 1, dc2, DE2) _ _ _ (by first | (dsimp only; omega) | omega) ⟨⟨by omega, by rw [sgI_s _ hi37.1.1, ← hi37.2]; rfl⟩, lv_sub hl [0, 1, 2, 3, 4, 5, 6, 7] rfl, hP.sub [0, 1] rfl, hD.sub [0, 1] (by decide) rfl, hS⟩
      ·
        subst e9
        refine lv_lload hx hb dX11_whose_49 (lv_at hl 1 rfl) ?_
        refine lv_aload_n hx hb dX11_whose_51 rfl (lv_at hl 3 rfl) ?_
        refine lv_iload hx hb dX11_whose_52 (lv_at hl 0 rfl) ?_
        refine lv_iload_n hx hb dX11_whose_54 rfl (lv_at hl 4 rfl) ?_
        refine lv_iload_n hx hb dX11_whose_55 rfl (lv_at hl 5 rfl) ?_
        refine z_wR (As := [zi 3, zi la, zi pl]) (rest := [zl v]) (wc := [(d0, .inr (3, [.ref da, zl cr])), (da, .inl (y 1, 12, .inr (.inl (cL E))))]) (wrest := []) hC (c_X11_wreckShare l D y x0 t0 g0 f0 r0 sl0 n0 d0 w0 c0 fa fn fr 3 (bh 3) (ba 3) (bb 3) (bc 3) (BF 3 0) (BF 3 1) (BF 3 2) (BF 3 3) (BF 3 4) (BF 3 5) (BF 3 6) (FI 3) (FJ 3) (FW 3) la pl ga gl gp gx gy GK da cr E ⟨by omega, by omega, by omega, by omega⟩ (hfr 3 (by omega) (by omega)) (hBK 3 (by omega) (by omega)) (by first | assumption | omega) (by first | assumption | omega) (by first | assumption | omega) _) (cwV 3 hts gX11_whose_X11_wreckShare rfl rfl rfl (by decide +kernel) ⟨Nat.le_of_ble_eq_true rfl, Nat.le_of_ble_eq_true rfl⟩) hG hP hD hS hA [0, 1] [] rfl rfl (by decide) (by decide) (by decide) (hPr.sub (ws' := [(x0, .inr (10, [.ref t0, .ref g0, .ref f0, .ref r0, .ref sl0, .ref n0, .ref d0, .ref w0, .ref c0])), (f0, .inr (4, [.ref fa, zi fn])), (fa, .inl (y 3, 6, .inr (.inr (.inr (.inr fr))))), ((bh 3), .inr (1, [zi (BF 3 0), zi (BF 3 1), zi (BF 3 2), zi (BF 3 3), zi (BF 3 4), zi (BF 3 5), zi (BF 3 6), .ref (ba 3), .ref (bb 3), .ref (bc 3)])), ((ba 3), .inl (y 0, 8, .inl (cI (FI 3)))), ((bb 3), .inl (y 0, 8, .inl (cI (FJ 3)))), ((bc 3), .inl (y 0, 8, .inl (cI (FW 3)))), (g0, .inr (5, [.ref ga, zi gl, zi gp, zi gx, zi gy])), (ga, .inl (y 0, 36, .inl (cI GK)))]) [0, 1, 2, 15, 16, 17, 18, 27, 28] rfl) (fun k q hk z => ro_sub (wr' := [(x0, .inr (10, [.ref t0, .ref g0, .ref f0, .ref r0, .ref sl0, .ref n0, .ref d0, .ref w0, .ref c0])), (f0, .inr (4, [.ref fa, zi fn])), (fa, .inl (y 3, 6, .inr (.inr (.inr (.inr fr))))), ((bh 3), .inr (1, [zi (BF 3 0), zi (BF 3 1), zi (BF 3 2), zi (BF 3 3), zi (BF 3 4), zi (BF 3 5), zi (BF 3 6), .ref (ba 3), .ref (bb 3), .ref (bc 3)])), ((ba 3), .inl (y 0, 8, .inl (cI (FI 3)))), ((bb 3), .inl (y 0, 8, .inl (cI (FJ 3)))), ((bc 3), .inl (y 0, 8, .inl (cI (FW 3)))), (g0, .inr (5, [.ref ga, zi gl, zi gp, zi gx, zi gy])), (ga, .inl (y 0, 36, .inl (cI GK)))]) hN [0, 1, 2, 15, 16, 17, 18, 27, 28] rfl k q hk (va_free (wc := [(d0, .inr (3, [.ref da, zl cr])), (da, .inl (y 1, 12, .inr (.inl (cL E))))]) hD hS hA [0, 1] rfl q.1 z)) 0 rfl rfl rfl hl.1 rfl (Nat.le_of_ble_eq_true rfl) dX11_whose_56 ⟨Nat.le_of_ble_eq_true rfl, Nat.le_of_ble_eq_true rfl⟩ (fun u9 H locs hw_30 hP hD hS => ?_)
        obtain ⟨dc2, DE2⟩ := u9
        have hw_30 : True := hw_30
        have hP : va_P D vwCl [(d0, .inr (3, [.ref da, zl dc2])), (da, .inl (y 1, 12, .inr (.inl (cL DE2))))] H := hP
        have hD : va_D A [(d0, .inr (3, [.ref da, zl dc2])), (da, .inl (y 1, 12, .inr (.inl (cL DE2))))] := hD
        have hPr := ro_now hR0 hN hS
        refine z_ladd hx hb dX11_whose_59 ?_
        refine lv_lstore (lv' := [(6, zl (v + (enF (acx gl gp gx gy GK la (lifeV (BF 3 0) (BF 3 1) (BF 3 2) (BF 3 3) (BF 3 4) (BF 3 5) (BF 3 6) (FI 3) (FJ 3) (FW 3))) pl))), (8, zi 3), (5, .ref (bh qb)), (0, .ref x0), (1, zi la), (2, zi pl), (3, zi qb), (4, zi uq)]) hx hb dX11_whose_60 hl (by decide) rfl (fun ls hl => ?_)
        refine z_iinc (k := 1) (lv' := [(8, zi (3 + 1)), (6, zl (v + (enF (acx gl gp gx gy GK la (lifeV (BF 3 0) (BF 3 1) (BF 3 2) (BF 3 3) (BF 3 4) (BF 3 5) (BF 3 6) (FI 3) (FJ 3) (FW 3))) pl))), (5, .ref (bh qb)), (0, .ref x0), (1, zi la), (2, zi pl), (3, zi qb), (4, zi uq)]) hx hb dX11_whose_62 hl rfl (by decide) rfl (fun ls hl => ?_)
        refine lv_goto (tgt := 37) hx hb dX11_whose_65 (by decide) ?_
        exact ih37 (v + (enF (acx gl gp gx gy GK la (lifeV (BF 3 0) (BF 3 1) (BF 3 2) (BF 3 3) (BF 3 4) (BF 3 5) (BF 3 6) (FI 3) (FJ 3) (FW 3))) pl), 3 + 1, dc2, DE2) _ _ _ (by first | (dsimp only; omega) | omega) ⟨⟨by omega, by rw [sgI_s _ hi37.1.1, ← hi37.2]; rfl⟩, lv_sub hl [0, 1, 2, 3, 4, 5, 6, 7] rfl, hP.sub [0, 1] rfl, hD.sub [0, 1] (by decide) rfl, hS⟩
      ·
        subst e9
        refine lv_lload hx hb dX11_whose_49 (lv_at hl 1 rfl) ?_
        refine lv_aload_n hx hb dX11_whose_51 rfl (lv_at hl 3 rfl) ?_
        refine lv_iload hx hb dX11_whose_52 (lv_at hl 0 rfl) ?_
        refine lv_iload_n hx hb dX11_whose_54 rfl (lv_at hl 4 rfl) ?_
        refine lv_iload_n hx hb dX11_whose_55 rfl (lv_at hl 5 rfl) ?_
        refine z_wR (As := [zi 4, zi la, zi pl]) (rest := [zl v]) (wc := [(d0, .inr (3, [.ref da, zl cr])), (da, .inl (y 1, 12, .inr (.inl (cL E))))]) (wrest := []) hC (c_X11_wreckShare l D y x0 t0 g0 f0 r0 sl0 n0 d0 w0 c0 fa fn fr 4 (bh 4) (ba 4) (bb 4) (bc 4) (BF 4 0) (BF 4 1) (BF 4 2) (BF 4 3) (BF 4 4) (BF 4 5) (BF 4 6) (FI 4) (FJ 4) (FW 4) la pl ga gl gp gx gy GK da cr E ⟨by omega, by omega, by omega, by omega⟩ (hfr 4 (by omega) (by omega)) (hBK 4 (by omega) (by omega)) (by first | assumption | omega) (by first | assumption | omega) (by first | assumption | omega) _) (cwV 3 hts gX11_whose_X11_wreckShare rfl rfl rfl (by decide +kernel) ⟨Nat.le_of_ble_eq_true rfl, Nat.le_of_ble_eq_true rfl⟩) hG hP hD hS hA [0, 1] [] rfl rfl (by decide) (by decide) (by decide) (hPr.sub (ws' := [(x0, .inr (10, [.ref t0, .ref g0, .ref f0, .ref r0, .ref sl0, .ref n0, .ref d0, .ref w0, .ref c0])), (f0, .inr (4, [.ref fa, zi fn])), (fa, .inl (y 3, 6, .inr (.inr (.inr (.inr fr))))), ((bh 4), .inr (1, [zi (BF 4 0), zi (BF 4 1), zi (BF 4 2), zi (BF 4 3), zi (BF 4 4), zi (BF 4 5), zi (BF 4 6), .ref (ba 4), .ref (bb 4), .ref (bc 4)])), ((ba 4), .inl (y 0, 8, .inl (cI (FI 4)))), ((bb 4), .inl (y 0, 8, .inl (cI (FJ 4)))), ((bc 4), .inl (y 0, 8, .inl (cI (FW 4)))), (g0, .inr (5, [.ref ga, zi gl, zi gp, zi gx, zi gy])), (ga, .inl (y 0, 36, .inl (cI GK)))]) [0, 1, 2, 19, 20, 21, 22, 27, 28] rfl) (fun k q hk z => ro_sub (wr' := [(x0, .inr (10, [.ref t0, .ref g0, .ref f0, .ref r0, .ref sl0, .ref n0, .ref d0, .ref w0, .ref c0])), (f0, .inr (4, [.ref fa, zi fn])), (fa, .inl (y 3, 6, .inr (.inr (.inr (.inr fr))))), ((bh 4), .inr (1, [zi (BF 4 0), zi (BF 4 1), zi (BF 4 2), zi (BF 4 3), zi (BF 4 4), zi (BF 4 5), zi (BF 4 6), .ref (ba 4), .ref (bb 4), .ref (bc 4)])), ((ba 4), .inl (y 0, 8, .inl (cI (FI 4)))), ((bb 4), .inl (y 0, 8, .inl (cI (FJ 4)))), ((bc 4), .inl (y 0, 8, .inl (cI (FW 4)))), (g0, .inr (5, [.ref ga, zi gl, zi gp, zi gx, zi gy])), (ga, .inl (y 0, 36, .inl (cI GK)))]) hN [0, 1, 2, 19, 20, 21, 22, 27, 28] rfl k q hk (va_free (wc := [(d0, .inr (3, [.ref da, zl cr])), (da, .inl (y 1, 12, .inr (.inl (cL E))))]) hD hS hA [0, 1] rfl q.1 z)) 0 rfl rfl rfl hl.1 rfl (Nat.le_of_ble_eq_true rfl) dX11_whose_56 ⟨Nat.le_of_ble_eq_true rfl, Nat.le_of_ble_eq_true rfl⟩ (fun u9 H locs hw_33 hP hD hS => ?_)
        obtain ⟨dc2, DE2⟩ := u9
        have hw_33 : True := hw_33
        have hP : va_P D vwCl [(d0, .inr (3, [.ref da, zl dc2])), (da, .inl (y 1, 12, .inr (.inl (cL DE2))))] H := hP
        have hD : va_D A [(d0, .inr (3, [.ref da, zl dc2])), (da, .inl (y 1, 12, .inr (.inl (cL DE2))))] := hD
        have hPr := ro_now hR0 hN hS
        refine z_ladd hx hb dX11_whose_59 ?_
        refine lv_lstore (lv' := [(6, zl (v + (enF (acx gl gp gx gy GK la (lifeV (BF 4 0) (BF 4 1) (BF 4 2) (BF 4 3) (BF 4 4) (BF 4 5) (BF 4 6) (FI 4) (FJ 4) (FW 4))) pl))), (8, zi 4), (5, .ref (bh qb)), (0, .ref x0), (1, zi la), (2, zi pl), (3, zi qb), (4, zi uq)]) hx hb dX11_whose_60 hl (by decide) rfl (fun ls hl => ?_)
        refine z_iinc (k := 1) (lv' := [(8, zi (4 + 1)), (6, zl (v + (enF (acx gl gp gx gy GK la (lifeV (BF 4 0) (BF 4 1) (BF 4 2) (BF 4 3) (BF 4 4) (BF 4 5) (BF 4 6) (FI 4) (FJ 4) (FW 4))) pl))), (5, .ref (bh qb)), (0, .ref x0), (1, zi la), (2, zi pl), (3, zi qb), (4, zi uq)]) hx hb dX11_whose_62 hl rfl (by decide) rfl (fun ls hl => ?_)
        refine lv_goto (tgt := 37) hx hb dX11_whose_65 (by decide) ?_
        exact ih37 (v + (enF (acx gl gp gx gy GK la (lifeV (BF 4 0) (BF 4 1) (BF 4 2) (BF 4 3) (BF 4 4) (BF 4 5) (BF 4 6) (FI 4) (FJ 4) (FW 4))) pl), 4 + 1, dc2, DE2) _ _ _ (by first | (dsimp only; omega) | omega) ⟨⟨by omega, by rw [sgI_s _ hi37.1.1, ← hi37.2]; rfl⟩, lv_sub hl [0, 1, 2, 3, 4, 5, 6, 7] rfl, hP.sub [0, 1] rfl, hD.sub [0, 1] (by decide) rfl, hS⟩
      ·
        subst e9
        refine lv_lload hx hb dX11_whose_49 (lv_at hl 1 rfl) ?_
        refine lv_aload_n hx hb dX11_whose_51 rfl (lv_at hl 3 rfl) ?_
        refine lv_iload hx hb dX11_whose_52 (lv_at hl 0 rfl) ?_
        refine lv_iload_n hx hb dX11_whose_54 rfl (lv_at hl 4 rfl) ?_
        refine lv_iload_n hx hb dX11_whose_55 rfl (lv_at hl 5 rfl) ?_
        refine z_wR (As := [zi 5, zi la, zi pl]) (rest := [zl v]) (wc := [(d0, .inr (3, [.ref da, zl cr])), (da, .inl (y 1, 12, .inr (.inl (cL E))))]) (wrest := []) hC (c_X11_wreckShare l D y x0 t0 g0 f0 r0 sl0 n0 d0 w0 c0 fa fn fr 5 (bh 5) (ba 5) (bb 5) (bc 5) (BF 5 0) (BF 5 1) (BF 5 2) (BF 5 3) (BF 5 4) (BF 5 5) (BF 5 6) (FI 5) (FJ 5) (FW 5) la pl ga gl gp gx gy GK da cr E ⟨by omega, by omega, by omega, by omega⟩ (hfr 5 (by omega) (by omega)) (hBK 5 (by omega) (by omega)) (by first | assumption | omega) (by first | assumption | omega) (by first | assumption | omega) _) (cwV 3 hts gX11_whose_X11_wreckShare rfl rfl rfl (by decide +kernel) ⟨Nat.le_of_ble_eq_true rfl, Nat.le_of_ble_eq_true rfl⟩) hG hP hD hS hA [0, 1] [] rfl rfl (by decide) (by decide) (by decide) (hPr.sub (ws' := [(x0, .inr (10, [.ref t0, .ref g0, .ref f0, .ref r0, .ref sl0, .ref n0, .ref d0, .ref w0, .ref c0])), (f0, .inr (4, [.ref fa, zi fn])), (fa, .inl (y 3, 6, .inr (.inr (.inr (.inr fr))))), ((bh 5), .inr (1, [zi (BF 5 0), zi (BF 5 1), zi (BF 5 2), zi (BF 5 3), zi (BF 5 4), zi (BF 5 5), zi (BF 5 6), .ref (ba 5), .ref (bb 5), .ref (bc 5)])), ((ba 5), .inl (y 0, 8, .inl (cI (FI 5)))), ((bb 5), .inl (y 0, 8, .inl (cI (FJ 5)))), ((bc 5), .inl (y 0, 8, .inl (cI (FW 5)))), (g0, .inr (5, [.ref ga, zi gl, zi gp, zi gx, zi gy])), (ga, .inl (y 0, 36, .inl (cI GK)))]) [0, 1, 2, 23, 24, 25, 26, 27, 28] rfl) (fun k q hk z => ro_sub (wr' := [(x0, .inr (10, [.ref t0, .ref g0, .ref f0, .ref r0, .ref sl0, .ref n0, .ref d0, .ref w0, .ref c0])), (f0, .inr (4, [.ref fa, zi fn])), (fa, .inl (y 3, 6, .inr (.inr (.inr (.inr fr))))), ((bh 5), .inr (1, [zi (BF 5 0), zi (BF 5 1), zi (BF 5 2), zi (BF 5 3), zi (BF 5 4), zi (BF 5 5), zi (BF 5 6), .ref (ba 5), .ref (bb 5), .ref (bc 5)])), ((ba 5), .inl (y 0, 8, .inl (cI (FI 5)))), ((bb 5), .inl (y 0, 8, .inl (cI (FJ 5)))), ((bc 5), .inl (y 0, 8, .inl (cI (FW 5)))), (g0, .inr (5, [.ref ga, zi gl, zi gp, zi gx, zi gy])), (ga, .inl (y 0, 36, .inl (cI GK)))]) hN [0, 1, 2, 23, 24, 25, 26, 27, 28] rfl k q hk (va_free (wc := [(d0, .inr (3, [.ref da, zl cr])), (da, .inl (y 1, 12, .inr (.inl (cL E))))]) hD hS hA [0, 1] rfl q.1 z)) 0 rfl rfl rfl hl.1 rfl (Nat.le_of_ble_eq_true rfl) dX11_whose_56 ⟨Nat.le_of_ble_eq_true rfl, Nat.le_of_ble_eq_true rfl⟩ (fun u9 H locs hw_36 hP hD hS => ?_)
        obtain ⟨dc2, DE2⟩ := u9
        have hw_36 : True := hw_36
        have hP : va_P D vwCl [(d0, .inr (3, [.ref da, zl dc2])), (da, .inl (y 1, 12, .inr (.inl (cL DE2))))] H := hP
        have hD : va_D A [(d0, .inr (3, [.ref da, zl dc2])), (da, .inl (y 1, 12, .inr (.inl (cL DE2))))] := hD
        have hPr := ro_now hR0 hN hS
        refine z_ladd hx hb dX11_whose_59 ?_
        refine lv_lstore (lv' := [(6, zl (v + (enF (acx gl gp gx gy GK la (lifeV (BF 5 0) (BF 5 1) (BF 5 2) (BF 5 3) (BF 5 4) (BF 5 5) (BF 5 6) (FI 5) (FJ 5) (FW 5))) pl))), (8, zi 5), (5, .ref (bh qb)), (0, .ref x0), (1, zi la), (2, zi pl), (3, zi qb), (4, zi uq)]) hx hb dX11_whose_60 hl (by decide) rfl (fun ls hl => ?_)
        refine z_iinc (k := 1) (lv' := [(8, zi (5 + 1)), (6, zl (v + (enF (acx gl gp gx gy GK la (lifeV (BF 5 0) (BF 5 1) (BF 5 2) (BF 5 3) (BF 5 4) (BF 5 5) (BF 5 6) (FI 5) (FJ 5) (FW 5))) pl))), (5, .ref (bh qb)), (0, .ref x0), (1, zi la), (2, zi pl), (3, zi qb), (4, zi uq)]) hx hb dX11_whose_62 hl rfl (by decide) rfl (fun ls hl => ?_)
        refine lv_goto (tgt := 37) hx hb dX11_whose_65 (by decide) ?_
        exact ih37 (v + (enF (acx gl gp gx gy GK la (lifeV (BF 5 0) (BF 5 1) (BF 5 2) (BF 5 3) (BF 5 4) (BF 5 5) (BF 5 6) (FI 5) (FJ 5) (FW 5))) pl), 5 + 1, dc2, DE2) _ _ _ (by first | (dsimp only; omega) | omega) ⟨⟨by omega, by rw [sgI_s _ hi37.1.1, ← hi37.2]; rfl⟩, lv_sub hl [0, 1, 2, 3, 4, 5, 6, 7] rfl, hP.sub [0, 1] rfl, hD.sub [0, 1] (by decide) rfl, hS⟩
  · exfalso; omega
set_option maxHeartbeats 8000000 in
set_option maxRecDepth 100000 in
theorem c_X11_likeliest_no (l : Launch) (D : va_G) (y : Nat → ClassId) (x0 : Nat) (t0 : Nat) (g0 : Nat) (f0 : Nat) (r0 : Nat) (sl0 : Nat) (n0 : Nat) (d0 : Nat) (w0 : Nat) (c0 : Nat) (ga : Nat) (gl : Int) (gp : Int) (gx : Int) (gy : Int) (GK : Int → Int) (la : Int) (pl : Int) (hg : gOK gl gp gx gy GK) (hla : rI la) (hpl : rI pl) (hq : ¬ (0 ≤ la ∧ la < gl ∧ 0 ≤ pl ∧ pl < gp)) : Met l yX11_likeliest wsX11_likeliest ({ frames := 2, cells := 0, slots := 0, locals := 43 } : Room) (pPc D y [(x0, .inr (10, [.ref t0, .ref g0, .ref f0, .ref r0, .ref sl0, .ref n0, .ref d0, .ref w0, .ref c0])), (g0, .inr (5, [.ref ga, zi gl, zi gp, zi gx, zi gy])), (ga, .inl (y 0, 36, .inl (cI GK)))] [.ref x0, zi la, zi pl]) (qV (zi (-1))) 0 0 (fun _ => False) := by
  refine P_of (own := RX11) (cc := cX11_likeliest) (maxL := 9) (ret := some .int) (by decide) rfl rfl (Nat.le_of_ble_eq_true rfl) (fun p e s m below meth c ls hx hb hr hC hlocks hPr hG hl => ?_)
  have hC0 := hC
  obtain ⟨-, -, hml, hown, hts⟩ := hC0
  have hK := hG.1
  have hinX11 : ∀ w ∈ wsX110, w ∈ wsX11_likeliest := fun _ h => List.mem_cons_of_mem _ (List.mem_append_left _ (List.mem_append_left _ (List.mem_append_left _ (List.mem_append_left _ (List.mem_append_right _ h)))))
  have k1 := hts (.fieldLink RX11 19 "BoatsOfPaper" "theGutter" "LBoatsOfPaper$Gutter;") (List.mem_of_getElem? (i := 1) rfl)
  have hl : lv_has ls 9 [(0, .ref x0), (1, zi la), (2, zi pl)] := hl
  obtain ⟨u1, u2, u3, u4, uk⟩ := id hg
  refine lv_aload_n hx hb dX11_likeliest_0 rfl (lv_at hl 0 rfl) ?_
  refine va_get hx hb hts hinX11 hown hK hPr 0 rfl rfl 1 (by decide) k1 (fun _ h => h) rfl dX11_likeliest_1 ?_
  refine lv_iload_n hx hb dX11_likeliest_4 rfl (lv_at hl 1 rfl) ?_
  refine lv_iload_n hx hb dX11_likeliest_5 rfl (lv_at hl 2 rfl) ?_
  refine z_pV (As := [zi la, zi pl]) (rest := []) hC (c_X6_has l D y g0 ga gl gp gx gy GK la pl (by first | assumption | omega) (by first | assumption | omega) (by first | assumption | omega)) (cwV 2 hts gX11_likeliest_X6_has rfl rfl rfl (by decide +kernel) ⟨Nat.le_of_ble_eq_true rfl, Nat.le_of_ble_eq_true rfl⟩) hG (hPr.sub (ws' := [(g0, .inr (5, [.ref ga, zi gl, zi gp, zi gx, zi gy])), (ga, .inl (y 0, 36, .inl (cI GK)))]) [1, 2] rfl) 0 rfl rfl rfl hl.1 rfl (Nat.le_of_ble_eq_true rfl) dX11_likeliest_6 ⟨Nat.le_of_ble_eq_true rfl, Nat.le_of_ble_eq_true rfl⟩ ?_
  refine z_ifB_ne (tgt := 14) hx hb dX11_likeliest_9 (by decide) (fun c_9 => ?_) (fun c_9 => ?_)
  · exfalso; omega
  ·
    refine z_iconst hx hb dX11_likeliest_12 ?_
    exact z_iret0 hx hb hr hlocks (rfl) dX11_likeliest_13
set_option maxHeartbeats 8000000 in
set_option maxRecDepth 100000 in
theorem c_X11_likeliest (l : Launch) (D : va_G) (y : Nat → ClassId) (x0 : Nat) (t0 : Nat) (g0 : Nat) (f0 : Nat) (r0 : Nat) (sl0 : Nat) (n0 : Nat) (d0 : Nat) (w0 : Nat) (c0 : Nat) (fa : Nat) (fn : Int) (fr : Nat → Option Nat) (bh : Int → Nat) (ba : Int → Nat) (bb : Int → Nat) (bc : Int → Nat) (BF : Int → Int → Int) (FI : Int → Int → Int) (FJ : Int → Int → Int) (FW : Int → Int → Int) (ga : Nat) (gl : Int) (gp : Int) (gx : Int) (gy : Int) (GK : Int → Int) (da : Nat) (dc : Int) (DE : Int → Int) (la : Int) (pl : Int) (hfr : ∀ k : Int, 0 ≤ k → k < 6 → fr k.toNat = some (bh k)) (hBK : ∀ k : Int, 0 ≤ k → k < fn → bOK (BF k 0) (BF k 1) (BF k 2) (BF k 3) (BF k 4) (BF k 5) (BF k 6) (FI k) (FJ k) (FW k)) (hfn : 0 ≤ fn ∧ fn ≤ 6) (hg : gOK gl gp gx gy GK) (hla : 0 ≤ la ∧ la < gl) (hpl : 0 ≤ pl ∧ pl < gp) (sz : Nat) : Met l yX11_likeliest wsX11_likeliest ({ frames := 6, cells := 0, slots := 0, locals := 140 } : Room) (wPc D y [(x0, .inr (10, [.ref t0, .ref g0, .ref f0, .ref r0, .ref sl0, .ref n0, .ref d0, .ref w0, .ref c0])), (f0, .inr (4, [.ref fa, zi fn])), (fa, .inl (y 3, 6, .inr (.inr (.inr (.inr fr))))), ((bh 0), .inr (1, [zi (BF 0 0), zi (BF 0 1), zi (BF 0 2), zi (BF 0 3), zi (BF 0 4), zi (BF 0 5), zi (BF 0 6), .ref (ba 0), .ref (bb 0), .ref (bc 0)])), ((ba 0), .inl (y 0, 8, .inl (cI (FI 0)))), ((bb 0), .inl (y 0, 8, .inl (cI (FJ 0)))), ((bc 0), .inl (y 0, 8, .inl (cI (FW 0)))), ((bh 1), .inr (1, [zi (BF 1 0), zi (BF 1 1), zi (BF 1 2), zi (BF 1 3), zi (BF 1 4), zi (BF 1 5), zi (BF 1 6), .ref (ba 1), .ref (bb 1), .ref (bc 1)])), ((ba 1), .inl (y 0, 8, .inl (cI (FI 1)))), ((bb 1), .inl (y 0, 8, .inl (cI (FJ 1)))), ((bc 1), .inl (y 0, 8, .inl (cI (FW 1)))), ((bh 2), .inr (1, [zi (BF 2 0), zi (BF 2 1), zi (BF 2 2), zi (BF 2 3), zi (BF 2 4), zi (BF 2 5), zi (BF 2 6), .ref (ba 2), .ref (bb 2), .ref (bc 2)])), ((ba 2), .inl (y 0, 8, .inl (cI (FI 2)))), ((bb 2), .inl (y 0, 8, .inl (cI (FJ 2)))), ((bc 2), .inl (y 0, 8, .inl (cI (FW 2)))), ((bh 3), .inr (1, [zi (BF 3 0), zi (BF 3 1), zi (BF 3 2), zi (BF 3 3), zi (BF 3 4), zi (BF 3 5), zi (BF 3 6), .ref (ba 3), .ref (bb 3), .ref (bc 3)])), ((ba 3), .inl (y 0, 8, .inl (cI (FI 3)))), ((bb 3), .inl (y 0, 8, .inl (cI (FJ 3)))), ((bc 3), .inl (y 0, 8, .inl (cI (FW 3)))), ((bh 4), .inr (1, [zi (BF 4 0), zi (BF 4 1), zi (BF 4 2), zi (BF 4 3), zi (BF 4 4), zi (BF 4 5), zi (BF 4 6), .ref (ba 4), .ref (bb 4), .ref (bc 4)])), ((ba 4), .inl (y 0, 8, .inl (cI (FI 4)))), ((bb 4), .inl (y 0, 8, .inl (cI (FJ 4)))), ((bc 4), .inl (y 0, 8, .inl (cI (FW 4)))), ((bh 5), .inr (1, [zi (BF 5 0), zi (BF 5 1), zi (BF 5 2), zi (BF 5 3), zi (BF 5 4), zi (BF 5 5), zi (BF 5 6), .ref (ba 5), .ref (bb 5), .ref (bc 5)])), ((ba 5), .inl (y 0, 8, .inl (cI (FI 5)))), ((bb 5), .inl (y 0, 8, .inl (cI (FJ 5)))), ((bc 5), .inl (y 0, 8, .inl (cI (FW 5)))), (g0, .inr (5, [.ref ga, zi gl, zi gp, zi gx, zi gy])), (ga, .inl (y 0, 36, .inl (cI GK)))] [(d0, .inr (3, [.ref da, zl dc])), (da, .inl (y 1, 12, .inr (.inl (cL DE))))] sz [.ref x0, zi la, zi pl]) (wQ D (fun (x9 : Int × (Int → Int)) => match x9 with | (dc2, DE2) => some (zi (lkV (fun b => enF (acx gl gp gx gy GK la (xLife BF FI FJ FW b)) pl) fn))) (fun (x9 : Int × (Int → Int)) => match x9 with | (dc2, DE2) => True) (fun (x9 : Int × (Int → Int)) => match x9 with | (dc2, DE2) => [(d0, .inr (3, [.ref da, zl dc2])), (da, .inl (y 1, 12, .inr (.inl (cL DE2))))]) (va_A [(d0, .inr (3, [.ref da, zl dc])), (da, .inl (y 1, 12, .inr (.inl (cL DE))))] sz)) 0 0 (va_A [(d0, .inr (3, [.ref da, zl dc])), (da, .inl (y 1, 12, .inr (.inl (cL DE))))] sz) := by
  refine W_of (own := RX11) (cc := cX11_likeliest) (maxL := 9) (ret := some .int) (by decide) rfl rfl (Nat.le_of_ble_eq_true rfl) (fun p e s m below meth c ls A hx hb hr hC hlocks hin0 hR0 hN hP hD hA hG hl => ?_)
  have hC0 := hC
  obtain ⟨-, -, hml, hown, hts⟩ := hC0
  have hK := hG.1
  have hS : va_S A s.heap s.heap [] := va_S.rf
  have hPr := hR0
  have hinX11 : ∀ w ∈ wsX110, w ∈ wsX11_likeliest := fun _ h => List.mem_cons_of_mem _ (List.mem_append_left _ (List.mem_append_left _ (List.mem_append_left _ (List.mem_append_left _ (List.mem_append_right _ h)))))
  have hinX4 : ∀ w ∈ wsX40, w ∈ wsX11_likeliest := fun _ h => List.mem_cons_of_mem _ (List.mem_append_left _ (List.mem_append_left _ (List.mem_append_left _ (List.mem_append_right _ h))))
  have k1 := hts (.fieldLink RX11 19 "BoatsOfPaper" "theGutter" "LBoatsOfPaper$Gutter;") (List.mem_of_getElem? (i := 1) rfl)
  have k2 := hts (.fieldLink RX11 26 "BoatsOfPaper" "theFleet" "LBoatsOfPaper$Fleet;") (List.mem_of_getElem? (i := 2) rfl)
  have k3 := hts (.fieldLink RX11 254 "BoatsOfPaper$Fleet" "size" "I") (List.mem_of_getElem? (i := 3) rfl)
  have hl : lv_has ls 9 [(0, .ref x0), (1, zi la), (2, zi pl)] := hl
  obtain ⟨u1, u2, u3, u4, uk⟩ := id hg
  have hx2 : ∀ b, ∀ k, 0 ≤ acx gl gp gx gy GK la (xLife BF FI FJ FW b) k ∧ acx gl gp gx gy GK la (xLife BF FI FJ FW b) k ≤ 10 := fun b => acx_bd hg la (xLife BF FI FJ FW b)
  have t1 := ten12 (r := gp.toNat) (by omega)
  have t3 := ten12 (r := (pl + 1).toNat) (by omega)
  have e0 : ∀ b : Int, 0 ≤ enF (acx gl gp gx gy GK la (xLife BF FI FJ FW b)) pl ∧ enF (acx gl gp gx gy GK la (xLife BF FI FJ FW b)) pl ≤ 10 ^ (pl + 1).toNat := fun b => enF_bd (hx2 b) hpl.1
  refine lv_aload_n hx hb dX11_likeliest_0 rfl (lv_at hl 0 rfl) ?_
  refine va_get hx hb hts hinX11 hown hK hPr 0 rfl rfl 1 (by decide) k1 (fun _ h => h) rfl dX11_likeliest_1 ?_
  refine lv_iload_n hx hb dX11_likeliest_4 rfl (lv_at hl 1 rfl) ?_
  refine lv_iload_n hx hb dX11_likeliest_5 rfl (lv_at hl 2 rfl) ?_
  refine z_pV (As := [zi la, zi pl]) (rest := []) hC (c_X6_has l D y g0 ga gl gp gx gy GK la pl (by first | assumption | omega) (by first | assumption | omega) (by first | assumption | omega)) (cwV 2 hts gX11_likeliest_X6_has rfl rfl rfl (by decide +kernel) ⟨Nat.le_of_ble_eq_true rfl, Nat.le_of_ble_eq_true rfl⟩) hG (hPr.sub (ws' := [(g0, .inr (5, [.ref ga, zi gl, zi gp, zi gx, zi gy])), (ga, .inl (y 0, 36, .inl (cI GK)))]) [27, 28] rfl) 0 rfl rfl rfl hl.1 rfl (Nat.le_of_ble_eq_true rfl) dX11_likeliest_6 ⟨Nat.le_of_ble_eq_true rfl, Nat.le_of_ble_eq_true rfl⟩ ?_
  refine z_ifB_ne (tgt := 14) hx hb dX11_likeliest_9 (by decide) (fun c_9 => ?_) (fun c_9 => ?_)
  ·
    refine z_bipush hx hb dX11_likeliest_14 (by decide) ?_
    refine lv_istore_n (lv' := [(3, zi (-3)), (0, .ref x0), (1, zi la), (2, zi pl)]) hx hb dX11_likeliest_16 rfl hl (by decide) rfl (fun ls hl => ?_)
    refine lv_lconst (v := iL 0) hx hb dX11_likeliest_17 rfl ?_
    refine lv_lstore (lv' := [(4, zl 0), (3, zi (-3)), (0, .ref x0), (1, zi la), (2, zi pl)]) hx hb dX11_likeliest_18 hl (by decide) rfl (fun ls hl => ?_)
    refine z_iconst hx hb dX11_likeliest_20 ?_
    refine lv_istore (lv' := [(6, zi 0), (4, zl 0), (3, zi (-3)), (0, .ref x0), (1, zi la), (2, zi pl)]) hx hb dX11_likeliest_21 hl (by decide) rfl (fun ls hl => ?_)
    refine z_loop (σ := Int × Int × Int × Int × (Int → Int)) (fun x9 H lc ls => match x9 with | (v, gr, k, cr, E) => ((0 ≤ k ∧ k ≤ fn) ∧ v = lkV (fun b => enF (acx gl gp gx gy GK la (xLife BF FI FJ FW b)) pl) k ∧ gr = lkG (fun b => enF (acx gl gp gx gy GK la (xLife BF FI FJ FW b)) pl) k ∧ 0 ≤ gr ∧ gr ≤ 1000000000000) ∧ lv_has ls 9 [(6, zi k), (4, zl gr), (3, zi v), (0, .ref x0), (1, zi la), (2, zi pl)] ∧ va_P D vwCl [(d0, .inr (3, [.ref da, zl cr])), (da, .inl (y 1, 12, .inr (.inl (cL E))))] H ∧ va_D A [(d0, .inr (3, [.ref da, zl cr])), (da, .inl (y 1, 12, .inr (.inl (cL E))))] ∧ va_S A s.heap H lc) (fun x9  => match x9 with | (v, gr, k, cr, E) => ((fn - k).toNat)) ?_ ((-3), 0, 0, dc, DE) ⟨⟨by omega, rfl, rfl, by omega, by omega⟩, lv_sub hl [0, 1, 2, 3, 4, 5] rfl, hP.sub [0, 1] rfl, hD.sub [0, 1] (by decide) rfl, hS⟩
    rintro ⟨v, gr, k, cr, E⟩ H lc ls ⟨hi23, hl, hP, hD, hS⟩ ih23
    have hP : va_P D vwCl [(d0, .inr (3, [.ref da, zl cr])), (da, .inl (y 1, 12, .inr (.inl (cL E))))] H := hP
    have hD : va_D A [(d0, .inr (3, [.ref da, zl cr])), (da, .inl (y 1, 12, .inr (.inl (cL E))))] := hD
    have hPr := ro_now hR0 hN hS
    refine lv_iload hx hb dX11_likeliest_23 (lv_at hl 0 rfl) ?_
    refine lv_aload_n hx hb dX11_likeliest_25 rfl (lv_at hl 3 rfl) ?_
    refine va_get hx hb hts hinX11 hown hK hPr 0 rfl rfl 2 (by decide) k2 (fun _ h => h) rfl dX11_likeliest_26 ?_
    refine va_get hx hb hts hinX4 hown hK hPr 1 rfl rfl 1 (by decide) k3 (fun _ h => h) rfl dX11_likeliest_29 ?_
    refine z_icmp_ge (tgt := 66) hx hb (by omega) (by omega) dX11_likeliest_32 (by decide) (fun c_32 => ?_) (fun c_32 => ?_)
    ·
      refine lv_iload_n hx hb dX11_likeliest_66 rfl (lv_at hl 2 rfl) ?_
      exact z_iretW hx hb hr hlocks (cr, E) (by exact congrArg (fun z => some (zi z)) (by rw [hi23.2.1, show k = fn by omega])) (trivial) (hP.sub [0, 1] rfl) (hD.sub [0, 1] (by decide) rfl) hS dX11_likeliest_67
    ·
      rcases (by omega : k = 0 ∨ k = 1 ∨ k = 2 ∨ k = 3 ∨ k = 4 ∨ k = 5) with e9 | e9 | e9 | e9 | e9 | e9
      ·
        subst e9
        refine lv_aload_n hx hb dX11_likeliest_35 rfl (lv_at hl 3 rfl) ?_
        refine lv_iload hx hb dX11_likeliest_36 (lv_at hl 0 rfl) ?_
        refine lv_iload_n hx hb dX11_likeliest_38 rfl (lv_at hl 4 rfl) ?_
        refine lv_iload_n hx hb dX11_likeliest_39 rfl (lv_at hl 5 rfl) ?_
        refine z_wR (As := [zi 0, zi la, zi pl]) (rest := []) (wc := [(d0, .inr (3, [.ref da, zl cr])), (da, .inl (y 1, 12, .inr (.inl (cL E))))]) (wrest := []) hC (c_X11_wreckShare l D y x0 t0 g0 f0 r0 sl0 n0 d0 w0 c0 fa fn fr 0 (bh 0) (ba 0) (bb 0) (bc 0) (BF 0 0) (BF 0 1) (BF 0 2) (BF 0 3) (BF 0 4) (BF 0 5) (BF 0 6) (FI 0) (FJ 0) (FW 0) la pl ga gl gp gx gy GK da cr E ⟨by omega, by omega, by omega, by omega⟩ (hfr 0 (by omega) (by omega)) (hBK 0 (by omega) (by omega)) (by first | assumption | omega) (by first | assumption | omega) (by first | assumption | omega) _) (cwV 3 hts gX11_likeliest_X11_wreckShare rfl rfl rfl (by decide +kernel) ⟨Nat.le_of_ble_eq_true rfl, Nat.le_of_ble_eq_true rfl⟩) hG hP hD hS hA [0, 1] [] rfl rfl (by decide) (by decide) (by decide) (hPr.sub (ws' := [(x0, .inr (10, [.ref t0, .ref g0, .ref f0, .ref r0, .ref sl0, .ref n0, .ref d0, .ref w0, .ref c0])), (f0, .inr (4, [.ref fa, zi fn])), (fa, .inl (y 3, 6, .inr (.inr (.inr (.inr fr))))), ((bh 0), .inr (1, [zi (BF 0 0), zi (BF 0 1), zi (BF 0 2), zi (BF 0 3), zi (BF 0 4), zi (BF 0 5), zi (BF 0 6), .ref (ba 0), .ref (bb 0), .ref (bc 0)])), ((ba 0), .inl (y 0, 8, .inl (cI (FI 0)))), ((bb 0), .inl (y 0, 8, .inl (cI (FJ 0)))), ((bc 0), .inl (y 0, 8, .inl (cI (FW 0)))), (g0, .inr (5, [.ref ga, zi gl, zi gp, zi gx, zi gy])), (ga, .inl (y 0, 36, .inl (cI GK)))]) [0, 1, 2, 3, 4, 5, 6, 27, 28] rfl) (fun k q hk z => ro_sub (wr' := [(x0, .inr (10, [.ref t0, .ref g0, .ref f0, .ref r0, .ref sl0, .ref n0, .ref d0, .ref w0, .ref c0])), (f0, .inr (4, [.ref fa, zi fn])), (fa, .inl (y 3, 6, .inr (.inr (.inr (.inr fr))))), ((bh 0), .inr (1, [zi (BF 0 0), zi (BF 0 1), zi (BF 0 2), zi (BF 0 3), zi (BF 0 4), zi (BF 0 5), zi (BF 0 6), .ref (ba 0), .ref (bb 0), .ref (bc 0)])), ((ba 0), .inl (y 0, 8, .inl (cI (FI 0)))), ((bb 0), .inl (y 0, 8, .inl (cI (FJ 0)))), ((bc 0), .inl (y 0, 8, .inl (cI (FW 0)))), (g0, .inr (5, [.ref ga, zi gl, zi gp, zi gx, zi gy])), (ga, .inl (y 0, 36, .inl (cI GK)))]) hN [0, 1, 2, 3, 4, 5, 6, 27, 28] rfl k q hk (va_free (wc := [(d0, .inr (3, [.ref da, zl cr])), (da, .inl (y 1, 12, .inr (.inl (cL E))))]) hD hS hA [0, 1] rfl q.1 z)) 0 rfl rfl rfl hl.1 rfl (Nat.le_of_ble_eq_true rfl) dX11_likeliest_40 ⟨Nat.le_of_ble_eq_true rfl, Nat.le_of_ble_eq_true rfl⟩ (fun u9 H locs hw_3 hP hD hS => ?_)
        obtain ⟨dc2, DE2⟩ := u9
        have hw_3 : True := hw_3
        have hP : va_P D vwCl [(d0, .inr (3, [.ref da, zl dc2])), (da, .inl (y 1, 12, .inr (.inl (cL DE2))))] H := hP
        have hD : va_D A [(d0, .inr (3, [.ref da, zl dc2])), (da, .inl (y 1, 12, .inr (.inl (cL DE2))))] := hD
        have hPr := ro_now hR0 hN hS
        refine lv_lstore (lv' := [(7, zl (enF (acx gl gp gx gy GK la (lifeV (BF 0 0) (BF 0 1) (BF 0 2) (BF 0 3) (BF 0 4) (BF 0 5) (BF 0 6) (FI 0) (FJ 0) (FW 0))) pl)), (6, zi 0), (4, zl gr), (3, zi v), (0, .ref x0), (1, zi la), (2, zi pl)]) hx hb dX11_likeliest_43 hl (by decide) rfl (fun ls hl => ?_)
        have ek := e0 0
        have ex : enF (acx gl gp gx gy GK la (lifeV (BF 0 0) (BF 0 1) (BF 0 2) (BF 0 3) (BF 0 4) (BF 0 5) (BF 0 6) (FI 0) (FJ 0) (FW 0))) pl = enF (acx gl gp gx gy GK la (xLife BF FI FJ FW 0)) pl := rfl
        rw [← ex] at ek
        refine lv_lload hx hb dX11_likeliest_45 (lv_at hl 0 rfl) ?_
        refine lv_lload hx hb dX11_likeliest_47 (lv_at hl 2 rfl) ?_
        refine z_lcmp_le (tgt := 60) hx hb (by omega) (by omega) dX11_likeliest_49 dX11_likeliest_50 (by decide) (fun c_49 => ?_) (fun c_49 => ?_)
        ·
          refine z_iinc (k := 1) (lv' := [(6, zi (0 + 1)), (7, zl (enF (acx gl gp gx gy GK la (lifeV (BF 0 0) (BF 0 1) (BF 0 2) (BF 0 3) (BF 0 4) (BF 0 5) (BF 0 6) (FI 0) (FJ 0) (FW 0))) pl)), (4, zl gr), (3, zi v), (0, .ref x0), (1, zi la), (2, zi pl)]) hx hb dX11_likeliest_60 hl rfl (by decide) rfl (fun ls hl => ?_)
          refine lv_goto (tgt := 23) hx hb dX11_likeliest_63 (by decide) ?_
          exact ih23 (v, gr, 0 + 1, dc2, DE2) _ _ _ (by first | (dsimp only; omega) | omega) ⟨⟨by omega, by rw [(lk_s (fun b _ => (e0 b).1) hi23.1.1).1, ← hi23.2.1, ← hi23.2.2.1]; first | exact (if_neg (show ¬ gr < _ from by omega)).symm | exact (if_pos (show gr < _ from by omega)).symm, by rw [(lk_s (fun b _ => (e0 b).1) hi23.1.1).2, ← hi23.2.2.1]; first | exact (if_neg (show ¬ gr < _ from by omega)).symm | exact (if_pos (show gr < _ from by omega)).symm, by omega, by omega⟩, lv_sub hl [0, 2, 3, 4, 5, 6] rfl, hP.sub [0, 1] rfl, hD.sub [0, 1] (by decide) rfl, hS⟩
        ·
          refine lv_lload hx hb dX11_likeliest_53 (lv_at hl 0 rfl) ?_
          refine lv_lstore (lv' := [(4, zl (enF (acx gl gp gx gy GK la (lifeV (BF 0 0) (BF 0 1) (BF 0 2) (BF 0 3) (BF 0 4) (BF 0 5) (BF 0 6) (FI 0) (FJ 0) (FW 0))) pl)), (7, zl (enF (acx gl gp gx gy GK la (lifeV (BF 0 0) (BF 0 1) (BF 0 2) (BF 0 3) (BF 0 4) (BF 0 5) (BF 0 6) (FI 0) (FJ 0) (FW 0))) pl)), (6, zi 0), (3, zi v), (0, .ref x0), (1, zi la), (2, zi pl)]) hx hb dX11_likeliest_55 hl (by decide) rfl (fun ls hl => ?_)
          refine lv_iload hx hb dX11_likeliest_57 (lv_at hl 2 rfl) ?_
          refine lv_istore_n (lv' := [(3, zi 0), (4, zl (enF (acx gl gp gx gy GK la (lifeV (BF 0 0) (BF 0 1) (BF 0 2) (BF 0 3) (BF 0 4) (BF 0 5) (BF 0 6) (FI 0) (FJ 0) (FW 0))) pl)), (7, zl (enF (acx gl gp gx gy GK la (lifeV (BF 0 0) (BF 0 1) (BF 0 2) (BF 0 3) (BF 0 4) (BF 0 5) (BF 0 6) (FI 0) (FJ 0) (FW 0))) pl)), (6, zi 0), (0, .ref x0), (1, zi la), (2, zi pl)]) hx hb dX11_likeliest_59 rfl hl (by decide) rfl (fun ls hl => ?_)
          refine z_iinc (k := 3) (lv' := [(6, zi (0 + 1)), (3, zi 0), (4, zl (enF (acx gl gp gx gy GK la (lifeV (BF 0 0) (BF 0 1) (BF 0 2) (BF 0 3) (BF 0 4) (BF 0 5) (BF 0 6) (FI 0) (FJ 0) (FW 0))) pl)), (7, zl (enF (acx gl gp gx gy GK la (lifeV (BF 0 0) (BF 0 1) (BF 0 2) (BF 0 3) (BF 0 4) (BF 0 5) (BF 0 6) (FI 0) (FJ 0) (FW 0))) pl)), (0, .ref x0), (1, zi la), (2, zi pl)]) hx hb dX11_likeliest_60 hl rfl (by decide) rfl (fun ls hl => ?_)
          refine lv_goto (tgt := 23) hx hb dX11_likeliest_63 (by decide) ?_
          exact ih23 (0, enF (acx gl gp gx gy GK la (lifeV (BF 0 0) (BF 0 1) (BF 0 2) (BF 0 3) (BF 0 4) (BF 0 5) (BF 0 6) (FI 0) (FJ 0) (FW 0))) pl, 0 + 1, dc2, DE2) _ _ _ (by first | (dsimp only; omega) | omega) ⟨⟨by omega, by rw [(lk_s (fun b _ => (e0 b).1) hi23.1.1).1, ← hi23.2.1, ← hi23.2.2.1]; first | exact (if_neg (show ¬ gr < _ from by omega)).symm | exact (if_pos (show gr < _ from by omega)).symm, by rw [(lk_s (fun b _ => (e0 b).1) hi23.1.1).2, ← hi23.2.2.1]; first | exact (if_neg (show ¬ gr < _ from by omega)).symm | exact (if_pos (show gr < _ from by omega)).symm, by omega, by omega⟩, lv_sub hl [0, 2, 1, 4, 5, 6] rfl, hP.sub [0, 1] rfl, hD.sub [0, 1] (by decide) rfl, hS⟩
      ·
        subst e9
        refine lv_aload_n hx hb dX11_likeliest_35 rfl (lv_at hl 3 rfl) ?_
        refine lv_iload hx hb dX11_likeliest_36 (lv_at hl 0 rfl) ?_
        refine lv_iload_n hx hb dX11_likeliest_38 rfl (lv_at hl 4 rfl) ?_
        refine lv_iload_n hx hb dX11_likeliest_39 rfl (lv_at hl 5 rfl) ?_
        refine z_wR (As := [zi 1, zi la, zi pl]) (rest := []) (wc := [(d0, .inr (3, [.ref da, zl cr])), (da, .inl (y 1, 12, .inr (.inl (cL E))))]) (wrest := []) hC (c_X11_wreckShare l D y x0 t0 g0 f0 r0 sl0 n0 d0 w0 c0 fa fn fr 1 (bh 1) (ba 1) (bb 1) (bc 1) (BF 1 0) (BF 1 1) (BF 1 2) (BF 1 3) (BF 1 4) (BF 1 5) (BF 1 6) (FI 1) (FJ 1) (FW 1) la pl ga gl gp gx gy GK da cr E ⟨by omega, by omega, by omega, by omega⟩ (hfr 1 (by omega) (by omega)) (hBK 1 (by omega) (by omega)) (by first | assumption | omega) (by first | assumption | omega) (by first | assumption | omega) _) (cwV 3 hts gX11_likeliest_X11_wreckShare rfl rfl rfl (by decide +kernel) ⟨Nat.le_of_ble_eq_true rfl, Nat.le_of_ble_eq_true rfl⟩) hG hP hD hS hA [0, 1] [] rfl rfl (by decide) (by decide) (by decide) (hPr.sub (ws' := [(x0, .inr (10, [.ref t0, .ref g0, .ref f0, .ref r0, .ref sl0, .ref n0, .ref d0, .ref w0, .ref c0])), (f0, .inr (4, [.ref fa, zi fn])), (fa, .inl (y 3, 6, .inr (.inr (.inr (.inr fr))))), ((bh 1), .inr (1, [zi (BF 1 0), zi (BF 1 1), zi (BF 1 2), zi (BF 1 3), zi (BF 1 4), zi (BF 1 5), zi (BF 1 6), .ref (ba 1), .ref (bb 1), .ref (bc 1)])), ((ba 1), .inl (y 0, 8, .inl (cI (FI 1)))), ((bb 1), .inl (y 0, 8, .inl (cI (FJ 1)))), ((bc 1), .inl (y 0, 8, .inl (cI (FW 1)))), (g0, .inr (5, [.ref ga, zi gl, zi gp, zi gx, zi gy])), (ga, .inl (y 0, 36, .inl (cI GK)))]) [0, 1, 2, 7, 8, 9, 10, 27, 28] rfl) (fun k q hk z => ro_sub (wr' := [(x0, .inr (10, [.ref t0, .ref g0, .ref f0, .ref r0, .ref sl0, .ref n0, .ref d0, .ref w0, .ref c0])), (f0, .inr (4, [.ref fa, zi fn])), (fa, .inl (y 3, 6, .inr (.inr (.inr (.inr fr))))), ((bh 1), .inr (1, [zi (BF 1 0), zi (BF 1 1), zi (BF 1 2), zi (BF 1 3), zi (BF 1 4), zi (BF 1 5), zi (BF 1 6), .ref (ba 1), .ref (bb 1), .ref (bc 1)])), ((ba 1), .inl (y 0, 8, .inl (cI (FI 1)))), ((bb 1), .inl (y 0, 8, .inl (cI (FJ 1)))), ((bc 1), .inl (y 0, 8, .inl (cI (FW 1)))), (g0, .inr (5, [.ref ga, zi gl, zi gp, zi gx, zi gy])), (ga, .inl (y 0, 36, .inl (cI GK)))]) hN [0, 1, 2, 7, 8, 9, 10, 27, 28] rfl k q hk (va_free (wc := [(d0, .inr (3, [.ref da, zl cr])), (da, .inl (y 1, 12, .inr (.inl (cL E))))]) hD hS hA [0, 1] rfl q.1 z)) 0 rfl rfl rfl hl.1 rfl (Nat.le_of_ble_eq_true rfl) dX11_likeliest_40 ⟨Nat.le_of_ble_eq_true rfl, Nat.le_of_ble_eq_true rfl⟩ (fun u9 H locs hw_6 hP hD hS => ?_)
        obtain ⟨dc2, DE2⟩ := u9
        have hw_6 : True := hw_6
        have hP : va_P D vwCl [(d0, .inr (3, [.ref da, zl dc2])), (da, .inl (y 1, 12, .inr (.inl (cL DE2))))] H := hP
        have hD : va_D A [(d0, .inr (3, [.ref da, zl dc2])), (da, .inl (y 1, 12, .inr (.inl (cL DE2))))] := hD
        have hPr := ro_now hR0 hN hS
        refine lv_lstore (lv' := [(7, zl (enF (acx gl gp gx gy GK la (lifeV (BF 1 0) (BF 1 1) (BF 1 2) (BF 1 3) (BF 1 4) (BF 1 5) (BF 1 6) (FI 1) (FJ 1) (FW 1))) pl)), (6, zi 1), (4, zl gr), (3, zi v), (0, .ref x0), (1, zi la), (2, zi pl)]) hx hb dX11_likeliest_43 hl (by decide) rfl (fun ls hl => ?_)
        have ek := e0 1
        have ex : enF (acx gl gp gx gy GK la (lifeV (BF 1 0) (BF 1 1) (BF 1 2) (BF 1 3) (BF 1 4) (BF 1 5) (BF 1 6) (FI 1) (FJ 1) (FW 1))) pl = enF (acx gl gp gx gy GK la (xLife BF FI FJ FW 1)) pl := rfl
        rw [← ex] at ek
        refine lv_lload hx hb dX11_likeliest_45 (lv_at hl 0 rfl) ?_
        refine lv_lload hx hb dX11_likeliest_47 (lv_at hl 2 rfl) ?_
        refine z_lcmp_le (tgt := 60) hx hb (by omega) (by omega) dX11_likeliest_49 dX11_likeliest_50 (by decide) (fun c_49 => ?_) (fun c_49 => ?_)
        ·
          refine z_iinc (k := 1) (lv' := [(6, zi (1 + 1)), (7, zl (enF (acx gl gp gx gy GK la (lifeV (BF 1 0) (BF 1 1) (BF 1 2) (BF 1 3) (BF 1 4) (BF 1 5) (BF 1 6) (FI 1) (FJ 1) (FW 1))) pl)), (4, zl gr), (3, zi v), (0, .ref x0), (1, zi la), (2, zi pl)]) hx hb dX11_likeliest_60 hl rfl (by decide) rfl (fun ls hl => ?_)
          refine lv_goto (tgt := 23) hx hb dX11_likeliest_63 (by decide) ?_
          exact ih23 (v, gr, 1 + 1, dc2, DE2) _ _ _ (by first | (dsimp only; omega) | omega) ⟨⟨by omega, by rw [(lk_s (fun b _ => (e0 b).1) hi23.1.1).1, ← hi23.2.1, ← hi23.2.2.1]; first | exact (if_neg (show ¬ gr < _ from by omega)).symm | exact (if_pos (show gr < _ from by omega)).symm, by rw [(lk_s (fun b _ => (e0 b).1) hi23.1.1).2, ← hi23.2.2.1]; first | exact (if_neg (show ¬ gr < _ from by omega)).symm | exact (if_pos (show gr < _ from by omega)).symm, by omega, by omega⟩, lv_sub hl [0, 2, 3, 4, 5, 6] rfl, hP.sub [0, 1] rfl, hD.sub [0, 1] (by decide) rfl, hS⟩
        ·
          refine lv_lload hx hb dX11_likeliest_53 (lv_at hl 0 rfl) ?_
          refine lv_lstore (lv' := [(4, zl (enF (acx gl gp gx gy GK la (lifeV (BF 1 0) (BF 1 1) (BF 1 2) (BF 1 3) (BF 1 4) (BF 1 5) (BF 1 6) (FI 1) (FJ 1) (FW 1))) pl)), (7, zl (enF (acx gl gp gx gy GK la (lifeV (BF 1 0) (BF 1 1) (BF 1 2) (BF 1 3) (BF 1 4) (BF 1 5) (BF 1 6) (FI 1) (FJ 1) (FW 1))) pl)), (6, zi 1), (3, zi v), (0, .ref x0), (1, zi la), (2, zi pl)]) hx hb dX11_likeliest_55 hl (by decide) rfl (fun ls hl => ?_)
          refine lv_iload hx hb dX11_likeliest_57 (lv_at hl 2 rfl) ?_
          refine lv_istore_n (lv' := [(3, zi 1), (4, zl (enF (acx gl gp gx gy GK la (lifeV (BF 1 0) (BF 1 1) (BF 1 2) (BF 1 3) (BF 1 4) (BF 1 5) (BF 1 6) (FI 1) (FJ 1) (FW 1))) pl)), (7, zl (enF (acx gl gp gx gy GK la (lifeV (BF 1 0) (BF 1 1) (BF 1 2) (BF 1 3) (BF 1 4) (BF 1 5) (BF 1 6) (FI 1) (FJ 1) (FW 1))) pl)), (6, zi 1), (0, .ref x0), (1, zi la), (2, zi pl)]) hx hb dX11_likeliest_59 rfl hl (by decide) rfl (fun ls hl => ?_)
          refine z_iinc (k := 3) (lv' := [(6, zi (1 + 1)), (3, zi 1), (4, zl (enF (acx gl gp gx gy GK la (lifeV (BF 1 0) (BF 1 1) (BF 1 2) (BF 1 3) (BF 1 4) (BF 1 5) (BF 1 6) (FI 1) (FJ 1) (FW 1))) pl)), (7, zl (enF (acx gl gp gx gy GK la (lifeV (BF 1 0) (BF 1 1) (BF 1 2) (BF 1 3) (BF 1 4) (BF 1 5) (BF 1 6) (FI 1) (FJ 1) (FW 1))) pl)), (0, .ref x0), (1, zi la), (2, zi pl)]) hx hb dX11_likeliest_60 hl rfl (by decide) rfl (fun ls hl => ?_)
          refine lv_goto (tgt := 23) hx hb dX11_likeliest_63 (by decide) ?_
          exact ih23 (1, enF (acx gl gp gx gy GK la (lifeV (BF 1 0) (BF 1 1) (BF 1 2) (BF 1 3) (BF 1 4) (BF 1 5) (BF 1 6) (FI 1) (FJ 1) (FW 1))) pl, 1 + 1, dc2, DE2) _ _ _ (by first | (dsimp only; omega) | omega) ⟨⟨by omega, by rw [(lk_s (fun b _ => (e0 b).1) hi23.1.1).1, ← hi23.2.1, ← hi23.2.2.1]; first | exact (if_neg (show ¬ gr < _ from by omega)).symm | exact (if_pos (show gr < _ from by omega)).symm, by rw [(lk_s (fun b _ => (e0 b).1) hi23.1.1).2, ← hi23.2.2.1]; first | exact (if_neg (show ¬ gr < _ from by omega)).symm | exact (if_pos (show gr < _ from by omega)).symm, by omega, by omega⟩, lv_sub hl [0, 2, 1, 4, 5, 6] rfl, hP.sub [0, 1] rfl, hD.sub [0, 1] (by decide) rfl, hS⟩
      ·
        subst e9
        refine lv_aload_n hx hb dX11_likeliest_35 rfl (lv_at hl 3 rfl) ?_
        refine lv_iload hx hb dX11_likeliest_36 (lv_at hl 0 rfl) ?_
        refine lv_iload_n hx hb dX11_likeliest_38 rfl (lv_at hl 4 rfl) ?_
        refine lv_iload_n hx hb dX11_likeliest_39 rfl (lv_at hl 5 rfl) ?_
        refine z_wR (As := [zi 2, zi la, zi pl]) (rest := []) (wc := [(d0, .inr (3, [.ref da, zl cr])), (da, .inl (y 1, 12, .inr (.inl (cL E))))]) (wrest := []) hC (c_X11_wreckShare l D y x0 t0 g0 f0 r0 sl0 n0 d0 w0 c0 fa fn fr 2 (bh 2) (ba 2) (bb 2) (bc 2) (BF 2 0) (BF 2 1) (BF 2 2) (BF 2 3) (BF 2 4) (BF 2 5) (BF 2 6) (FI 2) (FJ 2) (FW 2) la pl ga gl gp gx gy GK da cr E ⟨by omega, by omega, by omega, by omega⟩ (hfr 2 (by omega) (by omega)) (hBK 2 (by omega) (by omega)) (by first | assumption | omega) (by first | assumption | omega) (by first | assumption | omega) _) (cwV 3 hts gX11_likeliest_X11_wreckShare rfl rfl rfl (by decide +kernel) ⟨Nat.le_of_ble_eq_true rfl, Nat.le_of_ble_eq_true rfl⟩) hG hP hD hS hA [0, 1] [] rfl rfl (by decide) (by decide) (by decide) (hPr.sub (ws' := [(x0, .inr (10, [.ref t0, .ref g0, .ref f0, .ref r0, .ref sl0, .ref n0, .ref d0, .ref w0, .ref c0])), (f0, .inr (4, [.ref fa, zi fn])), (fa, .inl (y 3, 6, .inr (.inr (.inr (.inr fr))))), ((bh 2), .inr (1, [zi (BF 2 0), zi (BF 2 1), zi (BF 2 2), zi (BF 2 3), zi (BF 2 4), zi (BF 2 5), zi (BF 2 6), .ref (ba 2), .ref (bb 2), .ref (bc 2)])), ((ba 2), .inl (y 0, 8, .inl (cI (FI 2)))), ((bb 2), .inl (y 0, 8, .inl (cI (FJ 2)))), ((bc 2), .inl (y 0, 8, .inl (cI (FW 2)))), (g0, .inr (5, [.ref ga, zi gl, zi gp, zi gx, zi gy])), (ga, .inl (y 0, 36, .inl (cI GK)))]) [0, 1, 2, 11, 12, 13, 14, 27, 28] rfl) (fun k q hk z => ro_sub (wr' := [(x0, .inr (10, [.ref t0, .ref g0, .ref f0, .ref r0, .ref sl0, .ref n0, .ref d0, .ref w0, .ref c0])), (f0, .inr (4, [.ref fa, zi fn])), (fa, .inl (y 3, 6, .inr (.inr (.inr (.inr fr))))), ((bh 2), .inr (1, [zi (BF 2 0), zi (BF 2 1), zi (BF 2 2), zi (BF 2 3), zi (BF 2 4), zi (BF 2 5), zi (BF 2 6), .ref (ba 2), .ref (bb 2), .ref (bc 2)])), ((ba 2), .inl (y 0, 8, .inl (cI (FI 2)))), ((bb 2), .inl (y 0, 8, .inl (cI (FJ 2)))), ((bc 2), .inl (y 0, 8, .inl (cI (FW 2)))), (g0, .inr (5, [.ref ga, zi gl, zi gp, zi gx, zi gy])), (ga, .inl (y 0, 36, .inl (cI GK)))]) hN [0, 1, 2, 11, 12, 13, 14, 27, 28] rfl k q hk (va_free (wc := [(d0, .inr (3, [.ref da, zl cr])), (da, .inl (y 1, 12, .inr (.inl (cL E))))]) hD hS hA [0, 1] rfl q.1 z)) 0 rfl rfl rfl hl.1 rfl (Nat.le_of_ble_eq_true rfl) dX11_likeliest_40 ⟨Nat.le_of_ble_eq_true rfl, Nat.le_of_ble_eq_true rfl⟩ (fun u9 H locs hw_9 hP hD hS => ?_)
        obtain ⟨dc2, DE2⟩ := u9
        have hw_9 : True := hw_9
        have hP : va_P D vwCl [(d0, .inr (3, [.ref da, zl dc2])), (da, .inl (y 1, 12, .inr (.inl (cL DE2))))] H := hP
        have hD : va_D A [(d0, .inr (3, [.ref da, zl dc2])), (da, .inl (y 1, 12, .inr (.inl (cL DE2))))] := hD
        have hPr := ro_now hR0 hN hS
        refine lv_lstore (lv' := [(7, zl (enF (acx gl gp gx gy GK la (lifeV (BF 2 0) (BF 2 1) (BF 2 2) (BF 2 3) (BF 2 4) (BF 2 5) (BF 2 6) (FI 2) (FJ 2) (FW 2))) pl)), (6, zi 2), (4, zl gr), (3, zi v), (0, .ref x0), (1, zi la), (2, zi pl)]) hx hb dX11_likeliest_43 hl (by decide) rfl (fun ls hl => ?_)
        have ek := e0 2
        have ex : enF (acx gl gp gx gy GK la (lifeV (BF 2 0) (BF 2 1) (BF 2 2) (BF 2 3) (BF 2 4) (BF 2 5) (BF 2 6) (FI 2) (FJ 2) (FW 2))) pl = enF (acx gl gp gx gy GK la (xLife BF FI FJ FW 2)) pl := rfl
        rw [← ex] at ek
        refine lv_lload hx hb dX11_likeliest_45 (lv_at hl 0 rfl) ?_
        refine lv_lload hx hb dX11_likeliest_47 (lv_at hl 2 rfl) ?_
        refine z_lcmp_le (tgt := 60) hx hb (by omega) (by omega) dX11_likeliest_49 dX11_likeliest_50 (by decide) (fun c_49 => ?_) (fun c_49 => ?_)
        ·
          refine z_iinc (k := 1) (lv' := [(6, zi (2 + 1)), (7, zl (enF (acx gl gp gx gy GK la (lifeV (BF 2 0) (BF 2 1) (BF 2 2) (BF 2 3) (BF 2 4) (BF 2 5) (BF 2 6) (FI 2) (FJ 2) (FW 2))) pl)), (4, zl gr), (3, zi v), (0, .ref x0), (1, zi la), (2, zi pl)]) hx hb dX11_likeliest_60 hl rfl (by decide) rfl (fun ls hl => ?_)
          refine lv_goto (tgt := 23) hx hb dX11_likeliest_63 (by decide) ?_
          exact ih23 (v, gr, 2 + 1, dc2, DE2) _ _ _ (by first | (dsimp only; omega) | omega) ⟨⟨by omega, by rw [(lk_s (fun b _ => (e0 b).1) hi23.1.1).1, ← hi23.2.1, ← hi23.2.2.1]; first | exact (if_neg (show ¬ gr < _ from by omega)).symm | exact (if_pos (show gr < _ from by omega)).symm, by rw [(lk_s (fun b _ => (e0 b).1) hi23.1.1).2, ← hi23.2.2.1]; first | exact (if_neg (show ¬ gr < _ from by omega)).symm | exact (if_pos (show gr < _ from by omega)).symm, by omega, by omega⟩, lv_sub hl [0, 2, 3, 4, 5, 6] rfl, hP.sub [0, 1] rfl, hD.sub [0, 1] (by decide) rfl, hS⟩
        ·
          refine lv_lload hx hb dX11_likeliest_53 (lv_at hl 0 rfl) ?_
          refine lv_lstore (lv' := [(4, zl (enF (acx gl gp gx gy GK la (lifeV (BF 2 0) (BF 2 1) (BF 2 2) (BF 2 3) (BF 2 4) (BF 2 5) (BF 2 6) (FI 2) (FJ 2) (FW 2))) pl)), (7, zl (enF (acx gl gp gx gy GK la (lifeV (BF 2 0) (BF 2 1) (BF 2 2) (BF 2 3) (BF 2 4) (BF 2 5) (BF 2 6) (FI 2) (FJ 2) (FW 2))) pl)), (6, zi 2), (3, zi v), (0, .ref x0), (1, zi la), (2, zi pl)]) hx hb dX11_likeliest_55 hl (by decide) rfl (fun ls hl => ?_)
          refine lv_iload hx hb dX11_likeliest_57 (lv_at hl 2 rfl) ?_
          refine lv_istore_n (lv' := [(3, zi 2), (4, zl (enF (acx gl gp gx gy GK la (lifeV (BF 2 0) (BF 2 1) (BF 2 2) (BF 2 3) (BF 2 4) (BF 2 5) (BF 2 6) (FI 2) (FJ 2) (FW 2))) pl)), (7, zl (enF (acx gl gp gx gy GK la (lifeV (BF 2 0) (BF 2 1) (BF 2 2) (BF 2 3) (BF 2 4) (BF 2 5) (BF 2 6) (FI 2) (FJ 2) (FW 2))) pl)), (6, zi 2), (0, .ref x0), (1, zi la), (2, zi pl)]) hx hb dX11_likeliest_59 rfl hl (by decide) rfl (fun ls hl => ?_)
          refine z_iinc (k := 3) (lv' := [(6, zi (2 + 1)), (3, zi 2), (4, zl (enF (acx gl gp gx gy GK la (lifeV (BF 2 0) (BF 2 1) (BF 2 2) (BF 2 3) (BF 2 4) (BF 2 5) (BF 2 6) (FI 2) (FJ 2) (FW 2))) pl)), (7, zl (enF (acx gl gp gx gy GK la (lifeV (BF 2 0) (BF 2 1) (BF 2 2) (BF 2 3) (BF 2 4) (BF 2 5) (BF 2 6) (FI 2) (FJ 2) (FW 2))) pl)), (0, .ref x0), (1, zi la), (2, zi pl)]) hx hb dX11_likeliest_60 hl rfl (by decide) rfl (fun ls hl => ?_)
          refine lv_goto (tgt := 23) hx hb dX11_likeliest_63 (by decide) ?_
          exact ih23 (2, enF (acx gl gp gx gy GK la (lifeV (BF 2 0) (BF 2 1) (BF 2 2) (BF 2 3) (BF 2 4) (BF 2 5) (BF 2 6) (FI 2) (FJ 2) (FW 2))) pl, 2 + 1, dc2, DE2) _ _ _ (by first | (dsimp only; omega) | omega) ⟨⟨by omega, by rw [(lk_s (fun b _ => (e0 b).1) hi23.1.1).1, ← hi23.2.1, ← hi23.2.2.1]; first | exact (if_neg (show ¬ gr < _ from by omega)).symm | exact (if_pos (show gr < _ from by omega)).symm, by rw [(lk_s (fun b _ => (e0 b).1) hi23.1.1).2, ← hi23.2.2.1]; first | exact (if_neg (show ¬ gr < _ from by omega)).symm | exact (if_pos (show gr < _ from by omega)).symm, by omega, by omega⟩, lv_sub hl [0, 2, 1, 4, 5, 6] rfl, hP.sub [0, 1] rfl, hD.sub [0, 1] (by decide) rfl, hS⟩
      ·
        subst e9
        refine lv_aload_n hx hb dX11_likeliest_35 rfl (lv_at hl 3 rfl) ?_
        refine lv_iload hx hb dX11_likeliest_36 (lv_at hl 0 rfl) ?_
        refine lv_iload_n hx hb dX11_likeliest_38 rfl (lv_at hl 4 rfl) ?_
        refine lv_iload_n hx hb dX11_likeliest_39 rfl (lv_at hl 5 rfl) ?_
        refine z_wR (As := [zi 3, zi la, zi pl]) (rest := []) (wc := [(d0, .inr (3, [.ref da, zl cr])), (da, .inl (y 1, 12, .inr (.inl (cL E))))]) (wrest := []) hC (c_X11_wreckShare l D y x0 t0 g0 f0 r0 sl0 n0 d0 w0 c0 fa fn fr 3 (bh 3) (ba 3) (bb 3) (bc 3) (BF 3 0) (BF 3 1) (BF 3 2) (BF 3 3) (BF 3 4) (BF 3 5) (BF 3 6) (FI 3) (FJ 3) (FW 3) la pl ga gl gp gx gy GK da cr E ⟨by omega, by omega, by omega, by omega⟩ (hfr 3 (by omega) (by omega)) (hBK 3 (by omega) (by omega)) (by first | assumption | omega) (by first | assumption | omega) (by first | assumption | omega) _) (cwV 3 hts gX11_likeliest_X11_wreckShare rfl rfl rfl (by decide +kernel) ⟨Nat.le_of_ble_eq_true rfl, Nat.le_of_ble_eq_true rfl⟩) hG hP hD hS hA [0, 1] [] rfl rfl (by decide) (by decide) (by decide) (hPr.sub (ws' := [(x0, .inr (10, [.ref t0, .ref g0, .ref f0, .ref r0, .ref sl0, .ref n0, .ref d0, .ref w0, .ref c0])), (f0, .inr (4, [.ref fa, zi fn])), (fa, .inl (y 3, 6, .inr (.inr (.inr (.inr fr))))), ((bh 3), .inr (1, [zi (BF 3 0), zi (BF 3 1), zi (BF 3 2), zi (BF 3 3), zi (BF 3 4), zi (BF 3 5), zi (BF 3 6), .ref (ba 3), .ref (bb 3), .ref (bc 3)])), ((ba 3), .inl (y 0, 8, .inl (cI (FI 3)))), ((bb 3), .inl (y 0, 8, .inl (cI (FJ 3)))), ((bc 3), .inl (y 0, 8, .inl (cI (FW 3)))), (g0, .inr (5, [.ref ga, zi gl, zi gp, zi gx, zi gy])), (ga, .inl (y 0, 36, .inl (cI GK)))]) [0, 1, 2, 15, 16, 17, 18, 27, 28] rfl) (fun k q hk z => ro_sub (wr' := [(x0, .inr (10, [.ref t0, .ref g0, .ref f0, .ref r0, .ref sl0, .ref n0, .ref d0, .ref w0, .ref c0])), (f0, .inr (4, [.ref fa, zi fn])), (fa, .inl (y 3, 6, .inr (.inr (.inr (.inr fr))))), ((bh 3), .inr (1, [zi (BF 3 0), zi (BF 3 1), zi (BF 3 2), zi (BF 3 3), zi (BF 3 4), zi (BF 3 5), zi (BF 3 6), .ref (ba 3), .ref (bb 3), .ref (bc 3)])), ((ba 3), .inl (y 0, 8, .inl (cI (FI 3)))), ((bb 3), .inl (y 0, 8, .inl (cI (FJ 3)))), ((bc 3), .inl (y 0, 8, .inl (cI (FW 3)))), (g0, .inr (5, [.ref ga, zi gl, zi gp, zi gx, zi gy])), (ga, .inl (y 0, 36, .inl (cI GK)))]) hN [0, 1, 2, 15, 16, 17, 18, 27, 28] rfl k q hk (va_free (wc := [(d0, .inr (3, [.ref da, zl cr])), (da, .inl (y 1, 12, .inr (.inl (cL E))))]) hD hS hA [0, 1] rfl q.1 z)) 0 rfl rfl rfl hl.1 rfl (Nat.le_of_ble_eq_true rfl) dX11_likeliest_40 ⟨Nat.le_of_ble_eq_true rfl, Nat.le_of_ble_eq_true rfl⟩ (fun u9 H locs hw_12 hP hD hS => ?_)
        obtain ⟨dc2, DE2⟩ := u9
        have hw_12 : True := hw_12
        have hP : va_P D vwCl [(d0, .inr (3, [.ref da, zl dc2])), (da, .inl (y 1, 12, .inr (.inl (cL DE2))))] H := hP
        have hD : va_D A [(d0, .inr (3, [.ref da, zl dc2])), (da, .inl (y 1, 12, .inr (.inl (cL DE2))))] := hD
        have hPr := ro_now hR0 hN hS
        refine lv_lstore (lv' := [(7, zl (enF (acx gl gp gx gy GK la (lifeV (BF 3 0) (BF 3 1) (BF 3 2) (BF 3 3) (BF 3 4) (BF 3 5) (BF 3 6) (FI 3) (FJ 3) (FW 3))) pl)), (6, zi 3), (4, zl gr), (3, zi v), (0, .ref x0), (1, zi la), (2, zi pl)]) hx hb dX11_likeliest_43 hl (by decide) rfl (fun ls hl => ?_)
        have ek := e0 3
        have ex : enF (acx gl gp gx gy GK la (lifeV (BF 3 0) (BF 3 1) (BF 3 2) (BF 3 3) (BF 3 4) (BF 3 5) (BF 3 6) (FI 3) (FJ 3) (FW 3))) pl = enF (acx gl gp gx gy GK la (xLife BF FI FJ FW 3)) pl := rfl
        rw [← ex] at ek
        refine lv_lload hx hb dX11_likeliest_45 (lv_at hl 0 rfl) ?_
        refine lv_lload hx hb dX11_likeliest_47 (lv_at hl 2 rfl) ?_
        refine z_lcmp_le (tgt := 60) hx hb (by omega) (by omega) dX11_likeliest_49 dX11_likeliest_50 (by decide) (fun c_49 => ?_) (fun c_49 => ?_)
        ·
          refine z_iinc (k := 1) (lv' := [(6, zi (3 + 1)), (7, zl (enF (acx gl gp gx gy GK la (lifeV (BF 3 0) (BF 3 1) (BF 3 2) (BF 3 3) (BF 3 4) (BF 3 5) (BF 3 6) (FI 3) (FJ 3) (FW 3))) pl)), (4, zl gr), (3, zi v), (0, .ref x0), (1, zi la), (2, zi pl)]) hx hb dX11_likeliest_60 hl rfl (by decide) rfl (fun ls hl => ?_)
          refine lv_goto (tgt := 23) hx hb dX11_likeliest_63 (by decide) ?_
          exact ih23 (v, gr, 3 + 1, dc2, DE2) _ _ _ (by first | (dsimp only; omega) | omega) ⟨⟨by omega, by rw [(lk_s (fun b _ => (e0 b).1) hi23.1.1).1, ← hi23.2.1, ← hi23.2.2.1]; first | exact (if_neg (show ¬ gr < _ from by omega)).symm | exact (if_pos (show gr < _ from by omega)).symm, by rw [(lk_s (fun b _ => (e0 b).1) hi23.1.1).2, ← hi23.2.2.1]; first | exact (if_neg (show ¬ gr < _ from by omega)).symm | exact (if_pos (show gr < _ from by omega)).symm, by omega, by omega⟩, lv_sub hl [0, 2, 3, 4, 5, 6] rfl, hP.sub [0, 1] rfl, hD.sub [0, 1] (by decide) rfl, hS⟩
        ·
          refine lv_lload hx hb dX11_likeliest_53 (lv_at hl 0 rfl) ?_
          refine lv_lstore (lv' := [(4, zl (enF (acx gl gp gx gy GK la (lifeV (BF 3 0) (BF 3 1) (BF 3 2) (BF 3 3) (BF 3 4) (BF 3 5) (BF 3 6) (FI 3) (FJ 3) (FW 3))) pl)), (7, zl (enF (acx gl gp gx gy GK la (lifeV (BF 3 0) (BF 3 1) (BF 3 2) (BF 3 3) (BF 3 4) (BF 3 5) (BF 3 6) (FI 3) (FJ 3) (FW 3))) pl)), (6, zi 3), (3, zi v), (0, .ref x0), (1, zi la), (2, zi pl)]) hx hb dX11_likeliest_55 hl (by decide) rfl (fun ls hl => ?_)
          refine lv_iload hx hb dX11_likeliest_57 (lv_at hl 2 rfl) ?_
          refine lv_istore_n (lv' := [(3, zi 3), (4, zl (enF (acx gl gp gx gy GK la (lifeV (BF 3 0) (BF 3 1) (BF 3 2) (BF 3 3) (BF 3 4) (BF 3 5) (BF 3 6) (FI 3) (FJ 3) (FW 3))) pl)), (7, zl (enF (acx gl gp gx gy GK la (lifeV (BF 3 0) (BF 3 1) (BF 3 2) (BF 3 3) (BF 3 4) (BF 3 5) (BF 3 6) (FI 3) (FJ 3) (FW 3))) pl)), (6, zi 3), (0, .ref x0), (1, zi la), (2, zi pl)]) hx hb dX11_likeliest_59 rfl hl (by decide) rfl (fun ls hl => ?_)
          refine z_iinc (k := 3) (lv' := [(6, zi (3 + 1)), (3, zi 3), (4, zl (enF (acx gl gp gx gy GK la (lifeV (BF 3 0) (BF 3 1) (BF 3 2) (BF 3 3) (BF 3 4) (BF 3 5) (BF 3 6) (FI 3) (FJ 3) (FW 3))) pl)), (7, zl (enF (acx gl gp gx gy GK la (lifeV (BF 3 0) (BF 3 1) (BF 3 2) (BF 3 3) (BF 3 4) (BF 3 5) (BF 3 6) (FI 3) (FJ 3) (FW 3))) pl)), (0, .ref x0), (1, zi la), (2, zi pl)]) hx hb dX11_likeliest_60 hl rfl (by decide) rfl (fun ls hl => ?_)
          refine lv_goto (tgt := 23) hx hb dX11_likeliest_63 (by decide) ?_
          exact ih23 (3, enF (acx gl gp gx gy GK la (lifeV (BF 3 0) (BF 3 1) (BF 3 2) (BF 3 3) (BF 3 4) (BF 3 5) (BF 3 6) (FI 3) (FJ 3) (FW 3))) pl, 3 + 1, dc2, DE2) _ _ _ (by first | (dsimp only; omega) | omega) ⟨⟨by omega, by rw [(lk_s (fun b _ => (e0 b).1) hi23.1.1).1, ← hi23.2.1, ← hi23.2.2.1]; first | exact (if_neg (show ¬ gr < _ from by omega)).symm | exact (if_pos (show gr < _ from by omega)).symm, by rw [(lk_s (fun b _ => (e0 b).1) hi23.1.1).2, ← hi23.2.2.1]; first | exact (if_neg (show ¬ gr < _ from by omega)).symm | exact (if_pos (show gr < _ from by omega)).symm, by omega, by omega⟩, lv_sub hl [0, 2, 1, 4, 5, 6] rfl, hP.sub [0, 1] rfl, hD.sub [0, 1] (by decide) rfl, hS⟩
      ·
        subst e9
        refine lv_aload_n hx hb dX11_likeliest_35 rfl (lv_at hl 3 rfl) ?_
        refine lv_iload hx hb dX11_likeliest_36 (lv_at hl 0 rfl) ?_
        refine lv_iload_n hx hb dX11_likeliest_38 rfl (lv_at hl 4 rfl) ?_
        refine lv_iload_n hx hb dX11_likeliest_39 rfl (lv_at hl 5 rfl) ?_
        refine z_wR (As := [zi 4, zi la, zi pl]) (rest := []) (wc := [(d0, .inr (3, [.ref da, zl cr])), (da, .inl (y 1, 12, .inr (.inl (cL E))))]) (wrest := []) hC (c_X11_wreckShare l D y x0 t0 g0 f0 r0 sl0 n0 d0 w0 c0 fa fn fr 4 (bh 4) (ba 4) (bb 4) (bc 4) (BF 4 0) (BF 4 1) (BF 4 2) (BF 4 3) (BF 4 4) (BF 4 5) (BF 4 6) (FI 4) (FJ 4) (FW 4) la pl ga gl gp gx gy GK da cr E ⟨by omega, by omega, by omega, by omega⟩ (hfr 4 (by omega) (by omega)) (hBK 4 (by omega) (by omega)) (by first | assumption | omega) (by first | assumption | omega) (by first | assumption | omega) _) (cwV 3 hts gX11_likeliest_X11_wreckShare rfl rfl rfl (by decide +kernel) ⟨Nat.le_of_ble_eq_true rfl, Nat.le_of_ble_eq_true rfl⟩) hG hP hD hS hA [0, 1] [] rfl rfl (by decide) (by decide) (by decide) (hPr.sub (ws' := [(x0, .inr (10, [.ref t0, .ref g0, .ref f0, .ref r0, .ref sl0, .ref n0, .ref d0, .ref w0, .ref c0])), (f0, .inr (4, [.ref fa, zi fn])), (fa, .inl (y 3, 6, .inr (.inr (.inr (.inr fr))))), ((bh 4), .inr (1, [zi (BF 4 0), zi (BF 4 1), zi (BF 4 2), zi (BF 4 3), zi (BF 4 4), zi (BF 4 5), zi (BF 4 6), .ref (ba 4), .ref (bb 4), .ref (bc 4)])), ((ba 4), .inl (y 0, 8, .inl (cI (FI 4)))), ((bb 4), .inl (y 0, 8, .inl (cI (FJ 4)))), ((bc 4), .inl (y 0, 8, .inl (cI (FW 4)))), (g0, .inr (5, [.ref ga, zi gl, zi gp, zi gx, zi gy])), (ga, .inl (y 0, 36, .inl (cI GK)))]) [0, 1, 2, 19, 20, 21, 22, 27, 28] rfl) (fun k q hk z => ro_sub (wr' := [(x0, .inr (10, [.ref t0, .ref g0, .ref f0, .ref r0, .ref sl0, .ref n0, .ref d0, .ref w0, .ref c0])), (f0, .inr (4, [.ref fa, zi fn])), (fa, .inl (y 3, 6, .inr (.inr (.inr (.inr fr))))), ((bh 4), .inr (1, [zi (BF 4 0), zi (BF 4 1), zi (BF 4 2), zi (BF 4 3), zi (BF 4 4), zi (BF 4 5), zi (BF 4 6), .ref (ba 4), .ref (bb 4), .ref (bc 4)])), ((ba 4), .inl (y 0, 8, .inl (cI (FI 4)))), ((bb 4), .inl (y 0, 8, .inl (cI (FJ 4)))), ((bc 4), .inl (y 0, 8, .inl (cI (FW 4)))), (g0, .inr (5, [.ref ga, zi gl, zi gp, zi gx, zi gy])), (ga, .inl (y 0, 36, .inl (cI GK)))]) hN [0, 1, 2, 19, 20, 21, 22, 27, 28] rfl k q hk (va_free (wc := [(d0, .inr (3, [.ref da, zl cr])), (da, .inl (y 1, 12, .inr (.inl (cL E))))]) hD hS hA [0, 1] rfl q.1 z)) 0 rfl rfl rfl hl.1 rfl (Nat.le_of_ble_eq_true rfl) dX11_likeliest_40 ⟨Nat.le_of_ble_eq_true rfl, Nat.le_of_ble_eq_true rfl⟩ (fun u9 H locs hw_15 hP hD hS => ?_)
        obtain ⟨dc2, DE2⟩ := u9
        have hw_15 : True := hw_15
        have hP : va_P D vwCl [(d0, .inr (3, [.ref da, zl dc2])), (da, .inl (y 1, 12, .inr (.inl (cL DE2))))] H := hP
        have hD : va_D A [(d0, .inr (3, [.ref da, zl dc2])), (da, .inl (y 1, 12, .inr (.inl (cL DE2))))] := hD
        have hPr := ro_now hR0 hN hS
        refine lv_lstore (lv' := [(7, zl (enF (acx gl gp gx gy GK la (lifeV (BF 4 0) (BF 4 1) (BF 4 2) (BF 4 3) (BF 4 4) (BF 4 5) (BF 4 6) (FI 4) (FJ 4) (FW 4))) pl)), (6, zi 4), (4, zl gr), (3, zi v), (0, .ref x0), (1, zi la), (2, zi pl)]) hx hb dX11_likeliest_43 hl (by decide) rfl (fun ls hl => ?_)
        have ek := e0 4
        have ex : enF (acx gl gp gx gy GK la (lifeV (BF 4 0) (BF 4 1) (BF 4 2) (BF 4 3) (BF 4 4) (BF 4 5) (BF 4 6) (FI 4) (FJ 4) (FW 4))) pl = enF (acx gl gp gx gy GK la (xLife BF FI FJ FW 4)) pl := rfl
        rw [← ex] at ek
        refine lv_lload hx hb dX11_likeliest_45 (lv_at hl 0 rfl) ?_
        refine lv_lload hx hb dX11_likeliest_47 (lv_at hl 2 rfl) ?_
        refine z_lcmp_le (tgt := 60) hx hb (by omega) (by omega) dX11_likeliest_49 dX11_likeliest_50 (by decide) (fun c_49 => ?_) (fun c_49 => ?_)
        ·
          refine z_iinc (k := 1) (lv' := [(6, zi (4 + 1)), (7, zl (enF (acx gl gp gx gy GK la (lifeV (BF 4 0) (BF 4 1) (BF 4 2) (BF 4 3) (BF 4 4) (BF 4 5) (BF 4 6) (FI 4) (FJ 4) (FW 4))) pl)), (4, zl gr), (3, zi v), (0, .ref x0), (1, zi la), (2, zi pl)]) hx hb dX11_likeliest_60 hl rfl (by decide) rfl (fun ls hl => ?_)
          refine lv_goto (tgt := 23) hx hb dX11_likeliest_63 (by decide) ?_
          exact ih23 (v, gr, 4 + 1, dc2, DE2) _ _ _ (by first | (dsimp only; omega) | omega) ⟨⟨by omega, by rw [(lk_s (fun b _ => (e0 b).1) hi23.1.1).1, ← hi23.2.1, ← hi23.2.2.1]; first | exact (if_neg (show ¬ gr < _ from by omega)).symm | exact (if_pos (show gr < _ from by omega)).symm, by rw [(lk_s (fun b _ => (e0 b).1) hi23.1.1).2, ← hi23.2.2.1]; first | exact (if_neg (show ¬ gr < _ from by omega)).symm | exact (if_pos (show gr < _ from by omega)).symm, by omega, by omega⟩, lv_sub hl [0, 2, 3, 4, 5, 6] rfl, hP.sub [0, 1] rfl, hD.sub [0, 1] (by decide) rfl, hS⟩
        ·
          refine lv_lload hx hb dX11_likeliest_53 (lv_at hl 0 rfl) ?_
          refine lv_lstore (lv' := [(4, zl (enF (acx gl gp gx gy GK la (lifeV (BF 4 0) (BF 4 1) (BF 4 2) (BF 4 3) (BF 4 4) (BF 4 5) (BF 4 6) (FI 4) (FJ 4) (FW 4))) pl)), (7, zl (enF (acx gl gp gx gy GK la (lifeV (BF 4 0) (BF 4 1) (BF 4 2) (BF 4 3) (BF 4 4) (BF 4 5) (BF 4 6) (FI 4) (FJ 4) (FW 4))) pl)), (6, zi 4), (3, zi v), (0, .ref x0), (1, zi la), (2, zi pl)]) hx hb dX11_likeliest_55 hl (by decide) rfl (fun ls hl => ?_)
          refine lv_iload hx hb dX11_likeliest_57 (lv_at hl 2 rfl) ?_
          refine lv_istore_n (lv' := [(3, zi 4), (4, zl (enF (acx gl gp gx gy GK la (lifeV (BF 4 0) (BF 4 1) (BF 4 2) (BF 4 3) (BF 4 4) (BF 4 5) (BF 4 6) (FI 4) (FJ 4) (FW 4))) pl)), (7, zl (enF (acx gl gp gx gy GK la (lifeV (BF 4 0) (BF 4 1) (BF 4 2) (BF 4 3) (BF 4 4) (BF 4 5) (BF 4 6) (FI 4) (FJ 4) (FW 4))) pl)), (6, zi 4), (0, .ref x0), (1, zi la), (2, zi pl)]) hx hb dX11_likeliest_59 rfl hl (by decide) rfl (fun ls hl => ?_)
          refine z_iinc (k := 3) (lv' := [(6, zi (4 + 1)), (3, zi 4), (4, zl (enF (acx gl gp gx gy GK la (lifeV (BF 4 0) (BF 4 1) (BF 4 2) (BF 4 3) (BF 4 4) (BF 4 5) (BF 4 6) (FI 4) (FJ 4) (FW 4))) pl)), (7, zl (enF (acx gl gp gx gy GK la (lifeV (BF 4 0) (BF 4 1) (BF 4 2) (BF 4 3) (BF 4 4) (BF 4 5) (BF 4 6) (FI 4) (FJ 4) (FW 4))) pl)), (0, .ref x0), (1, zi la), (2, zi pl)]) hx hb dX11_likeliest_60 hl rfl (by decide) rfl (fun ls hl => ?_)
          refine lv_goto (tgt := 23) hx hb dX11_likeliest_63 (by decide) ?_
          exact ih23 (4, enF (acx gl gp gx gy GK la (lifeV (BF 4 0) (BF 4 1) (BF 4 2) (BF 4 3) (BF 4 4) (BF 4 5) (BF 4 6) (FI 4) (FJ 4) (FW 4))) pl, 4 + 1, dc2, DE2) _ _ _ (by first | (dsimp only; omega) | omega) ⟨⟨by omega, by rw [(lk_s (fun b _ => (e0 b).1) hi23.1.1).1, ← hi23.2.1, ← hi23.2.2.1]; first | exact (if_neg (show ¬ gr < _ from by omega)).symm | exact (if_pos (show gr < _ from by omega)).symm, by rw [(lk_s (fun b _ => (e0 b).1) hi23.1.1).2, ← hi23.2.2.1]; first | exact (if_neg (show ¬ gr < _ from by omega)).symm | exact (if_pos (show gr < _ from by omega)).symm, by omega, by omega⟩, lv_sub hl [0, 2, 1, 4, 5, 6] rfl, hP.sub [0, 1] rfl, hD.sub [0, 1] (by decide) rfl, hS⟩
      ·
        subst e9
        refine lv_aload_n hx hb dX11_likeliest_35 rfl (lv_at hl 3 rfl) ?_
        refine lv_iload hx hb dX11_likeliest_36 (lv_at hl 0 rfl) ?_
        refine lv_iload_n hx hb dX11_likeliest_38 rfl (lv_at hl 4 rfl) ?_
        refine lv_iload_n hx hb dX11_likeliest_39 rfl (lv_at hl 5 rfl) ?_
        refine z_wR (As := [zi 5, zi la, zi pl]) (rest := []) (wc := [(d0, .inr (3, [.ref da, zl cr])), (da, .inl (y 1, 12, .inr (.inl (cL E))))]) (wrest := []) hC (c_X11_wreckShare l D y x0 t0 g0 f0 r0 sl0 n0 d0 w0 c0 fa fn fr 5 (bh 5) (ba 5) (bb 5) (bc 5) (BF 5 0) (BF 5 1) (BF 5 2) (BF 5 3) (BF 5 4) (BF 5 5) (BF 5 6) (FI 5) (FJ 5) (FW 5) la pl ga gl gp gx gy GK da cr E ⟨by omega, by omega, by omega, by omega⟩ (hfr 5 (by omega) (by omega)) (hBK 5 (by omega) (by omega)) (by first | assumption | omega) (by first | assumption | omega) (by first | assumption | omega) _) (cwV 3 hts gX11_likeliest_X11_wreckShare rfl rfl rfl (by decide +kernel) ⟨Nat.le_of_ble_eq_true rfl, Nat.le_of_ble_eq_true rfl⟩) hG hP hD hS hA [0, 1] [] rfl rfl (by decide) (by decide) (by decide) (hPr.sub (ws' := [(x0, .inr (10, [.ref t0, .ref g0, .ref f0, .ref r0, .ref sl0, .ref n0, .ref d0, .ref w0, .ref c0])), (f0, .inr (4, [.ref fa, zi fn])), (fa, .inl (y 3, 6, .inr (.inr (.inr (.inr fr))))), ((bh 5), .inr (1, [zi (BF 5 0), zi (BF 5 1), zi (BF 5 2), zi (BF 5 3), zi (BF 5 4), zi (BF 5 5), zi (BF 5 6), .ref (ba 5), .ref (bb 5), .ref (bc 5)])), ((ba 5), .inl (y 0, 8, .inl (cI (FI 5)))), ((bb 5), .inl (y 0, 8, .inl (cI (FJ 5)))), ((bc 5), .inl (y 0, 8, .inl (cI (FW 5)))), (g0, .inr (5, [.ref ga, zi gl, zi gp, zi gx, zi gy])), (ga, .inl (y 0, 36, .inl (cI GK)))]) [0, 1, 2, 23, 24, 25, 26, 27, 28] rfl) (fun k q hk z => ro_sub (wr' := [(x0, .inr (10, [.ref t0, .ref g0, .ref f0, .ref r0, .ref sl0, .ref n0, .ref d0, .ref w0, .ref c0])), (f0, .inr (4, [.ref fa, zi fn])), (fa, .inl (y 3, 6, .inr (.inr (.inr (.inr fr))))), ((bh 5), .inr (1, [zi (BF 5 0), zi (BF 5 1), zi (BF 5 2), zi (BF 5 3), zi (BF 5 4), zi (BF 5 5), zi (BF 5 6), .ref (ba 5), .ref (bb 5), .ref (bc 5)])), ((ba 5), .inl (y 0, 8, .inl (cI (FI 5)))), ((bb 5), .inl (y 0, 8, .inl (cI (FJ 5)))), ((bc 5), .inl (y 0, 8, .inl (cI (FW 5)))), (g0, .inr (5, [.ref ga, zi gl, zi gp, zi gx, zi gy])), (ga, .inl (y 0, 36, .inl (cI GK)))]) hN [0, 1, 2, 23, 24, 25, 26, 27, 28] rfl k q hk (va_free (wc := [(d0, .inr (3, [.ref da, zl cr])), (da, .inl (y 1, 12, .inr (.inl (cL E))))]) hD hS hA [0, 1] rfl q.1 z)) 0 rfl rfl rfl hl.1 rfl (Nat.le_of_ble_eq_true rfl) dX11_likeliest_40 ⟨Nat.le_of_ble_eq_true rfl, Nat.le_of_ble_eq_true rfl⟩ (fun u9 H locs hw_18 hP hD hS => ?_)
        obtain ⟨dc2, DE2⟩ := u9
        have hw_18 : True := hw_18
        have hP : va_P D vwCl [(d0, .inr (3, [.ref da, zl dc2])), (da, .inl (y 1, 12, .inr (.inl (cL DE2))))] H := hP
        have hD : va_D A [(d0, .inr (3, [.ref da, zl dc2])), (da, .inl (y 1, 12, .inr (.inl (cL DE2))))] := hD
        have hPr := ro_now hR0 hN hS
        refine lv_lstore (lv' := [(7, zl (enF (acx gl gp gx gy GK la (lifeV (BF 5 0) (BF 5 1) (BF 5 2) (BF 5 3) (BF 5 4) (BF 5 5) (BF 5 6) (FI 5) (FJ 5) (FW 5))) pl)), (6, zi 5), (4, zl gr), (3, zi v), (0, .ref x0), (1, zi la), (2, zi pl)]) hx hb dX11_likeliest_43 hl (by decide) rfl (fun ls hl => ?_)
        have ek := e0 5
        have ex : enF (acx gl gp gx gy GK la (lifeV (BF 5 0) (BF 5 1) (BF 5 2) (BF 5 3) (BF 5 4) (BF 5 5) (BF 5 6) (FI 5) (FJ 5) (FW 5))) pl = enF (acx gl gp gx gy GK la (xLife BF FI FJ FW 5)) pl := rfl
        rw [← ex] at ek
        refine lv_lload hx hb dX11_likeliest_45 (lv_at hl 0 rfl) ?_
        refine lv_lload hx hb dX11_likeliest_47 (lv_at hl 2 rfl) ?_
        refine z_lcmp_le (tgt := 60) hx hb (by omega) (by omega) dX11_likeliest_49 dX11_likeliest_50 (by decide) (fun c_49 => ?_) (fun c_49 => ?_)
        ·
          refine z_iinc (k := 1) (lv' := [(6, zi (5 + 1)), (7, zl (enF (acx gl gp gx gy GK la (lifeV (BF 5 0) (BF 5 1) (BF 5 2) (BF 5 3) (BF 5 4) (BF 5 5) (BF 5 6) (FI 5) (FJ 5) (FW 5))) pl)), (4, zl gr), (3, zi v), (0, .ref x0), (1, zi la), (2, zi pl)]) hx hb dX11_likeliest_60 hl rfl (by decide) rfl (fun ls hl => ?_)
          refine lv_goto (tgt := 23) hx hb dX11_likeliest_63 (by decide) ?_
          exact ih23 (v, gr, 5 + 1, dc2, DE2) _ _ _ (by first | (dsimp only; omega) | omega) ⟨⟨by omega, by rw [(lk_s (fun b _ => (e0 b).1) hi23.1.1).1, ← hi23.2.1, ← hi23.2.2.1]; first | exact (if_neg (show ¬ gr < _ from by omega)).symm | exact (if_pos (show gr < _ from by omega)).symm, by rw [(lk_s (fun b _ => (e0 b).1) hi23.1.1).2, ← hi23.2.2.1]; first | exact (if_neg (show ¬ gr < _ from by omega)).symm | exact (if_pos (show gr < _ from by omega)).symm, by omega, by omega⟩, lv_sub hl [0, 2, 3, 4, 5, 6] rfl, hP.sub [0, 1] rfl, hD.sub [0, 1] (by decide) rfl, hS⟩
        ·
          refine lv_lload hx hb dX11_likeliest_53 (lv_at hl 0 rfl) ?_
          refine lv_lstore (lv' := [(4, zl (enF (acx gl gp gx gy GK la (lifeV (BF 5 0) (BF 5 1) (BF 5 2) (BF 5 3) (BF 5 4) (BF 5 5) (BF 5 6) (FI 5) (FJ 5) (FW 5))) pl)), (7, zl (enF (acx gl gp gx gy GK la (lifeV (BF 5 0) (BF 5 1) (BF 5 2) (BF 5 3) (BF 5 4) (BF 5 5) (BF 5 6) (FI 5) (FJ 5) (FW 5))) pl)), (6, zi 5), (3, zi v), (0, .ref x0), (1, zi la), (2, zi pl)]) hx hb dX11_likeliest_55 hl (by decide) rfl (fun ls hl => ?_)
          refine lv_iload hx hb dX11_likeliest_57 (lv_at hl 2 rfl) ?_
          refine lv_istore_n (lv' := [(3, zi 5), (4, zl (enF (acx gl gp gx gy GK la (lifeV (BF 5 0) (BF 5 1) (BF 5 2) (BF 5 3) (BF 5 4) (BF 5 5) (BF 5 6) (FI 5) (FJ 5) (FW 5))) pl)), (7, zl (enF (acx gl gp gx gy GK la (lifeV (BF 5 0) (BF 5 1) (BF 5 2) (BF 5 3) (BF 5 4) (BF 5 5) (BF 5 6) (FI 5) (FJ 5) (FW 5))) pl)), (6, zi 5), (0, .ref x0), (1, zi la), (2, zi pl)]) hx hb dX11_likeliest_59 rfl hl (by decide) rfl (fun ls hl => ?_)
          refine z_iinc (k := 3) (lv' := [(6, zi (5 + 1)), (3, zi 5), (4, zl (enF (acx gl gp gx gy GK la (lifeV (BF 5 0) (BF 5 1) (BF 5 2) (BF 5 3) (BF 5 4) (BF 5 5) (BF 5 6) (FI 5) (FJ 5) (FW 5))) pl)), (7, zl (enF (acx gl gp gx gy GK la (lifeV (BF 5 0) (BF 5 1) (BF 5 2) (BF 5 3) (BF 5 4) (BF 5 5) (BF 5 6) (FI 5) (FJ 5) (FW 5))) pl)), (0, .ref x0), (1, zi la), (2, zi pl)]) hx hb dX11_likeliest_60 hl rfl (by decide) rfl (fun ls hl => ?_)
          refine lv_goto (tgt := 23) hx hb dX11_likeliest_63 (by decide) ?_
          exact ih23 (5, enF (acx gl gp gx gy GK la (lifeV (BF 5 0) (BF 5 1) (BF 5 2) (BF 5 3) (BF 5 4) (BF 5 5) (BF 5 6) (FI 5) (FJ 5) (FW 5))) pl, 5 + 1, dc2, DE2) _ _ _ (by first | (dsimp only; omega) | omega) ⟨⟨by omega, by rw [(lk_s (fun b _ => (e0 b).1) hi23.1.1).1, ← hi23.2.1, ← hi23.2.2.1]; first | exact (if_neg (show ¬ gr < _ from by omega)).symm | exact (if_pos (show gr < _ from by omega)).symm, by rw [(lk_s (fun b _ => (e0 b).1) hi23.1.1).2, ← hi23.2.2.1]; first | exact (if_neg (show ¬ gr < _ from by omega)).symm | exact (if_pos (show gr < _ from by omega)).symm, by omega, by omega⟩, lv_sub hl [0, 2, 1, 4, 5, 6] rfl, hP.sub [0, 1] rfl, hD.sub [0, 1] (by decide) rfl, hS⟩
  · exfalso; omega
set_option maxHeartbeats 8000000 in
set_option maxRecDepth 100000 in
theorem c_X11_count (l : Launch) (D : va_G) (y : Nat → ClassId) (x0 : Nat) (t0 : Nat) (g0 : Nat) (f0 : Nat) (r0 : Nat) (sl0 : Nat) (n0 : Nat) (d0 : Nat) (w0 : Nat) (c0 : Nat) (ta : Nat) (tn : Int) (TB : Int → Int) (fa : Nat) (fn : Int) (fr : Nat → Option Nat) (bh : Int → Nat) (ba : Int → Nat) (bb : Int → Nat) (bc : Int → Nat) (BF : Int → Int → Int) (rl : Nat) (rr : Nat) (rn : Int) (rk : Int) (ra : Int) (RF : Int → Int) (RB : Int → Int) (wq : Int) (hfr : ∀ k : Int, 0 ≤ k → k < 6 → fr k.toNat = some (bh k)) (hfn : 0 ≤ fn ∧ fn ≤ 6) (hr0 : rOK rn RF RB) (hwq : rI wq) : Met l yX11_count wsX11_count ({ frames := 2, cells := 0, slots := 0, locals := 42 } : Room) (pPc D y [(x0, .inr (10, [.ref t0, .ref g0, .ref f0, .ref r0, .ref sl0, .ref n0, .ref d0, .ref w0, .ref c0])), (t0, .inr (9, [.ref ta, zi tn])), (ta, .inl (y 0, 40, .inl (cI TB))), (f0, .inr (4, [.ref fa, zi fn])), (fa, .inl (y 3, 6, .inr (.inr (.inr (.inr fr))))), ((bh 0), .inr (1, [zi (BF 0 0), zi (BF 0 1), zi (BF 0 2), zi (BF 0 3), zi (BF 0 4), zi (BF 0 5), zi (BF 0 6), .ref (ba 0), .ref (bb 0), .ref (bc 0)])), ((bh 1), .inr (1, [zi (BF 1 0), zi (BF 1 1), zi (BF 1 2), zi (BF 1 3), zi (BF 1 4), zi (BF 1 5), zi (BF 1 6), .ref (ba 1), .ref (bb 1), .ref (bc 1)])), ((bh 2), .inr (1, [zi (BF 2 0), zi (BF 2 1), zi (BF 2 2), zi (BF 2 3), zi (BF 2 4), zi (BF 2 5), zi (BF 2 6), .ref (ba 2), .ref (bb 2), .ref (bc 2)])), ((bh 3), .inr (1, [zi (BF 3 0), zi (BF 3 1), zi (BF 3 2), zi (BF 3 3), zi (BF 3 4), zi (BF 3 5), zi (BF 3 6), .ref (ba 3), .ref (bb 3), .ref (bc 3)])), ((bh 4), .inr (1, [zi (BF 4 0), zi (BF 4 1), zi (BF 4 2), zi (BF 4 3), zi (BF 4 4), zi (BF 4 5), zi (BF 4 6), .ref (ba 4), .ref (bb 4), .ref (bc 4)])), ((bh 5), .inr (1, [zi (BF 5 0), zi (BF 5 1), zi (BF 5 2), zi (BF 5 3), zi (BF 5 4), zi (BF 5 5), zi (BF 5 6), .ref (ba 5), .ref (bb 5), .ref (bc 5)])), (r0, .inr (7, [.ref rl, .ref rr, zi rn, zi rk, zi ra])), (rl, .inl (y 0, 12, .inl (cI RF))), (rr, .inl (y 2, 12, .inl (cI RB)))] [.ref x0, zi wq]) (qV (zi (cntV tn fn (sgI (fun b => BF b 6) fn) rn (popI (rset RB rn)) wq))) 0 0 (fun _ => False) := by
  refine P_of (own := RX11) (cc := cX11_count) (maxL := 2) (ret := some .int) (by decide) rfl rfl (Nat.le_of_ble_eq_true rfl) (fun p e s m below meth c ls hx hb hr hC hlocks hPr hG hl => ?_)
  have hC0 := hC
  obtain ⟨-, -, hml, hown, hts⟩ := hC0
  have hK := hG.1
  have hinX11 : ∀ w ∈ wsX110, w ∈ wsX11_count := fun _ h => List.mem_cons_of_mem _ (List.mem_append_left _ (List.mem_append_left _ (List.mem_append_left _ (List.mem_append_left _ (List.mem_append_right _ h)))))
  have hinX10 : ∀ w ∈ wsX100, w ∈ wsX11_count := fun _ h => List.mem_cons_of_mem _ (List.mem_append_left _ (List.mem_append_left _ (List.mem_append_left _ (List.mem_append_right _ h))))
  have hinX4 : ∀ w ∈ wsX40, w ∈ wsX11_count := fun _ h => List.mem_cons_of_mem _ (List.mem_append_left _ (List.mem_append_left _ (List.mem_append_right _ h)))
  have hinX8 : ∀ w ∈ wsX80, w ∈ wsX11_count := fun _ h => List.mem_cons_of_mem _ (List.mem_append_left _ (List.mem_append_right _ h))
  have k1 := hts (.fieldLink RX11 10 "BoatsOfPaper" "theText" "LBoatsOfPaper$Text;") (List.mem_of_getElem? (i := 1) rfl)
  have k2 := hts (.fieldLink RX11 76 "BoatsOfPaper$Text" "length" "I") (List.mem_of_getElem? (i := 2) rfl)
  have k3 := hts (.fieldLink RX11 26 "BoatsOfPaper" "theFleet" "LBoatsOfPaper$Fleet;") (List.mem_of_getElem? (i := 3) rfl)
  have k4 := hts (.fieldLink RX11 254 "BoatsOfPaper$Fleet" "size" "I") (List.mem_of_getElem? (i := 4) rfl)
  have k5 := hts (.fieldLink RX11 33 "BoatsOfPaper" "theRuns" "LBoatsOfPaper$Runs;") (List.mem_of_getElem? (i := 5) rfl)
  have k6 := hts (.fieldLink RX11 281 "BoatsOfPaper$Runs" "size" "I") (List.mem_of_getElem? (i := 6) rfl)
  have hl : lv_has ls 2 [(0, .ref x0), (1, zi wq)] := hl
  refine lv_iload_n hx hb dX11_count_0 rfl (lv_at hl 1 rfl) ?_
  by_cases c1_0 : wq = 0
  · refine lv_tableIn (off := 35) (tgt := 36) hx hb dX11_count_1 (by rw [iI_t (by omega), c1_0]; decide) (by rw [iI_t (by omega), c1_0]; decide) (by rw [iI_t (by omega), c1_0]; rfl) (by decide) ?_
    refine lv_aload_n hx hb dX11_count_36 rfl (lv_at hl 0 rfl) ?_
    refine va_get hx hb hts hinX11 hown hK hPr 0 rfl rfl 0 (by decide) k1 (fun _ h => h) rfl dX11_count_37 ?_
    refine va_get hx hb hts hinX10 hown hK hPr 1 rfl rfl 1 (by decide) k2 (fun _ h => h) rfl dX11_count_40 ?_
    exact z_iret0 hx hb hr hlocks (by unfold cntV; (repeat' split) <;> omega) dX11_count_43
  by_cases c1_1 : wq = 1
  · refine lv_tableIn (off := 43) (tgt := 44) hx hb dX11_count_1 (by rw [iI_t (by omega), c1_1]; decide) (by rw [iI_t (by omega), c1_1]; decide) (by rw [iI_t (by omega), c1_1]; rfl) (by decide) ?_
    refine lv_aload_n hx hb dX11_count_44 rfl (lv_at hl 0 rfl) ?_
    refine va_get hx hb hts hinX11 hown hK hPr 0 rfl rfl 2 (by decide) k3 (fun _ h => h) rfl dX11_count_45 ?_
    refine va_get hx hb hts hinX4 hown hK hPr 3 rfl rfl 1 (by decide) k4 (fun _ h => h) rfl dX11_count_48 ?_
    exact z_iret0 hx hb hr hlocks (by unfold cntV; (repeat' split) <;> omega) dX11_count_51
  by_cases c1_2 : wq = 2
  · refine lv_tableIn (off := 51) (tgt := 52) hx hb dX11_count_1 (by rw [iI_t (by omega), c1_2]; decide) (by rw [iI_t (by omega), c1_2]; decide) (by rw [iI_t (by omega), c1_2]; rfl) (by decide) ?_
    refine lv_aload_n hx hb dX11_count_52 rfl (lv_at hl 0 rfl) ?_
    refine va_get hx hb hts hinX11 hown hK hPr 0 rfl rfl 2 (by decide) k3 (fun _ h => h) rfl dX11_count_53 ?_
    refine z_pV (As := []) (rest := []) hC (c_X4_allCoins l D y f0 fa fn fr bh ba bb bc BF (by first | assumption | omega) (by first | assumption | omega)) (cwV 0 hts gX11_count_X4_allCoins rfl rfl rfl (by decide +kernel) ⟨Nat.le_of_ble_eq_true rfl, Nat.le_of_ble_eq_true rfl⟩) hG (hPr.sub (ws' := [(f0, .inr (4, [.ref fa, zi fn])), (fa, .inl (y 3, 6, .inr (.inr (.inr (.inr fr))))), ((bh 0), .inr (1, [zi (BF 0 0), zi (BF 0 1), zi (BF 0 2), zi (BF 0 3), zi (BF 0 4), zi (BF 0 5), zi (BF 0 6), .ref (ba 0), .ref (bb 0), .ref (bc 0)])), ((bh 1), .inr (1, [zi (BF 1 0), zi (BF 1 1), zi (BF 1 2), zi (BF 1 3), zi (BF 1 4), zi (BF 1 5), zi (BF 1 6), .ref (ba 1), .ref (bb 1), .ref (bc 1)])), ((bh 2), .inr (1, [zi (BF 2 0), zi (BF 2 1), zi (BF 2 2), zi (BF 2 3), zi (BF 2 4), zi (BF 2 5), zi (BF 2 6), .ref (ba 2), .ref (bb 2), .ref (bc 2)])), ((bh 3), .inr (1, [zi (BF 3 0), zi (BF 3 1), zi (BF 3 2), zi (BF 3 3), zi (BF 3 4), zi (BF 3 5), zi (BF 3 6), .ref (ba 3), .ref (bb 3), .ref (bc 3)])), ((bh 4), .inr (1, [zi (BF 4 0), zi (BF 4 1), zi (BF 4 2), zi (BF 4 3), zi (BF 4 4), zi (BF 4 5), zi (BF 4 6), .ref (ba 4), .ref (bb 4), .ref (bc 4)])), ((bh 5), .inr (1, [zi (BF 5 0), zi (BF 5 1), zi (BF 5 2), zi (BF 5 3), zi (BF 5 4), zi (BF 5 5), zi (BF 5 6), .ref (ba 5), .ref (bb 5), .ref (bc 5)]))]) [3, 4, 5, 6, 7, 8, 9, 10] rfl) 0 rfl rfl rfl hl.1 rfl (Nat.le_of_ble_eq_true rfl) dX11_count_56 ⟨Nat.le_of_ble_eq_true rfl, Nat.le_of_ble_eq_true rfl⟩ ?_
    exact z_iret0 hx hb hr hlocks (by unfold cntV; (repeat' split) <;> omega) dX11_count_59
  by_cases c1_3 : wq = 3
  · refine lv_tableIn (off := 59) (tgt := 60) hx hb dX11_count_1 (by rw [iI_t (by omega), c1_3]; decide) (by rw [iI_t (by omega), c1_3]; decide) (by rw [iI_t (by omega), c1_3]; rfl) (by decide) ?_
    refine lv_aload_n hx hb dX11_count_60 rfl (lv_at hl 0 rfl) ?_
    refine va_get hx hb hts hinX11 hown hK hPr 0 rfl rfl 3 (by decide) k5 (fun _ h => h) rfl dX11_count_61 ?_
    refine va_get hx hb hts hinX8 hown hK hPr 11 rfl rfl 2 (by decide) k6 (fun _ h => h) rfl dX11_count_64 ?_
    exact z_iret0 hx hb hr hlocks (by unfold cntV; (repeat' split) <;> omega) dX11_count_67
  by_cases c1_4 : wq = 4
  · refine lv_tableIn (off := 67) (tgt := 68) hx hb dX11_count_1 (by rw [iI_t (by omega), c1_4]; decide) (by rw [iI_t (by omega), c1_4]; decide) (by rw [iI_t (by omega), c1_4]; rfl) (by decide) ?_
    refine lv_aload_n hx hb dX11_count_68 rfl (lv_at hl 0 rfl) ?_
    refine va_get hx hb hts hinX11 hown hK hPr 0 rfl rfl 3 (by decide) k5 (fun _ h => h) rfl dX11_count_69 ?_
    refine z_pV (As := []) (rest := []) hC (c_X8_reds l D y r0 rl rr rn rk ra RF RB (by first | assumption | omega)) (cwV 0 hts gX11_count_X8_reds rfl rfl rfl (by decide +kernel) ⟨Nat.le_of_ble_eq_true rfl, Nat.le_of_ble_eq_true rfl⟩) hG (hPr.sub (ws' := [(r0, .inr (7, [.ref rl, .ref rr, zi rn, zi rk, zi ra])), (rl, .inl (y 0, 12, .inl (cI RF))), (rr, .inl (y 2, 12, .inl (cI RB)))]) [11, 12, 13] rfl) 0 rfl rfl rfl hl.1 rfl (Nat.le_of_ble_eq_true rfl) dX11_count_72 ⟨Nat.le_of_ble_eq_true rfl, Nat.le_of_ble_eq_true rfl⟩ ?_
    exact z_iret0 hx hb hr hlocks (by unfold cntV; (repeat' split) <;> omega) dX11_count_75
  refine lv_tableOut (tgt := 76) hx hb dX11_count_1 (by rw [iI_t (by omega)]; omega) (by decide) ?_
  refine z_bipush hx hb dX11_count_76 (by decide) ?_
  exact z_iret0 hx hb hr hlocks (by unfold cntV; (repeat' split) <;> omega) dX11_count_78
