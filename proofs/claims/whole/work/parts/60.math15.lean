/-! ===== class and reference hold the same ===== -/
theorem bstF_congr {f g : Int → Int} : ∀ n : Nat, (∀ j : Int, 0 ≤ j → j ≤ n → f j = g j) → bstF f n = bstF g n
  | 0, _ => rfl
  | n + 1, h => by
    have ih := bstF_congr n (fun j a b => h j a (by omega))
    have b := bstF_bd g n
    show (if f (bstF f n) < f ((n : Int) + 1) then (n : Int) + 1 else bstF f n) = (if g (bstF g n) < g ((n : Int) + 1) then (n : Int) + 1 else bstF g n)
    rw [ih, h (bstF g n) b.1 (by omega), h ((n : Int) + 1) (by omega) (by omega)]
-- the text
def IT (tn : Int) (TB MT : Int → Int) : Prop := tOK tn TB ∧ tOK tn MT ∧ ∀ j : Int, 0 ≤ j → j < tn → TB j = MT j
theorem IT_write {tn nq vq : Int} {TB MT TB2 MT2 : Int → Int} (h : IT tn TB MT) (hn : 1 ≤ nq ∧ tn + nq ≤ 40) (h1 : ∀ j : Int, TB2 j = if tn ≤ j ∧ j < tn + nq then byteV vq (nq - 1 - (j - tn)) else TB j) (h2 : ∀ j : Int, MT2 j = if tn ≤ j ∧ j < tn + nq then byteV vq (nq - 1 - (j - tn)) else MT j) : IT (tn + nq) TB2 MT2 := by
  obtain ⟨⟨a1, a2⟩, ⟨b1, b2⟩, c⟩ := h
  refine ⟨⟨by omega, fun k k0 k1 => ?_⟩, ⟨by omega, fun k k0 k1 => ?_⟩, fun j j0 j1 => ?_⟩
  · rw [h1 k]
    by_cases q : tn ≤ k ∧ k < tn + nq
    · rw [if_pos q]; exact byteV_bd _ _
    · rw [if_neg q]; exact a2 k k0 (by omega)
  · rw [h2 k]
    by_cases q : tn ≤ k ∧ k < tn + nq
    · rw [if_pos q]; exact byteV_bd _ _
    · rw [if_neg q]; exact b2 k k0 (by omega)
  · rw [h1 j, h2 j]
    by_cases q : tn ≤ j ∧ j < tn + nq
    · rw [if_pos q, if_pos q]
    · rw [if_neg q, if_neg q]; exact c j j0 (by omega)
theorem IT_wipe {TB MT : Int → Int} : IT 0 TB MT := ⟨⟨by omega, fun k a b => by omega⟩, ⟨by omega, fun k a b => by omega⟩, fun j a b => by omega⟩
theorem IT_fault {tn : Int} {TB MT : Int → Int} (h : IT tn TB MT) : faultV tn TB = faultV tn MT := faultV_congr h.1.1.1 h.2.2
-- the gutter
def IG (gl gp gx gy : Int) (GK MG : Int → Int) : Prop := gOK gl gp gx gy GK ∧ gOK gl gp gx gy MG ∧ kAt gl gp GK = kAt gl gp MG
theorem IG_mishap {gl gp gx gy xq yq : Int} {GK MG : Int → Int} (h : IG gl gp gx gy GK MG) (hq : 0 ≤ xq ∧ xq ≤ 9 ∧ 0 ≤ yq ∧ yq ≤ 9) : IG gl gp xq yq GK MG := ⟨⟨h.1.1, h.1.2.1, ⟨hq.1, hq.2.1⟩, ⟨hq.2.2.1, hq.2.2.2⟩, h.1.2.2.2.2⟩, ⟨h.2.1.1, h.2.1.2.1, ⟨hq.1, hq.2.1⟩, ⟨hq.2.2.1, hq.2.2.2⟩, h.2.1.2.2.2.2⟩, h.2.2⟩
theorem IG_gutter {tn gl gp gx gy gl2 gp2 ml2 mp2 : Int} {TB MT GK MG MR GK2 MR2 MG2 : Int → Int} (h : IG gl gp gx gy GK MG) (hT : IT tn TB MT) (hf : faultV tn TB = -9) (h1 : gf TB tn.toNat 0 0 0 GK = (gl2 - 1, gp2, GK2)) (h2 : gf MT tn.toNat 0 0 0 MR = (ml2 - 1, mp2, MR2)) (h3 : ∀ j : Int, 0 ≤ j → j < 36 → MG2 j = MR2 j) : ml2 = gl2 ∧ mp2 = gp2 ∧ IG gl2 gp2 gx gy GK2 MG2 := by
  obtain ⟨l2, p2, R, R', e1, e2, b1, b2, b3⟩ := gut_agree hf GK MR
  have t0 := hT.1.1.1
  have e3 := gf_congr (T := TB) (T' := MT) hT.2.2 tn.toNat 0 0 0 MR (by omega) (by omega)
  rw [e1] at h1
  rw [← e3, e2] at h2
  obtain ⟨x1, y1⟩ := Prod.mk.inj h1
  obtain ⟨x2, y2⟩ := Prod.mk.inj y1
  obtain ⟨x3, y3⟩ := Prod.mk.inj h2
  obtain ⟨x4, y4⟩ := Prod.mk.inj y3
  subst x2 y2 x4 y4
  refine ⟨by omega, rfl, ⟨by omega, by omega, h.1.2.2.1, h.1.2.2.2.1, fun a b a0 a1 b0 b1 => (b3 a b a0 (by omega) b0 b1).2⟩, ⟨by omega, by omega, h.1.2.2.1, h.1.2.2.2.1, fun a b a0 a1 b0 b1 => ?_⟩, kAt_congr (fun a b a0 a1 b0 b1 => ?_)⟩
  · have z := b3 a b a0 (by omega) b0 b1
    rw [h3 (12 * a + b) (by omega) (by omega), ← z.1]
    exact z.2
  · rw [h3 (12 * a + b) (by omega) (by omega)]
    exact (b3 a b a0 (by omega) b0 b1).1
theorem IG_place {gl gp gx gy : Int} {GK MG : Int → Int} (h : IG gl gp gx gy GK MG) (la pl : Int) : (if 0 ≤ la ∧ la < gl ∧ 0 ≤ pl ∧ pl < gp then GK (12 * la + pl) else -1) = (if 0 ≤ la ∧ la < gl ∧ 0 ≤ pl ∧ pl < gp then MG (12 * la + pl) else -1) := by
  by_cases q : 0 ≤ la ∧ la < gl ∧ 0 ≤ pl ∧ pl < gp
  · rw [if_pos q, if_pos q]
    have z : kAt gl gp GK la pl = kAt gl gp MG la pl := by rw [h.2.2]
    unfold kAt at z
    rw [if_pos q, if_pos q] at z
    exact z
  · rw [if_neg q, if_neg q]
-- the boats
def IFl (fn : Int) (BF FI FJ FW : Int → Int → Int) (MB MC : Int → Int) : Prop := (0 ≤ fn ∧ fn ≤ 6) ∧ ∀ k : Int, 0 ≤ k → k < fn → bOK (BF k 0) (BF k 1) (BF k 2) (BF k 3) (BF k 4) (BF k 5) (BF k 6) (FI k) (FJ k) (FW k) ∧ (MB (7 * k) = BF k 0 ∧ MB (7 * k + 1) = BF k 1 ∧ MB (7 * k + 2) = BF k 2 ∧ MB (7 * k + 3) = BF k 3 ∧ MB (7 * k + 4) = BF k 4 ∧ MB (7 * k + 5) = BF k 5 ∧ MB (7 * k + 6) = BF k 6) ∧ (∀ c : Int, 0 ≤ c → c < BF k 6 → FI k c = mCI MC k c) ∧ (∀ c : Int, 0 ≤ c → c < BF k 6 → FJ k c = mCJ MC k c) ∧ (∀ c : Int, 0 ≤ c → c < BF k 6 → FW k c = mCW MC k c)
theorem IFl_m {fn : Int} {BF FI FJ FW : Int → Int → Int} {MB MC : Int → Int} (h : IFl fn BF FI FJ FW MB MC) : mbOK fn MB MC := ⟨h.1, fun k k0 k1 => by
  obtain ⟨hB, ⟨e0, e1, e2, e3, e4, e5, e6⟩, c1, c2, c3⟩ := h.2 k k0 k1
  rw [e0, e1, e2, e3, e4, e5, e6]
  exact bOK_congr c1 c2 c3 hB⟩
theorem IFl_x {fn : Int} {BF FI FJ FW : Int → Int → Int} {MB MC : Int → Int} (h : IFl fn BF FI FJ FW MB MC) : ∀ k : Int, 0 ≤ k → k < fn → bOK (BF k 0) (BF k 1) (BF k 2) (BF k 3) (BF k 4) (BF k 5) (BF k 6) (FI k) (FJ k) (FW k) := fun k a b => (h.2 k a b).1
theorem IFl_life {fn : Int} {BF FI FJ FW : Int → Int → Int} {MB MC : Int → Int} (h : IFl fn BF FI FJ FW MB MC) (k : Int) (k0 : 0 ≤ k) (k1 : k < fn) : xLife BF FI FJ FW k = mLife MB MC k := by
  obtain ⟨hB, ⟨e0, e1, e2, e3, e4, e5, e6⟩, c1, c2, c3⟩ := h.2 k k0 k1
  unfold xLife mLife
  rw [e0, e1, e2, e3, e4, e5, e6]
  exact lifeV_congr c1 c2 c3
theorem IFl_all {fn : Int} {BF FI FJ FW : Int → Int → Int} {MB MC : Int → Int} (h : IFl fn BF FI FJ FW MB MC) : sgI (fun b => BF b 6) fn = sgI (fun b => MB (7 * b + 6)) fn := sgI_congr (fun k a b => (h.2 k a b).2.1.2.2.2.2.2.2.symm)
def bset (BF : Int → Int → Int) (k v0 v1 v2 v3 v4 v5 v6 : Int) : Int → Int → Int := fun b j => if b = k then (if j = 0 then v0 else if j = 1 then v1 else if j = 2 then v2 else if j = 3 then v3 else if j = 4 then v4 else if j = 5 then v5 else v6) else BF b j
def cset (F : Int → Int → Int) (k : Int) (G : Int → Int) : Int → Int → Int := fun b j => if b = k then G j else F b j
section BST
variable {BF F : Int → Int → Int} {G : Int → Int} {k b v0 v1 v2 v3 v4 v5 v6 : Int}
theorem bset_n (h : b ≠ k) (j : Int) : bset BF k v0 v1 v2 v3 v4 v5 v6 b j = BF b j := if_neg h
theorem bset_0 : bset BF k v0 v1 v2 v3 v4 v5 v6 k 0 = v0 := by unfold bset; rw [if_pos rfl]; rfl
theorem bset_1 : bset BF k v0 v1 v2 v3 v4 v5 v6 k 1 = v1 := by unfold bset; rw [if_pos rfl]; rfl
theorem bset_2 : bset BF k v0 v1 v2 v3 v4 v5 v6 k 2 = v2 := by unfold bset; rw [if_pos rfl]; rfl
theorem bset_3 : bset BF k v0 v1 v2 v3 v4 v5 v6 k 3 = v3 := by unfold bset; rw [if_pos rfl]; rfl
theorem bset_4 : bset BF k v0 v1 v2 v3 v4 v5 v6 k 4 = v4 := by unfold bset; rw [if_pos rfl]; rfl
theorem bset_5 : bset BF k v0 v1 v2 v3 v4 v5 v6 k 5 = v5 := by unfold bset; rw [if_pos rfl]; rfl
theorem bset_6 : bset BF k v0 v1 v2 v3 v4 v5 v6 k 6 = v6 := by unfold bset; rw [if_pos rfl]; rfl
theorem cset_n (h : b ≠ k) : cset F k G b = F b := by funext j; exact if_neg h
theorem cset_e : cset F k G k = G := by funext j; exact if_pos rfl
end BST
/-- one boat's numbers are set; its coins stay, or fewer count -/
theorem IFl_set {fn k v0 v1 v2 v3 v4 v5 v6 : Int} {BF FI FJ FW : Int → Int → Int} {MB MC MB2 : Int → Int} (h : IFl fn BF FI FJ FW MB MC) (hk : 0 ≤ k ∧ k < fn) (hB : bOK v0 v1 v2 v3 v4 v5 v6 (FI k) (FJ k) (FW k)) (hn : v6 ≤ BF k 6) (ho : ∀ j : Int, ¬ (7 * k ≤ j ∧ j < 7 * k + 7) → MB2 j = MB j) (hm : MB2 (7 * k) = v0 ∧ MB2 (7 * k + 1) = v1 ∧ MB2 (7 * k + 2) = v2 ∧ MB2 (7 * k + 3) = v3 ∧ MB2 (7 * k + 4) = v4 ∧ MB2 (7 * k + 5) = v5 ∧ MB2 (7 * k + 6) = v6) : IFl fn (bset BF k v0 v1 v2 v3 v4 v5 v6) FI FJ FW MB2 MC := by
  refine ⟨h.1, fun b b0 b1 => ?_⟩
  obtain ⟨x0, x1, x2, x3, x4⟩ := h.2 b b0 b1
  by_cases e : b = k
  · subst e
    rw [bset_0, bset_1, bset_2, bset_3, bset_4, bset_5, bset_6]
    exact ⟨hB, hm, fun c c0 c1 => x2 c c0 (by omega), fun c c0 c1 => x3 c c0 (by omega), fun c c0 c1 => x4 c c0 (by omega)⟩
  · simp only [bset_n e]
    refine ⟨x0, ?_, x2, x3, x4⟩
    rw [ho (7 * b) (by omega), ho (7 * b + 1) (by omega), ho (7 * b + 2) (by omega), ho (7 * b + 3) (by omega), ho (7 * b + 4) (by omega), ho (7 * b + 5) (by omega), ho (7 * b + 6) (by omega)]
    exact x1
theorem IFl_boat {fn xl xw xt xh : Int} {BF FI FJ FW : Int → Int → Int} {MB MC MB2 : Int → Int} (h : IFl fn BF FI FJ FW MB MC) (hf : fn < 6) (hq : (3 ≤ xl ∧ xl ≤ 20) ∧ (3 ≤ xw ∧ xw ≤ 20) ∧ (1 ≤ xt ∧ xt ≤ 9) ∧ 1 ≤ xh ∧ xh ≤ 9 ∧ 1 ≤ xl - 2 * xh ∧ 1 ≤ xw - 2 * xh) (hp : (∀ j : Int, ¬ (7 * fn ≤ j ∧ j < 7 * fn + 7) → MB2 j = MB j) ∧ MB2 (7 * fn) = xl ∧ MB2 (7 * fn + 1) = xw ∧ MB2 (7 * fn + 2) = xt ∧ MB2 (7 * fn + 3) = xh ∧ MB2 (7 * fn + 4) = 10 ∧ MB2 (7 * fn + 5) = 0 ∧ MB2 (7 * fn + 6) = 0) : IFl (fn + 1) (bset BF fn xl xw xt xh 10 0 0) FI FJ FW MB2 MC := by
  obtain ⟨ho, hm⟩ := hp
  obtain ⟨h1, h2⟩ := h
  refine ⟨by omega, fun b b0 b1 => ?_⟩
  by_cases e : b = fn
  · subst e
    rw [bset_0, bset_1, bset_2, bset_3, bset_4, bset_5, bset_6]
    exact ⟨⟨hq.1, hq.2.1, hq.2.2.1, ⟨hq.2.2.2.1, hq.2.2.2.2.1⟩, hq.2.2.2.2.2.1, hq.2.2.2.2.2.2, by omega, by omega, by omega, fun c c0 c1 => by omega⟩, hm, fun c c0 c1 => by omega, fun c c0 c1 => by omega, fun c c0 c1 => by omega⟩
  · obtain ⟨x0, x1, x2, x3, x4⟩ := h2 b b0 (by omega)
    simp only [bset_n e]
    refine ⟨x0, ?_, x2, x3, x4⟩
    rw [ho (7 * b) (by omega), ho (7 * b + 1) (by omega), ho (7 * b + 2) (by omega), ho (7 * b + 3) (by omega), ho (7 * b + 4) (by omega), ho (7 * b + 5) (by omega), ho (7 * b + 6) (by omega)]
    exact x1
theorem IFl_wax {fn k dr wx : Int} {BF FI FJ FW : Int → Int → Int} {MB MC MB2 : Int → Int} (h : IFl fn BF FI FJ FW MB MC) (hk : 0 ≤ k ∧ k < fn) (hq : (0 ≤ dr ∧ dr ≤ 99) ∧ 0 ≤ wx ∧ wx ≤ 9) (hp : MB2 = iu (iu MB (7 * k + 4) dr) (7 * k + 5) wx) : IFl fn (bset BF k (BF k 0) (BF k 1) (BF k 2) (BF k 3) dr wx (BF k 6)) FI FJ FW MB2 MC := by
  obtain ⟨x0, ⟨e0, e1, e2, e3, e4, e5, e6⟩, x2, x3, x4⟩ := h.2 k hk.1 hk.2
  obtain ⟨q1, q2, q3, q4, q5, q6, q7, q8, q9, qc⟩ := x0
  subst hp
  refine IFl_set h hk ⟨q1, q2, q3, q4, q5, q6, hq.1, hq.2, q9, qc⟩ (by omega) (fun j hj => ?_) ⟨?_, ?_, ?_, ?_, ?_, ?_, ?_⟩
  · rw [iu_n (by omega), iu_n (by omega)]
  · rw [iu_n (by omega), iu_n (by omega), e0]
  · rw [iu_n (by omega), iu_n (by omega), e1]
  · rw [iu_n (by omega), iu_n (by omega), e2]
  · rw [iu_n (by omega), iu_n (by omega), e3]
  · rw [iu_n (by omega), iu_s]
  · rw [iu_s]
  · rw [iu_n (by omega), iu_n (by omega), e6]
theorem IFl_empty {fn k : Int} {BF FI FJ FW : Int → Int → Int} {MB MC MB2 : Int → Int} (h : IFl fn BF FI FJ FW MB MC) (hk : 0 ≤ k ∧ k < fn) (hp : MB2 = iu MB (7 * k + 6) 0) : IFl fn (bset BF k (BF k 0) (BF k 1) (BF k 2) (BF k 3) (BF k 4) (BF k 5) 0) FI FJ FW MB2 MC := by
  obtain ⟨x0, ⟨e0, e1, e2, e3, e4, e5, e6⟩, x2, x3, x4⟩ := h.2 k hk.1 hk.2
  obtain ⟨q1, q2, q3, q4, q5, q6, q7, q8, q9, qc⟩ := x0
  subst hp
  refine IFl_set h hk ⟨q1, q2, q3, q4, q5, q6, q7, q8, by omega, fun c c0 c1 => by omega⟩ (by omega) (fun j hj => ?_) ⟨?_, ?_, ?_, ?_, ?_, ?_, ?_⟩
  · rw [iu_n (by omega)]
  · rw [iu_n (by omega), e0]
  · rw [iu_n (by omega), e1]
  · rw [iu_n (by omega), e2]
  · rw [iu_n (by omega), e3]
  · rw [iu_n (by omega), e4]
  · rw [iu_n (by omega), e5]
  · rw [iu_s]
theorem IFl_coin {fn k ci cj cw : Int} {BF FI FJ FW : Int → Int → Int} {MB MC MB2 MC2 : Int → Int} (h : IFl fn BF FI FJ FW MB MC) (hk : 0 ≤ k ∧ k < fn) (hq : (0 ≤ ci ∧ ci < (BF k 0 - 2 * BF k 3)) ∧ (0 ≤ cj ∧ cj < (BF k 1 - 2 * BF k 3)) ∧ 1 ≤ cw ∧ cw ≤ 99) (hf : BF k 6 < 8) (hp : MB2 = iu MB (7 * k + 6) (MB (7 * k + 6) + 1) ∧ MC2 = iu (iu (iu MC (24 * k + 3 * MB (7 * k + 6)) ci) (24 * k + 3 * MB (7 * k + 6) + 1) cj) (24 * k + 3 * MB (7 * k + 6) + 2) cw) : IFl fn (bset BF k (BF k 0) (BF k 1) (BF k 2) (BF k 3) (BF k 4) (BF k 5) (BF k 6 + 1)) (cset FI k (iu (FI k) (BF k 6) ci)) (cset FJ k (iu (FJ k) (BF k 6) cj)) (cset FW k (iu (FW k) (BF k 6) cw)) MB2 MC2 := by
  obtain ⟨h1, h2⟩ := h
  obtain ⟨x0, ⟨e0, e1, e2, e3, e4, e5, e6⟩, x2, x3, x4⟩ := h2 k hk.1 hk.2
  obtain ⟨q1, q2, q3, q4, q5, q6, q7, q8, q9, qc⟩ := x0
  obtain ⟨p1, p2⟩ := hp
  rw [e6] at p1 p2
  subst p1 p2
  refine ⟨h1, fun b b0 b1 => ?_⟩
  by_cases e : b = k
  · subst e
    rw [bset_0, bset_1, bset_2, bset_3, bset_4, bset_5, bset_6, cset_e, cset_e, cset_e]
    refine ⟨⟨q1, q2, q3, q4, q5, q6, q7, q8, by omega, fun c c0 c1 => ?_⟩, ⟨?_, ?_, ?_, ?_, ?_, ?_, ?_⟩, fun c c0 c1 => ?_, fun c c0 c1 => ?_, fun c c0 c1 => ?_⟩
    · by_cases z : c = BF b 6
      · rw [iu_e z, iu_e z, iu_e z]; omega
      · rw [iu_n z, iu_n z, iu_n z]; exact qc c c0 (by omega)
    · rw [iu_n (by omega), e0]
    · rw [iu_n (by omega), e1]
    · rw [iu_n (by omega), e2]
    · rw [iu_n (by omega), e3]
    · rw [iu_n (by omega), e4]
    · rw [iu_n (by omega), e5]
    · rw [iu_s]
    · unfold mCI
      by_cases z : c = BF b 6
      · rw [iu_e z, iu_n (by omega), iu_n (by omega), iu_e (by omega)]
      · rw [iu_n z, iu_n (by omega), iu_n (by omega), iu_n (by omega)]; exact x2 c c0 (by omega)
    · unfold mCJ
      by_cases z : c = BF b 6
      · rw [iu_e z, iu_n (by omega), iu_e (by omega)]
      · rw [iu_n z, iu_n (by omega), iu_n (by omega), iu_n (by omega)]; exact x3 c c0 (by omega)
    · unfold mCW
      by_cases z : c = BF b 6
      · rw [iu_e z, iu_e (by omega)]
      · rw [iu_n z, iu_n (by omega), iu_n (by omega), iu_n (by omega)]; exact x4 c c0 (by omega)
  · obtain ⟨y0, y1, y2, y3, y4⟩ := h2 b b0 b1
    have y9 := y0.2.2.2.2.2.2.2.2.1
    simp only [bset_n e, cset_n e]
    refine ⟨y0, ?_, fun c c0 c1 => ?_, fun c c0 c1 => ?_, fun c c0 c1 => ?_⟩
    · rw [iu_n (by omega), iu_n (by omega), iu_n (by omega), iu_n (by omega), iu_n (by omega), iu_n (by omega), iu_n (by omega)]
      exact y1
    · unfold mCI
      rw [iu_n (by omega), iu_n (by omega), iu_n (by omega)]; exact y2 c c0 c1
    · unfold mCJ
      rw [iu_n (by omega), iu_n (by omega), iu_n (by omega)]; exact y3 c c0 c1
    · unfold mCW
      rw [iu_n (by omega), iu_n (by omega), iu_n (by omega)]; exact y4 c c0 c1
theorem IFl_copy {fn : Int} {BF FI FJ FW BF2 FI2 FJ2 FW2 : Int → Int → Int} {MB MC MB2 MC2 : Int → Int} (h : IFl fn BF FI FJ FW MB MC) (hp : ∀ k : Int, 0 ≤ k → k < fn → (∀ j : Int, 0 ≤ j → j < 7 → BF2 k j = BF k j) ∧ (∀ j : Int, 0 ≤ j → j < BF k 6 → FI2 k j = FI k j) ∧ (∀ j : Int, 0 ≤ j → j < BF k 6 → FJ2 k j = FJ k j) ∧ (∀ j : Int, 0 ≤ j → j < BF k 6 → FW2 k j = FW k j)) (h1 : ∀ j : Int, 0 ≤ j → j < 42 → MB2 j = MB j) (h2 : ∀ j : Int, 0 ≤ j → j < 144 → MC2 j = MC j) : IFl fn BF2 FI2 FJ2 FW2 MB2 MC2 := by
  obtain ⟨a1, a2⟩ := h
  refine ⟨a1, fun k k0 k1 => ?_⟩
  obtain ⟨x0, x1, x2, x3, x4⟩ := a2 k k0 k1
  obtain ⟨p1, p2, p3, p4⟩ := hp k k0 k1
  have y9 := x0.2.2.2.2.2.2.2.2.1
  rw [p1 0 (by omega) (by omega), p1 1 (by omega) (by omega), p1 2 (by omega) (by omega), p1 3 (by omega) (by omega), p1 4 (by omega) (by omega), p1 5 (by omega) (by omega), p1 6 (by omega) (by omega)]
  refine ⟨bOK_congr (fun c c0 c1 => (p2 c c0 c1).symm) (fun c c0 c1 => (p3 c c0 c1).symm) (fun c c0 c1 => (p4 c c0 c1).symm) x0, ?_, fun c c0 c1 => ?_, fun c c0 c1 => ?_, fun c c0 c1 => ?_⟩
  · rw [h1 (7 * k) (by omega) (by omega), h1 (7 * k + 1) (by omega) (by omega), h1 (7 * k + 2) (by omega) (by omega), h1 (7 * k + 3) (by omega) (by omega), h1 (7 * k + 4) (by omega) (by omega), h1 (7 * k + 5) (by omega) (by omega), h1 (7 * k + 6) (by omega) (by omega)]
    exact x1
  · unfold mCI
    rw [h2 (24 * k + 3 * c) (by omega) (by omega), p2 c c0 c1]; exact x2 c c0 c1
  · unfold mCJ
    rw [h2 (24 * k + 3 * c + 1) (by omega) (by omega), p3 c c0 c1]; exact x3 c c0 c1
  · unfold mCW
    rw [h2 (24 * k + 3 * c + 2) (by omega) (by omega), p4 c c0 c1]; exact x4 c c0 c1
theorem cp_rf {fn : Int} {BF FI FJ FW : Int → Int → Int} : ∀ k : Int, 0 ≤ k → k < fn → (∀ j : Int, 0 ≤ j → j < 7 → BF k j = BF k j) ∧ (∀ j : Int, 0 ≤ j → j < BF k 6 → FI k j = FI k j) ∧ (∀ j : Int, 0 ≤ j → j < BF k 6 → FJ k j = FJ k j) ∧ (∀ j : Int, 0 ≤ j → j < BF k 6 → FW k j = FW k j) := fun _ _ _ => ⟨fun _ _ _ => rfl, fun _ _ _ => rfl, fun _ _ _ => rfl, fun _ _ _ => rfl⟩
-- the runs
def IR (rn : Int) (RF RB MF MRd : Int → Int) : Prop := rOK rn RF RB ∧ rOK rn MF MRd ∧ (∀ j : Int, 0 ≤ j → j < rn → RF j = MF j) ∧ (∀ j : Int, 0 ≤ j → j < rn → RB j = MRd j) ∧ ∀ j : Int, 0 ≤ j → j < 12 → MRd j = 0 ∨ MRd j = 1
theorem IR_run {rn xf xr : Int} {RF RB MF MRd : Int → Int} (h : IR rn RF RB MF MRd) (hn : rn < 12) (hx : 0 ≤ xf ∧ xf ≤ 99) (hr : xr = 0 ∨ xr = 1) : IR (rn + 1) (iu RF rn xf) (iu RB rn xr) (iu MF rn xf) (iu MRd rn xr) := by
  obtain ⟨⟨a1, a2⟩, ⟨b1, b2⟩, c1, c2, c3⟩ := h
  refine ⟨⟨by omega, fun k k0 k1 => ?_⟩, ⟨by omega, fun k k0 k1 => ?_⟩, fun k k0 k1 => ?_, fun k k0 k1 => ?_, fun k k0 k1 => ?_⟩
  · by_cases e : k = rn
    · rw [iu_e e, iu_e e]; exact ⟨hx, hr⟩
    · rw [iu_n e, iu_n e]; exact a2 k k0 (by omega)
  · by_cases e : k = rn
    · rw [iu_e e, iu_e e]; exact ⟨hx, hr⟩
    · rw [iu_n e, iu_n e]; exact b2 k k0 (by omega)
  · by_cases e : k = rn
    · rw [iu_e e, iu_e e]
    · rw [iu_n e, iu_n e]; exact c1 k k0 (by omega)
  · by_cases e : k = rn
    · rw [iu_e e, iu_e e]
    · rw [iu_n e, iu_n e]; exact c2 k k0 (by omega)
  · by_cases e : k = rn
    · rw [iu_e e]; exact hr
    · rw [iu_n e]; exact c3 k k0 k1
theorem IR_unrun {rn : Int} {RF RB MF MRd : Int → Int} (h : IR rn RF RB MF MRd) : IR 0 RF RB MF MRd := ⟨⟨by omega, fun k a b => by omega⟩, ⟨by omega, fun k a b => by omega⟩, fun k a b => by omega, fun k a b => by omega, h.2.2.2.2⟩
theorem IR_copy {rn : Int} {RF RB MF MRd RF2 RB2 MF2 MRd2 : Int → Int} (h : IR rn RF RB MF MRd) (hp : (∀ j : Int, 0 ≤ j → j < rn → RF2 j = RF j) ∧ (∀ j : Int, 0 ≤ j → j < rn → RB2 j = RB j)) (h1 : ∀ j : Int, 0 ≤ j → j < 12 → MF2 j = MF j) (h2 : ∀ j : Int, 0 ≤ j → j < 12 → MRd2 j = MRd j) : IR rn RF2 RB2 MF2 MRd2 := by
  obtain ⟨⟨a1, a2⟩, ⟨b1, b2⟩, c1, c2, c3⟩ := h
  refine ⟨⟨a1, fun k k0 k1 => ?_⟩, ⟨b1, fun k k0 k1 => ?_⟩, fun k k0 k1 => ?_, fun k k0 k1 => ?_, fun k k0 k1 => ?_⟩
  · rw [hp.1 k k0 k1, hp.2 k k0 k1]; exact a2 k k0 k1
  · rw [h1 k k0 (by omega), h2 k k0 (by omega)]; exact b2 k k0 k1
  · rw [hp.1 k k0 k1, h1 k k0 (by omega)]; exact c1 k k0 k1
  · rw [hp.2 k k0 k1, h2 k k0 (by omega)]; exact c2 k k0 k1
  · rw [h2 k k0 k1]; exact c3 k k0 k1
-- what is kept
def IS (sq us kfn : Int) (KF KI KJ KW : Int → Int → Int) (krn : Int) (KRF KRB MIk MKm MKb MKc MKf MKr : Int → Int) : Prop := (us = 0 ∨ us = 1) ∧ MIk sq = us ∧ (∀ j : Int, 0 ≤ j → j < 12 → MKr (12 * sq + j) = 0 ∨ MKr (12 * sq + j) = 1) ∧ (us = 1 → MKm (2 * sq) = kfn ∧ MKm (2 * sq + 1) = krn ∧ IFl kfn KF KI KJ KW (fun j => MKb (42 * sq + j)) (fun j => MKc (144 * sq + j)) ∧ IR krn KRF KRB (fun j => MKf (12 * sq + j)) (fun j => MKr (12 * sq + j)))
def kpP (sq fn rn : Int) (MB MC MF MRd MIk MKm MKb MKc MKf MKr MIk2 MKm2 MKb2 MKc2 MKf2 MKr2 : Int → Int) : Prop := MIk2 = iu MIk sq 1 ∧ MKm2 = iu (iu MKm (2 * sq) fn) (2 * sq + 1) rn ∧ (∀ j : Int, MKb2 j = if 42 * sq ≤ j ∧ j < 42 * sq + 42 then MB (j - 42 * sq) else MKb j) ∧ (∀ j : Int, MKc2 j = if 144 * sq ≤ j ∧ j < 144 * sq + 144 then MC (j - 144 * sq) else MKc j) ∧ (∀ j : Int, MKf2 j = if 12 * sq ≤ j ∧ j < 12 * sq + 12 then MF (j - 12 * sq) else MKf j) ∧ (∀ j : Int, MKr2 j = if 12 * sq ≤ j ∧ j < 12 * sq + 12 then MRd (j - 12 * sq) else MKr j)
theorem IS_keep {sq fn rn : Int} {BF FI FJ FW BF2 FI2 FJ2 FW2 : Int → Int → Int} {RF RB RF2 RB2 MB MC MF MRd MIk MKm MKb MKc MKf MKr MIk2 MKm2 MKb2 MKc2 MKf2 MKr2 : Int → Int} (h : IFl fn BF FI FJ FW MB MC) (hr : IR rn RF RB MF MRd) (hp : ∀ k : Int, 0 ≤ k → k < fn → (∀ j : Int, 0 ≤ j → j < 7 → BF2 k j = BF k j) ∧ (∀ j : Int, 0 ≤ j → j < BF k 6 → FI2 k j = FI k j) ∧ (∀ j : Int, 0 ≤ j → j < BF k 6 → FJ2 k j = FJ k j) ∧ (∀ j : Int, 0 ≤ j → j < BF k 6 → FW2 k j = FW k j)) (hq : (∀ j : Int, 0 ≤ j → j < rn → RF2 j = RF j) ∧ (∀ j : Int, 0 ≤ j → j < rn → RB2 j = RB j)) (hm : kpP sq fn rn MB MC MF MRd MIk MKm MKb MKc MKf MKr MIk2 MKm2 MKb2 MKc2 MKf2 MKr2) : IS sq 1 fn BF2 FI2 FJ2 FW2 rn RF2 RB2 MIk2 MKm2 MKb2 MKc2 MKf2 MKr2 := by
  obtain ⟨m1, m2, m3, m4, m5, m6⟩ := hm
  have n3 : ∀ j : Int, 0 ≤ j → j < 42 → MKb2 (42 * sq + j) = MB j := fun j a b => by rw [m3, if_pos (by omega)]; congr 1; omega
  have n4 : ∀ j : Int, 0 ≤ j → j < 144 → MKc2 (144 * sq + j) = MC j := fun j a b => by rw [m4, if_pos (by omega)]; congr 1; omega
  have n5 : ∀ j : Int, 0 ≤ j → j < 12 → MKf2 (12 * sq + j) = MF j := fun j a b => by rw [m5, if_pos (by omega)]; congr 1; omega
  have n6 : ∀ j : Int, 0 ≤ j → j < 12 → MKr2 (12 * sq + j) = MRd j := fun j a b => by rw [m6, if_pos (by omega)]; congr 1; omega
  refine ⟨Or.inr rfl, ?_, fun j a b => ?_, fun _ => ⟨?_, ?_, IFl_copy h hp n3 n4, IR_copy hr hq n5 n6⟩⟩
  · rw [m1, iu_s]
  · rw [n6 j a b]; exact hr.2.2.2.2 j a b
  · rw [m2, iu_n (by omega), iu_s]
  · rw [m2, iu_s]
theorem IS_other {sq s2 us kfn krn fn rn : Int} {KF KI KJ KW : Int → Int → Int} {KRF KRB MB MC MF MRd MIk MKm MKb MKc MKf MKr MIk2 MKm2 MKb2 MKc2 MKf2 MKr2 : Int → Int} (h : IS s2 us kfn KF KI KJ KW krn KRF KRB MIk MKm MKb MKc MKf MKr) (hn : s2 ≠ sq) (hm : kpP sq fn rn MB MC MF MRd MIk MKm MKb MKc MKf MKr MIk2 MKm2 MKb2 MKc2 MKf2 MKr2) : IS s2 us kfn KF KI KJ KW krn KRF KRB MIk2 MKm2 MKb2 MKc2 MKf2 MKr2 := by
  obtain ⟨m1, m2, m3, m4, m5, m6⟩ := hm
  have n3 : ∀ j : Int, 0 ≤ j → j < 42 → MKb2 (42 * s2 + j) = MKb (42 * s2 + j) := fun j a b => by rw [m3, if_neg (by omega)]
  have n4 : ∀ j : Int, 0 ≤ j → j < 144 → MKc2 (144 * s2 + j) = MKc (144 * s2 + j) := fun j a b => by rw [m4, if_neg (by omega)]
  have n5 : ∀ j : Int, 0 ≤ j → j < 12 → MKf2 (12 * s2 + j) = MKf (12 * s2 + j) := fun j a b => by rw [m5, if_neg (by omega)]
  have n6 : ∀ j : Int, 0 ≤ j → j < 12 → MKr2 (12 * s2 + j) = MKr (12 * s2 + j) := fun j a b => by rw [m6, if_neg (by omega)]
  obtain ⟨a1, a2, a3, a4⟩ := h
  refine ⟨a1, ?_, fun j a b => ?_, fun z => ?_⟩
  · rw [m1, iu_n hn]; exact a2
  · rw [n6 j a b]; exact a3 j a b
  · obtain ⟨b1, b2, b3, b4⟩ := a4 z
    refine ⟨?_, ?_, IFl_copy b3 cp_rf n3 n4, IR_copy b4 ⟨fun _ _ _ => rfl, fun _ _ _ => rfl⟩ n5 n6⟩
    · rw [m2, iu_n (by omega), iu_n (by omega)]; exact b1
    · rw [m2, iu_n (by omega), iu_n (by omega)]; exact b2
theorem IS_01 {us kfn krn vs jfn jrn : Int} {KF KI KJ KW JF JI JJ JW : Int → Int → Int} {KRF KRB JRF JRB MIk MKm MKb MKc MKf MKr : Int → Int} (h0 : IS 0 us kfn KF KI KJ KW krn KRF KRB MIk MKm MKb MKc MKf MKr) (h1 : IS 1 vs jfn JF JI JJ JW jrn JRF JRB MIk MKm MKb MKc MKf MKr) : ∀ j : Int, 0 ≤ j → j < 24 → MKr j = 0 ∨ MKr j = 1 := by
  intro j a b
  by_cases q : j < 12
  · have z := h0.2.2.1 j a q
    rw [show 12 * 0 + j = j by omega] at z
    exact z
  · have z := h1.2.2.1 (j - 12) (by omega) (by omega)
    rw [show 12 * 1 + (j - 12) = j by omega] at z
    exact z
def agP (sq fn2 rn2 : Int) (MKm MKb MKc MKf MKr MB2 MC2 MF2 MRd2 : Int → Int) : Prop := fn2 = MKm (2 * sq) ∧ rn2 = MKm (2 * sq + 1) ∧ (∀ j : Int, 0 ≤ j → j < 42 → MB2 j = MKb (42 * sq + j)) ∧ (∀ j : Int, 0 ≤ j → j < 144 → MC2 j = MKc (144 * sq + j)) ∧ (∀ j : Int, 0 ≤ j → j < 12 → MF2 j = MKf (12 * sq + j)) ∧ (∀ j : Int, 0 ≤ j → j < 12 → MRd2 j = MKr (12 * sq + j))
theorem IS_again {sq us kfn krn fn2 rn2 : Int} {KF KI KJ KW BF2 FI2 FJ2 FW2 : Int → Int → Int} {KRF KRB RF2 RB2 MB2 MC2 MF2 MRd2 MIk MKm MKb MKc MKf MKr : Int → Int} (h : IS sq us kfn KF KI KJ KW krn KRF KRB MIk MKm MKb MKc MKf MKr) (hu : us = 1) (hp : ∀ k : Int, 0 ≤ k → k < kfn → (∀ j : Int, 0 ≤ j → j < 7 → BF2 k j = KF k j) ∧ (∀ j : Int, 0 ≤ j → j < KF k 6 → FI2 k j = KI k j) ∧ (∀ j : Int, 0 ≤ j → j < KF k 6 → FJ2 k j = KJ k j) ∧ (∀ j : Int, 0 ≤ j → j < KF k 6 → FW2 k j = KW k j)) (hq : (∀ j : Int, 0 ≤ j → j < krn → RF2 j = KRF j) ∧ (∀ j : Int, 0 ≤ j → j < krn → RB2 j = KRB j)) (hm : agP sq fn2 rn2 MKm MKb MKc MKf MKr MB2 MC2 MF2 MRd2) : fn2 = kfn ∧ rn2 = krn ∧ IFl kfn BF2 FI2 FJ2 FW2 MB2 MC2 ∧ IR krn RF2 RB2 MF2 MRd2 := by
  obtain ⟨m1, m2, m3, m4, m5, m6⟩ := hm
  obtain ⟨b1, b2, b3, b4⟩ := h.2.2.2 hu
  exact ⟨m1.trans b1, m2.trans b2, IFl_copy b3 hp m3 m4, IR_copy b4 hq m5 m6⟩
