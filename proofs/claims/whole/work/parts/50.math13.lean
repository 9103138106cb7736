/-! ===== the same from rows that are the same where they count ===== -/
theorem bs_congr {f g : Int → Int} {n : Int} (h : ∀ c : Int, 0 ≤ c → c < n → f c = g c) (t : Int) : bs f n t = bs g n t := sgI_congr (fun c a b => by rw [h c a b])
theorem wOf_congr {n : Int} {W W' : Int → Int} (h : ∀ c : Int, 0 ≤ c → c < n → W c = W' c) : wOf n W = wOf n W' := by
  funext c
  unfold wOf
  by_cases q : 0 ≤ c ∧ c < n
  · rw [if_pos q, if_pos q, h c q.1 q.2]
  · rw [if_neg q, if_neg q]
theorem pullV_congr {n a : Int} {C W C' W' : Int → Int} (h1 : ∀ c : Int, 0 ≤ c → c < n → C c = C' c) (h2 : ∀ c : Int, 0 ≤ c → c < n → W c = W' c) : pullV n a C W = pullV n a C' W' := by
  funext c
  unfold pullV
  by_cases q : 0 ≤ c ∧ c < n
  · rw [if_pos q, if_pos q, h1 c q.1 q.2, h2 c q.1 q.2]
  · rw [if_neg q, if_neg q]
theorem momV_congr {n a : Int} {C W C' W' : Int → Int} (h1 : ∀ c : Int, 0 ≤ c → c < n → C c = C' c) (h2 : ∀ c : Int, 0 ≤ c → c < n → W c = W' c) : momV n a C W = momV n a C' W' := by
  unfold momV
  rw [pullV_congr h1 h2]
section CO
variable {bl bw bt bh bd bx bn : Int} {I J W I' J' W' : Int → Int}
theorem wAt_congr (h3 : ∀ c : Int, 0 ≤ c → c < bn → W c = W' c) (s : Int) : wAt bl bw bt bd bn W s = wAt bl bw bt bd bn W' s := by
  unfold wAt
  rw [wOf_congr h3]
theorem corAt_congr (h1 : ∀ c : Int, 0 ≤ c → c < bn → I c = I' c) (h2 : ∀ c : Int, 0 ≤ c → c < bn → J c = J' c) (h3 : ∀ c : Int, 0 ≤ c → c < bn → W c = W' c) (s : Int) : corAt bl bw bt bh bd bn I J W s = corAt bl bw bt bh bd bn I' J' W' s := by
  unfold corAt
  rw [wAt_congr h3, momV_congr h1 h3, momV_congr h2 h3]
theorem leftV_congr (h1 : ∀ c : Int, 0 ≤ c → c < bn → I c = I' c) (h2 : ∀ c : Int, 0 ≤ c → c < bn → J c = J' c) (h3 : ∀ c : Int, 0 ≤ c → c < bn → W c = W' c) : leftV bl bw bt bh bd bn I J W = leftV bl bw bt bh bd bn I' J' W' := by
  unfold leftV
  rw [corAt_congr h1 h2 h3]
theorem lifeV_congr (h1 : ∀ c : Int, 0 ≤ c → c < bn → I c = I' c) (h2 : ∀ c : Int, 0 ≤ c → c < bn → J c = J' c) (h3 : ∀ c : Int, 0 ≤ c → c < bn → W c = W' c) : lifeV bl bw bt bh bd bx bn I J W = lifeV bl bw bt bh bd bx bn I' J' W' := by
  unfold lifeV
  rw [leftV_congr h1 h2 h3]
theorem pullC_bs {a : Int} {C C' : Int → Int} (h1 : ∀ c : Int, 0 ≤ c → c < bn → C c = C' c) (h3 : ∀ c : Int, 0 ≤ c → c < bn → W c = W' c) (t : Int) : bs (pullC a C W) bn t = bs (pullC a C' W') bn t := bs_congr (fun c a b => by unfold pullC; rw [h1 c a b, h3 c a b]) t
theorem okB_congr (h1 : ∀ c : Int, 0 ≤ c → c < bn → I c = I' c) (h2 : ∀ c : Int, 0 ≤ c → c < bn → J c = J' c) (h3 : ∀ c : Int, 0 ≤ c → c < bn → W c = W' c) : okB bl bw bt bh bn I J W = okB bl bw bt bh bn I' J' W' := by
  funext t
  unfold okB
  rw [bs_congr h3 t, pullC_bs h1 h3 t, pullC_bs h2 h3 t]
theorem bOK_congr (h1 : ∀ c : Int, 0 ≤ c → c < bn → I c = I' c) (h2 : ∀ c : Int, 0 ≤ c → c < bn → J c = J' c) (h3 : ∀ c : Int, 0 ≤ c → c < bn → W c = W' c) (h : bOK bl bw bt bh bd bx bn I J W) : bOK bl bw bt bh bd bx bn I' J' W' := by
  obtain ⟨a1, a2, a3, a4, a5, a6, a7, a8, a9, ac⟩ := h
  exact ⟨a1, a2, a3, a4, a5, a6, a7, a8, a9, fun c c0 c1 => by rw [← h1 c c0 c1, ← h2 c c0 c1, ← h3 c c0 c1]; exact ac c c0 c1⟩
end CO
theorem kAt_congr {gl gp : Int} {G G' : Int → Int} (h : ∀ a b : Int, 0 ≤ a → a < gl → 0 ≤ b → b < gp → G (12 * a + b) = G' (12 * a + b)) : kAt gl gp G = kAt gl gp G' := by
  funext la pl
  unfold kAt
  by_cases q : 0 ≤ la ∧ la < gl ∧ 0 ≤ pl ∧ pl < gp
  · rw [if_pos q, if_pos q, h la pl q.1 q.2.1 q.2.2.1 q.2.2.2]
  · rw [if_neg q, if_neg q]
section GU
variable {gl gp gx gy lf : Int} {G G' : Int → Int}
theorem acx_congr (h : kAt gl gp G = kAt gl gp G') (la : Int) : acx gl gp gx gy G la lf = acx gl gp gx gy G' la lf := by
  funext k
  unfold acx
  rw [h]
theorem chH_congr (h : kAt gl gp G = kAt gl gp G') : ∀ r : Nat, chH gl gp gx gy G lf r = chH gl gp gx gy G' lf r
  | 0 => rfl
  | r + 1 => by
    funext la s
    show acrV gx gy (kAt gl gp G la (gp - ((r : Int) + 1))) * chB gl lf (r = 0) (chH gl gp gx gy G lf r) la (s + secV (kAt gl gp G la (gp - ((r : Int) + 1)))) = acrV gx gy (kAt gl gp G' la (gp - ((r : Int) + 1))) * chB gl lf (r = 0) (chH gl gp gx gy G' lf r) la (s + secV (kAt gl gp G' la (gp - ((r : Int) + 1))))
    rw [h, chH_congr h r]
theorem frsV_congr (h : kAt gl gp G = kAt gl gp G') (la : Int) : frsV gl gp gx gy G lf la = frsV gl gp gx gy G' lf la := by
  unfold frsV
  rw [chH_congr h, chH_congr h, h]
theorem laneS_congr (h : kAt gl gp G = kAt gl gp G') : laneS gl gp G = laneS gl gp G' := by
  funext la
  unfold laneS
  rw [h]
theorem wallN_congr (h : kAt gl gp G = kAt gl gp G') : wallN gl gp G = wallN gl gp G' := by
  funext la
  unfold wallN
  rw [h]
theorem opV_congr (h : kAt gl gp G = kAt gl gp G') : opV gl gp G = opV gl gp G' := by
  funext la
  unfold opV
  rw [wallN_congr h]
theorem timeV_congr (h : kAt gl gp G = kAt gl gp G') (la : Int) : timeV gl gp G la lf = timeV gl gp G' la lf := by
  unfold timeV
  rw [laneS_congr h, wallN_congr h]
end GU
theorem fl_congr {T T' : Int → Int} {tn : Int} (h : ∀ j : Int, 0 ≤ j → j < tn → T j = T' j) : ∀ (n : Nat) (k ln pl wd : Int), 0 ≤ k → k + n ≤ tn → fl T n k ln pl wd = fl T' n k ln pl wd
  | 0, k, ln, pl, wd, _, _ => rfl
  | n + 1, k, ln, pl, wd, h0, h1 => by
    unfold fl
    rw [h k h0 (by omega), fl_congr h n (k + 1) (ln + 1) 0 pl (by omega) (by omega), fl_congr h n (k + 1) ln (pl + 1) wd (by omega) (by omega)]
theorem faultV_congr {T T' : Int → Int} {tn : Int} (h0 : 0 ≤ tn) (h : ∀ j : Int, 0 ≤ j → j < tn → T j = T' j) : faultV tn T = faultV tn T' := by
  unfold faultV
  exact fl_congr h _ _ _ _ _ (by omega) (by omega)
theorem rset_congr {B B' : Int → Int} {n : Int} (h : ∀ j : Int, 0 ≤ j → j < n → B j = B' j) : rset B n = rset B' n := sgI_congr (fun k a b => by rw [h k a b])
theorem sumF_congr {F F' : Int → Int} {n : Int} (h : ∀ j : Int, 0 ≤ j → j < n → F j = F' j) : sumF n F = sumF n F' := by
  funext t
  exact sgI_congr (fun k a b => by rw [h k a b])
theorem luckV_congr {F F' : Int → Int} {n : Int} (h : ∀ j : Int, 0 ≤ j → j < n → F j = F' j) (mn tg : Int) : luckV n F mn tg = luckV n F' mn tg := by
  unfold luckV
  rw [sumF_congr h]
