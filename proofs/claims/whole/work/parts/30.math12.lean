/-! ===== the model's gutter ===== -/
def msV (k : Int) : Int := if k = 12 then 100000 else secV k
theorem kAt_in {gl gp : Int} {GK : Int → Int} {la pl : Int} (h : 0 ≤ la ∧ la < gl ∧ 0 ≤ pl ∧ pl < gp) : kAt gl gp GK la pl = GK (12 * la + pl) := if_pos h
theorem msV_eq (k : Int) : msV k = secV k + 100000 * bI (k = 12) := by
  unfold msV secV
  by_cases c : k = 12
  · rw [if_pos c, bI_t c]
    subst c
    decide
  · rw [if_neg c, bI_f c]
    omega
def mtV (gl gp : Int) (GK : Int → Int) (la : Int) : Int := laneS gl gp GK la + 100000 * wallN gl gp GK la
theorem wallN_bd {gl gp : Int} {GK : Int → Int} {la : Int} (h : 0 ≤ gp) : 0 ≤ wallN gl gp GK la ∧ wallN gl gp GK la ≤ gp := sgb_bd (fun p => kAt gl gp GK la p = 12) h
theorem lifeV_bd {bl bw bt bh bd bx bn : Int} {CI CJ CW : Int → Int} (h : bOK bl bw bt bh bd bx bn CI CJ CW) : -9 ≤ lifeV bl bw bt bh bd bx bn CI CJ CW ∧ lifeV bl bw bt bh bd bx bn CI CJ CW ≤ 135 := by
  obtain ⟨h1, h2, h3, h4, h5, h6, h7, h8, h9, hc⟩ := h
  unfold lifeV
  split
  · omega
  · split
    · omega
    · have b := Int.ediv_nonneg (a := leftV bl bw bt bh bd bn CI CJ CW) (b := bd * ((bl - 2 * bh) * (bw - 2 * bh))) (by omega) (by omega)
      omega
def timeV (gl gp : Int) (GK : Int → Int) (la lf : Int) : Int := if 0 < wallN gl gp GK la then -9 else if laneS gl gp GK la ≤ lf then laneS gl gp GK la else -9
def mLife (MB MC : Int → Int) (b : Int) : Int := lifeV (MB (7 * b)) (MB (7 * b + 1)) (MB (7 * b + 2)) (MB (7 * b + 3)) (MB (7 * b + 4)) (MB (7 * b + 5)) (MB (7 * b + 6)) (mCI MC b) (mCJ MC b) (mCW MC b)
theorem ten_s {g k : Int} (h0 : 0 ≤ k) (h1 : k < g) : (10 : Int) ^ (g - k).toNat = 10 * 10 ^ (g - (k + 1)).toNat := by
  rw [show (g - k).toNat = (g - (k + 1)).toNat + 1 by omega, Int.pow_succ, Int.mul_comm]
theorem ten_p (n : Nat) : (0 : Int) < 10 ^ n := Int.pow_pos (by decide)
/-- one place of the drift, as the model scales it -/
theorem dr_1 {c a t cm : Int} (hc : cm = c * (10 * t)) : cm / 10 * a = c * a * t := by
  subst hc
  rw [show c * (10 * t) = c * t * 10 by ac_rfl, Int.mul_ediv_cancel _ (by decide)]
  ac_rfl
theorem dr_2 {c a t cm : Int} (hc : cm = c * (10 * t)) : cm - c * a * t = c * (10 - a) * t := by
  subst hc
  rw [Int.mul_sub, Int.sub_mul]
  congr 1
  ac_rfl
theorem dr_3 {cr t x : Int} : cr * (10 * t) + x * t = (10 * cr + x) * t := by
  rw [Int.add_mul]
  congr 1
  ac_rfl
theorem enF_bd {ac : Int → Int} (h : ∀ k, 0 ≤ ac k ∧ ac k ≤ 10) {k : Int} (h0 : 0 ≤ k) : 0 ≤ enF ac k ∧ enF ac k ≤ 10 ^ (k + 1).toNat := by
  have h1 := cmF_bd h k.toNat
  have h2 := h k
  have := mul_bd (a := cmF ac k.toNat) (b := 10 - ac k) (A := 10 ^ k.toNat) (B := 10) h1.1 h1.2 (by omega) (by omega)
  rw [show (k + 1).toNat = k.toNat + 1 by omega, Int.pow_succ]
  exact this
theorem crF_bd {ac : Int → Int} (h : ∀ k, 0 ≤ ac k ∧ ac k ≤ 10) : ∀ n : Nat, 0 ≤ crF ac n ∧ crF ac n ≤ n * 10 ^ n
  | 0 => by simp [crF]
  | n + 1 => by
    have h1 := crF_bd h n
    have h2 := cmF_bd h (n + 1)
    show 0 ≤ 10 * crF ac n + cmF ac (n + 1) ∧ 10 * crF ac n + cmF ac (n + 1) ≤ ((n + 1 : Nat) : Int) * 10 ^ (n + 1)
    have e : ((n + 1 : Nat) : Int) * 10 ^ (n + 1) = 10 * ((n : Int) * 10 ^ n) + 10 ^ (n + 1) := by
      rw [Int.natCast_add, Int.add_mul, Int.pow_succ]
      have : (n : Int) * (10 ^ n * 10) = 10 * ((n : Int) * 10 ^ n) := by ac_rfl
      rw [this]
      simp
    rw [e]
    omega
theorem scale_bd {a b t B : Int} (ht : 0 < t) (h0 : 0 ≤ a) (h1 : a ≤ b) (hb : b * t ≤ B) : 0 ≤ a * t ∧ a * t ≤ B := by
  have h2 := Int.mul_le_mul_of_nonneg_right h1 (Int.le_of_lt ht)
  exact ⟨Int.mul_nonneg h0 (Int.le_of_lt ht), by omega⟩
theorem ten_split {g k : Int} (h0 : 0 ≤ k) (h1 : k < g) : (10 : Int) ^ (k + 1).toNat * 10 ^ (g - (k + 1)).toNat = 10 ^ g.toNat := by
  rw [← Int.pow_add]
  congr 1
  omega
theorem tell_end {e g k u : Int} (he : 0 ≤ e) (h0 : 0 ≤ k) (h1 : k < g) : tellV (e * 10 ^ (g - (k + 1)).toNat) (10 ^ g.toNat) u = tellV e (10 ^ (k + 1).toNat) u := by
  rw [← ten_split h0 h1, Int.mul_comm e, Int.mul_comm (10 ^ (k + 1).toNat)]
  exact tellV_mul he (ten_p _) (ten_p _)
/-! ===== the model's chances ===== -/
theorem chH_u {gl gp gx gy : Int} {GK : Int → Int} {lf k : Int} (h0 : 0 ≤ k) (h1 : k < gp) (la s : Int) : chH gl gp gx gy GK lf (gp - k).toNat la s = acrV gx gy (kAt gl gp GK la k) * chB gl lf ((gp - (k + 1)).toNat = 0) (chH gl gp gx gy GK lf (gp - (k + 1)).toNat) la (s + secV (kAt gl gp GK la k)) := by
  have e : (gp - k).toNat = (gp - (k + 1)).toNat + 1 := by omega
  rw [e]
  show acrV gx gy (kAt gl gp GK la (gp - (((gp - (k + 1)).toNat : Int) + 1))) * chB gl lf ((gp - (k + 1)).toNat = 0) (chH gl gp gx gy GK lf (gp - (k + 1)).toNat) la (s + secV (kAt gl gp GK la (gp - (((gp - (k + 1)).toNat : Int) + 1)))) = _
  rw [show gp - (((gp - (k + 1)).toNat : Int) + 1) = k by omega]
theorem chH_late {gl gp gx gy : Int} {GK : Int → Int} (hg : gOK gl gp gx gy GK) {lf k : Int} (h0 : 0 ≤ k) (h1 : k < gp) {la s : Int} (h : lf < s) : chH gl gp gx gy GK lf (gp - k).toNat la s = 0 := by
  rw [chH_u h0 h1]
  have b := secV_bd (kAt_bd hg la k)
  unfold chB
  rw [if_pos (by omega), Int.mul_zero]
theorem chH_wall {gl gp gx gy : Int} {GK : Int → Int} {lf k : Int} (h0 : 0 ≤ k) (h1 : k < gp) {la s : Int} (h : kAt gl gp GK la k = 12) : chH gl gp gx gy GK lf (gp - k).toNat la s = 0 := by
  rw [chH_u h0 h1, h]
  show acrV gx gy 12 * _ = 0
  have e : acrV gx gy 12 = 0 := by unfold acrV; rfl
  rw [e, Int.zero_mul]
theorem home_ok {gl gp gx gy : Int} {GK : Int → Int} {lf la : Int} (hp : 1 ≤ gp) (h : chH gl gp gx gy GK lf gp.toNat la 0 ≠ 0) : msV (kAt gl gp GK la 0) = secV (kAt gl gp GK la 0) ∧ secV (kAt gl gp GK la 0) ≤ lf := by
  have e := chH_u (gl := gl) (gx := gx) (gy := gy) (GK := GK) (lf := lf) (k := 0) (by omega) (show 0 < gp by omega) la 0
  rw [Int.sub_zero, Int.zero_add] at e
  rw [e] at h
  constructor
  · refine if_neg (fun q => h ?_)
    rw [q, show acrV gx gy 12 = 0 by unfold acrV; rfl, Int.zero_mul]
  · by_cases c : lf < 0 + secV (kAt gl gp GK la 0)
    · exfalso
      apply h
      unfold chB
      rw [if_pos c, Int.mul_zero]
    · omega
def ovV (gl gp gx gy : Int) (GK : Int → Int) (lf pl fr la s : Int) : Int := if ¬ (0 ≤ la ∧ la < gl) ∨ (la ≠ fr ∧ kAt gl gp GK la (pl + 1) = 12) then -1 else chI gl lf (chH gl gp gx gy GK lf (gp - (pl + 1)).toNat) la (s + (if la = fr then 0 else 1))
theorem ov_or {gl gp gx gy : Int} {GK : Int → Int} {lf pl fr la s : Int} (h0 : 0 ≤ pl) (h1 : pl + 1 < gp) : ovV gl gp gx gy GK lf pl fr la s = chI gl lf (chH gl gp gx gy GK lf (gp - (pl + 1)).toNat) la (s + (if la = fr then 0 else 1)) ∨ (ovV gl gp gx gy GK lf pl fr la s = -1 ∧ chI gl lf (chH gl gp gx gy GK lf (gp - (pl + 1)).toNat) la (s + (if la = fr then 0 else 1)) = 0) := by
  unfold ovV
  by_cases c : ¬ (0 ≤ la ∧ la < gl) ∨ (la ≠ fr ∧ kAt gl gp GK la (pl + 1) = 12)
  · right
    rw [if_pos c]
    refine ⟨rfl, ?_⟩
    unfold chI
    by_cases d : 0 ≤ la ∧ la < gl ∧ 0 ≤ s + (if la = fr then 0 else 1) ∧ s + (if la = fr then 0 else 1) ≤ lf
    · rw [if_pos d]
      exact chH_wall (by omega) h1 (c.elim (fun q => absurd ⟨d.1, d.2.1⟩ q) (fun q => q.2))
    · rw [if_neg d]
  · left
    rw [if_neg c]
def ovM (gl gp gx gy : Int) (GK : Int → Int) (lf pl la s : Int) : Int := max (chI gl lf (chH gl gp gx gy GK lf (gp - (pl + 1)).toNat) la s) (max (chI gl lf (chH gl gp gx gy GK lf (gp - (pl + 1)).toNat) (la - 1) (s + 1)) (chI gl lf (chH gl gp gx gy GK lf (gp - (pl + 1)).toNat) (la + 1) (s + 1)))
theorem chI_bdH {gl gp gx gy : Int} {GK : Int → Int} (hg : gOK gl gp gx gy GK) (lf : Int) {r : Nat} (hr : r ≤ 12) (la s : Int) : 0 ≤ chI gl lf (chH gl gp gx gy GK lf r) la s ∧ chI gl lf (chH gl gp gx gy GK lf r) la s ≤ 1000000000000 := by
  have h := chI_bd (gl := gl) (lf := lf) (f := chH gl gp gx gy GK lf r) (B := 10 ^ r) (Int.le_of_lt (ten_p r)) (fun la s _ _ _ _ => chH_bd hg lf r la s) la s
  have := ten12 hr
  omega
theorem ov_own {gl gp gx gy : Int} {GK : Int → Int} {lf pl la s : Int} (h : 0 ≤ la ∧ la < gl) : ovV gl gp gx gy GK lf pl la la s = chI gl lf (chH gl gp gx gy GK lf (gp - (pl + 1)).toNat) la s := by
  unfold ovV
  rw [if_neg (by omega), if_pos rfl, Int.add_zero]
theorem ov_oth {gl gp gx gy : Int} {GK : Int → Int} {lf pl fr la s : Int} (h0 : 0 ≤ pl) (h1 : pl + 1 < gp) (hf : la ≠ fr) : ovV gl gp gx gy GK lf pl fr la s = chI gl lf (chH gl gp gx gy GK lf (gp - (pl + 1)).toNat) la (s + 1) ∨ (ovV gl gp gx gy GK lf pl fr la s = -1 ∧ chI gl lf (chH gl gp gx gy GK lf (gp - (pl + 1)).toNat) la (s + 1) = 0) := by
  have := ov_or (gl := gl) (gx := gx) (gy := gy) (GK := GK) (lf := lf) (fr := fr) (la := la) (s := s) h0 h1
  rw [if_neg hf] at this
  exact this
def chDone (gl gp gx gy : Int) (GK : Int → Int) (lf : Int) (C : Int → Int) (k j s : Int) : Prop := ∀ p la t : Int, k ≤ p → p < gp → 0 ≤ la → la < gl → 0 ≤ t → t < 256 → (k < p ∨ la < j ∨ (la = j ∧ t < s)) → C (1024 * p + 256 * la + t) = chH gl gp gx gy GK lf (gp - p).toNat la t
theorem cd_s {gl gp gx gy : Int} {GK : Int → Int} {lf : Int} {C : Int → Int} {k j s v i : Int} (hl : gl ≤ 3) (h : chDone gl gp gx gy GK lf C k j s) (hj : 0 ≤ j ∧ j < gl) (hs : 0 ≤ s ∧ s < 256) (hi : i = 1024 * k + 256 * j + s) (hv : v = chH gl gp gx gy GK lf (gp - k).toNat j s) : chDone gl gp gx gy GK lf (iu C i v) k j (s + 1) := by
  intro p la t h0 h1 h2 h3 h4 h5 h6
  by_cases e : p = k ∧ la = j ∧ t = s
  · obtain ⟨e1, e2, e3⟩ := e
    subst e1 e2 e3
    rw [iu_e hi.symm]
    exact hv
  · rw [iu_n (by omega)]
    exact h p la t h0 h1 h2 h3 h4 h5 (by omega)
theorem cd_j {gl gp gx gy : Int} {GK : Int → Int} {lf : Int} {C : Int → Int} {k j s : Int} (h : chDone gl gp gx gy GK lf C k j s) (hs : 256 ≤ s) : chDone gl gp gx gy GK lf C k (j + 1) 0 := fun p la t h0 h1 h2 h3 h4 h5 h6 => h p la t h0 h1 h2 h3 h4 h5 (by omega)
theorem cd_k {gl gp gx gy : Int} {GK : Int → Int} {lf : Int} {C : Int → Int} {k j : Int} (h : chDone gl gp gx gy GK lf C k j 0) (hs : gl ≤ j) : chDone gl gp gx gy GK lf C (k + (-1)) 0 0 := fun p la t h0 h1 h2 h3 h4 h5 h6 => by
  by_cases c : k ≤ p
  · exact h p la t c h1 h2 h3 h4 h5 (by omega)
  · omega
theorem cd_0 {gl gp gx gy : Int} {GK : Int → Int} {lf : Int} {C : Int → Int} : chDone gl gp gx gy GK lf C (gp - 1) 0 0 := fun p la t h0 h1 h2 h3 h4 h5 h6 => by omega
/-- what the model lays down at one second -/
theorem lay_1 {gl gp gx gy : Int} {GK : Int → Int} (hg : gOK gl gp gx gy GK) {lf k j s v : Int} (h0 : 0 ≤ k) (h1 : k < gp) (hf : lf ≤ 135) (hs : 0 ≤ s) (hv : (msV (kAt gl gp GK j k) + s ≤ lf ∧ 0 < acrV gx gy (kAt gl gp GK j k) → (k = gp - 1 → v = 1) ∧ (k ≠ gp - 1 → v = ovM gl gp gx gy GK lf k j (s + msV (kAt gl gp GK j k)))) ∧ (¬ (msV (kAt gl gp GK j k) + s ≤ lf ∧ 0 < acrV gx gy (kAt gl gp GK j k)) → v = 0)) : acrV gx gy (kAt gl gp GK j k) * v = chH gl gp gx gy GK lf (gp - k).toNat j s := by
  have b := acrV_bd (k := kAt gl gp GK j k) hg.2.2.1 hg.2.2.2.1
  have b2 := secV_bd (kAt_bd hg j k)
  rw [chH_u h0 h1]
  by_cases c : acrV gx gy (kAt gl gp GK j k) = 0
  · rw [c, Int.zero_mul, Int.zero_mul]
  · have n12 : kAt gl gp GK j k ≠ 12 := fun e => c (by rw [e]; unfold acrV; rfl)
    have ms : msV (kAt gl gp GK j k) = secV (kAt gl gp GK j k) := if_neg n12
    rw [ms] at hv
    congr 1
    unfold chB
    by_cases d : lf < s + secV (kAt gl gp GK j k)
    · rw [if_pos d]
      exact hv.2 (by omega)
    · rw [if_neg d]
      have h := hv.1 ⟨by omega, by omega⟩
      by_cases e : k = gp - 1
      · rw [if_pos (by omega)]
        exact h.1 e
      · rw [if_neg (by omega)]
        exact h.2 e
/-! ===== the model's many ===== -/
theorem op_i {gl gp : Int} {GK : Int → Int} {la : Int} (h : 0 ≤ la ∧ la < gl) (hp : 0 ≤ gp ∧ gp ≤ 12) (hm : 0 ≤ laneS gl gp GK la ∧ laneS gl gp GK la ≤ 108) : (mtV gl gp GK la < 100000 ↔ opV gl gp GK la ≠ 0) ∧ (mtV gl gp GK la < 100000 → mtV gl gp GK la = laneS gl gp GK la ∧ opV gl gp GK la = 1) ∧ (¬ mtV gl gp GK la < 100000 → opV gl gp GK la = 0) := by
  have b := wallN_bd (gl := gl) (GK := GK) (la := la) hp.1
  unfold mtV opV
  by_cases c : 0 < wallN gl gp GK la
  · rw [bI_f (fun q => q.2 c)]
    omega
  · rw [bI_t ⟨h, c⟩]
    omega
theorem op_o {gl gp : Int} {GK : Int → Int} {la : Int} (h : ¬ (0 ≤ la ∧ la < gl)) : opV gl gp GK la = 0 := bI_f (fun q => h q.1)
theorem op_3 {gl gp : Int} {GK : Int → Int} (h : 1 ≤ gl ∧ gl ≤ 3) : sgI (opV gl gp GK) gl = sgI (opV gl gp GK) 3 := by
  have s3 : sgI (opV gl gp GK) 3 = sgI (opV gl gp GK) 2 + opV gl gp GK 2 := sgI_s (opV gl gp GK) (n := 2) (by omega)
  have s2 : sgI (opV gl gp GK) 2 = sgI (opV gl gp GK) 1 + opV gl gp GK 1 := sgI_s (opV gl gp GK) (n := 1) (by omega)
  rcases (by omega : gl = 1 ∨ gl = 2 ∨ gl = 3) with e | e | e
  · have o1 : opV gl gp GK 1 = 0 := op_o (by omega)
    have o2 : opV gl gp GK 2 = 0 := op_o (by omega)
    subst e
    omega
  · have o2 : opV gl gp GK 2 = 0 := op_o (by omega)
    subst e
    omega
  · rw [e]
def irD (OP TM S : Int → Int) (c a b : Int) : Prop := a ≠ b → 0 < S a → OP b ≠ 0 → TM a + c * (S a - 1) ≤ TM b + c * S b
def irC (gl : Int) (OP TM S : Int → Int) (c a : Int) : Prop := (OP a ≠ 0 ∨ S a = 0) ∧ ∀ b : Int, 0 ≤ b → b < gl → irD OP TM S c a b
theorem ir_ar {gl : Int} {OP TM S : Int → Int} {c : Int} (hl : 1 ≤ gl ∧ gl ≤ 3) (ho : ∀ j : Int, gl ≤ j → OP j = 0) (hS : ∀ j : Int, 0 ≤ j → j < 3 → 0 ≤ S j) (hz : ∀ j : Int, gl ≤ j → j < 3 → S j = 0) : (∀ a : Int, 0 ≤ a → a < gl → irC gl OP TM S c a) ↔ arP OP TM S c := by
  have key : ∀ a : Int, 0 ≤ a → a < 3 → ((a < gl → irC gl OP TM S c a) ↔ ar1 OP TM S c a) := by
    intro a a0 a1
    constructor
    · intro h p
      have ag : a < gl := by
        by_cases q : a < gl
        · exact q
        · have := hz a (by omega) a1
          omega
      have hc := h ag
      refine ⟨hc.1.resolve_right (by omega), fun w => ?_⟩
      have kill : ∀ o : Int, 0 ≤ o → o < 3 → ¬ wl1 OP TM S c a o := by
        intro o o0 o1 z
        by_cases q : o < gl
        · have := hc.2 o o0 q (fun e => z.1 e.symm) p z.2.1
          have z2 := z.2.2
          omega
        · exact z.2.1 (ho o (by omega))
      exact w.elim (kill 0 (by omega) (by omega)) (fun w => w.elim (kill 1 (by omega) (by omega)) (kill 2 (by omega) (by omega)))
    · intro h ag
      by_cases p : 0 < S a
      · have h2 := h p
        refine ⟨Or.inl h2.1, fun b b0 b1 ne _ ob => ?_⟩
        by_cases q : TM b + c * S b < TM a + c * (S a - 1)
        · exact absurd (wl_mk (k := b) (by omega) ⟨fun e => ne e.symm, ob, q⟩) h2.2
        · omega
      · have := hS a a0 a1
        exact ⟨Or.inr (by omega), fun b b0 b1 ne z ob => absurd z p⟩
  rw [arP_q]
  constructor
  · intro h
    exact ⟨(key 0 (by omega) (by omega)).mp (h 0 (by omega)), (key 1 (by omega) (by omega)).mp (h 1 (by omega)), (key 2 (by omega) (by omega)).mp (h 2 (by omega))⟩
  · intro h a a0 a1
    rcases (by omega : a = 0 ∨ a = 1 ∨ a = 2) with e | e | e
    · subst e; exact (key 0 (by omega) (by omega)).mpr h.1 a1
    · subst e; exact (key 1 (by omega) (by omega)).mpr h.2.1 a1
    · subst e; exact (key 2 (by omega) (by omega)).mpr h.2.2 a1
theorem ar_no {gl : Int} {OP TM S : Int → Int} {c : Int} (ho : ∀ j : Int, gl ≤ j → OP j = 0) {j : Int} (j0 : 0 ≤ j) (j1 : j < 3) (hj : gl ≤ j) (hs : 0 < S j) : ¬ arP OP TM S c := by
  rw [arP_q]
  intro h
  have : ar1 OP TM S c j := in3 h.1 h.2.1 h.2.2 j j0 j1
  exact (this hs).1 (ho j hj)
/-! ===== the model's runs ===== -/
theorem rset_bit {RB : Int → Int} {n : Nat} (h : ∀ k : Int, 0 ≤ k → k < n → RB k = 0 ∨ RB k = 1) : ∀ j : Nat, rset RB n / 2 ^ j % 2 = if j < n then RB j else 0 := by
  induction n with
  | zero =>
    intro j
    show (0 : Int) / 2 ^ j % 2 = _
    rw [Int.zero_ediv, if_neg (by omega)]
    rfl
  | succ n ih =>
    intro j
    have i1 := ih (fun k a b => h k a (by omega)) j
    have i2 := rset_bd (RB := RB) (n := n) (by omega) (fun k a b => h k a (by omega))
    have i3 := h (n : Int) (by omega) (by omega)
    rw [Int.toNat_natCast] at i2
    have e : rset RB ((n + 1 : Nat) : Int) = rset RB n + RB n * 2 ^ n := by
      show sgI _ ((n : Int) + 1) = _
      rw [sgI_s _ (by omega), Int.toNat_natCast]
      rfl
    rw [e]
    by_cases c : j < n
    · rw [if_pos (by omega)]
      rw [if_pos c] at i1
      have e2 : (2 : Int) ^ n = 2 ^ (n - j - 1) * 2 * 2 ^ j := by
        rw [← Int.pow_succ, ← Int.pow_add]
        congr 1
        omega
      rw [e2, show RB n * (2 ^ (n - j - 1) * 2 * 2 ^ j) = RB n * 2 ^ (n - j - 1) * 2 * 2 ^ j by ac_rfl, Int.add_mul_ediv_right _ _ (by have := two_pos j; omega)]
      omega
    · by_cases d : j = n
      · subst d
        rw [if_pos (by omega), Int.add_mul_ediv_right _ _ (by have := two_pos j; omega), Int.ediv_eq_zero_of_lt i2.1 i2.2]
        omega
      · rw [if_neg (by omega)]
        have e3 : (2 : Int) ^ (n + 1) = 2 ^ n * 2 := Int.pow_succ 2 n
        have e4 := two_le (show n + 1 ≤ j by omega)
        have e5 : rset RB n + RB n * 2 ^ n < 2 ^ j := by
          rcases i3 with q | q <;> rw [q] <;> omega
        have e6 : 0 ≤ rset RB n + RB n * 2 ^ n := by
          have := two_pos n
          rcases i3 with q | q <;> rw [q] <;> omega
        rw [Int.ediv_eq_zero_of_lt e6 e5]
        rfl
theorem sg_cut {f : Int → Int} {n : Nat} (h : ∀ k : Int, n ≤ k → f k = 0) : ∀ m : Nat, n ≤ m → sg f m = sg f n
  | 0, hm => by rw [show n = 0 by omega]
  | m + 1, hm => by
    by_cases c : n = m + 1
    · rw [c]
    · have i := sg_cut h m (by omega)
      have z := h (m : Int) (by omega)
      show sg f m + f m = sg f n
      rw [i, z, Int.add_zero]
theorem pop_lt {n t : Int} (hn : 0 ≤ n ∧ n ≤ 12) (h0 : 0 ≤ t) (h1 : t < 1 * 2 ^ n.toNat) : sgI (fun j => t / 2 ^ j.toNat % 2) n = popI t := by
  show sg _ n.toNat = sg _ 12
  refine (sg_cut (fun k hk => ?_) 12 (by omega)).symm
  have := two_le (show n.toNat ≤ k.toNat by omega)
  show t / 2 ^ k.toNat % 2 = 0
  rw [Int.ediv_eq_zero_of_lt h0 (by omega)]
  rfl
theorem pop_rset {RB : Int → Int} {n : Int} (hn : 0 ≤ n ∧ n ≤ 12) (h : ∀ k : Int, 0 ≤ k → k < n → RB k = 0 ∨ RB k = 1) : popI (rset RB n) = sgI RB n := by
  have b := rset_bd hn.1 h
  rw [← pop_lt hn b.1 (by omega)]
  refine sgI_congr (fun k k0 k1 => ?_)
  obtain ⟨m, rfl⟩ : ∃ m : Nat, n = m := ⟨n.toNat, by omega⟩
  rw [rset_bit h, if_pos (by omega), show ((k.toNat : Nat) : Int) = k by omega]
theorem sum_rset {RB RF : Int → Int} {n : Int} (hn : 0 ≤ n ∧ n ≤ 12) (h : ∀ k : Int, 0 ≤ k → k < n → RB k = 0 ∨ RB k = 1) : sumF n RF (rset RB n) = sgI (fun j => RB j * RF j) n := by
  refine sgI_congr (fun k k0 k1 => ?_)
  obtain ⟨m, rfl⟩ : ∃ m : Nat, n = m := ⟨n.toNat, by omega⟩
  rw [rset_bit h, if_pos (by omega), show ((k.toNat : Nat) : Int) = k by omega]
theorem all_pos {RB : Int → Int} {n : Int} (hn : 0 ≤ n ∧ n ≤ 12) (h : ∀ k : Int, 0 ≤ k → k < n → RB k = 0 ∨ RB k = 1) : 1 ≤ allV n (popI (rset RB n)) := by
  have b := rset_bd hn.1 h
  have m1 := sgI_mono (f := fun t => bI (popI t = popI (rset RB n))) (fun k _ => bI_nn _) (show rset RB n + 1 ≤ 1 * 2 ^ n.toNat by omega)
  have m0 := sgI_mono (f := fun t => bI (popI t = popI (rset RB n))) (fun k _ => bI_nn _) b.1
  rw [sgI_0] at m0
  rw [sgI_s _ b.1] at m1
  have e : bI (popI (rset RB n) = popI (rset RB n)) = 1 := bI_t rfl
  have m2 : sgI (fun t => bI (popI t = popI (rset RB n))) (rset RB n) + bI (popI (rset RB n) = popI (rset RB n)) ≤ sgI (fun t => bI (popI t = popI (rset RB n))) (1 * 2 ^ n.toNat) := m1
  show 1 ≤ sgI (fun t => bI (popI t = popI (rset RB n))) (1 * 2 ^ n.toNat)
  omega
def cntV (tn fn al rn rd wq : Int) : Int := if wq = 0 then tn else if wq = 1 then fn else if wq = 2 then al else if wq = 3 then rn else if wq = 4 then rd else -2
