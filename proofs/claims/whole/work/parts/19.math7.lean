/-! ===== blowing ===== -/
def chI (gl lf : Int) (f : Int → Int → Int) (la s : Int) : Int := if 0 ≤ la ∧ la < gl ∧ 0 ≤ s ∧ s ≤ lf then f la s else 0
def chB (gl lf : Int) (last : Prop) [Decidable last] (f : Int → Int → Int) (la s : Int) : Int := if lf < s then 0 else if last then 1 else max (chI gl lf f la s) (max (chI gl lf f (la - 1) (s + 1)) (chI gl lf f (la + 1) (s + 1)))
def chH (gl gp gx gy : Int) (GK : Int → Int) (lf : Int) : Nat → Int → Int → Int
  | 0 => fun _ _ => 0
  | r + 1 => fun la s => acrV gx gy (kAt gl gp GK la (gp - ((r : Int) + 1))) * chB gl lf (r = 0) (chH gl gp gx gy GK lf r) la (s + secV (kAt gl gp GK la (gp - ((r : Int) + 1))))
def tab (E : Int → Int) : Int → Int → Int := fun la s => E (la * 136 + s)
def wOK (E : Int → Int) : Prop := ∀ i : Int, 0 ≤ i → i < 408 → 0 ≤ E i ∧ E i ≤ 10000000000000
def vld (gl gp gx gy : Int) (GK : Int → Int) (lf pl : Int) (E : Int → Int) : Prop := pl < gp → ∀ la s : Int, 0 ≤ la → la < gl → pl ≤ s → s ≤ lf → s ≤ 10 * pl → E (la * 136 + s) = chH gl gp gx gy GK lf (gp - pl).toNat la s
theorem chI_bd {gl lf : Int} {f : Int → Int → Int} {B : Int} (hB : 0 ≤ B) (h : ∀ la s : Int, 0 ≤ la → la < gl → 0 ≤ s → s ≤ lf → 0 ≤ f la s ∧ f la s ≤ B) (la s : Int) : 0 ≤ chI gl lf f la s ∧ chI gl lf f la s ≤ B := by
  unfold chI
  split
  · next c => exact h la s c.1 c.2.1 c.2.2.1 c.2.2.2
  · omega
theorem chB_bd {gl lf : Int} {last : Prop} [Decidable last] {f : Int → Int → Int} {B : Int} (hB : 1 ≤ B) (h : ∀ la s : Int, 0 ≤ la → la < gl → 0 ≤ s → s ≤ lf → 0 ≤ f la s ∧ f la s ≤ B) (la s : Int) : 0 ≤ chB gl lf last f la s ∧ chB gl lf last f la s ≤ B := by
  unfold chB
  have h1 := chI_bd (by omega) h la s
  have h2 := chI_bd (by omega) h (la - 1) (s + 1)
  have h3 := chI_bd (by omega) h (la + 1) (s + 1)
  split
  · omega
  · split <;> omega
theorem chH_bd {gl gp gx gy : Int} {GK : Int → Int} (hg : gOK gl gp gx gy GK) (lf : Int) : ∀ (r : Nat) (la s : Int), 0 ≤ chH gl gp gx gy GK lf r la s ∧ chH gl gp gx gy GK lf r la s ≤ 10 ^ r
  | 0, la, s => by show 0 ≤ (0 : Int) ∧ (0 : Int) ≤ 1; omega
  | r + 1, la, s => by
    have p : (1 : Int) ≤ 10 ^ r := by
      have : (0 : Int) < 10 ^ r := Int.pow_pos (by decide)
      omega
    have h1 := chB_bd (gl := gl) (lf := lf) (last := r = 0) (f := chH gl gp gx gy GK lf r) p (fun la s _ _ _ _ => chH_bd hg lf r la s) la (s + secV (kAt gl gp GK la (gp - ((r : Int) + 1))))
    have h2 := acrV_bd (k := kAt gl gp GK la (gp - ((r : Int) + 1))) hg.2.2.1 hg.2.2.2.1
    have := mul_bd h2.1 h2.2 h1.1 h1.2
    rw [Int.pow_succ, Int.mul_comm (10 ^ r) 10]
    exact this
theorem ten12 {r : Nat} (h : r ≤ 12) : (10 : Int) ^ r ≤ 1000000000000 := by
  have h1 : (10 : Int) ^ r ≤ 10 ^ 12 := by exact_mod_cast Nat.pow_le_pow_right (by decide : 0 < 10) h
  have e : (10 : Int) ^ 12 = 1000000000000 := by decide
  omega
theorem tab_bd {E : Int → Int} (h : wOK E) {gl lf : Int} (hl : gl ≤ 3) (hf : lf ≤ 135) : ∀ la s : Int, 0 ≤ la → la < gl → 0 ≤ s → s ≤ lf → 0 ≤ tab E la s ∧ tab E la s ≤ 10000000000000 := fun la s a b c d => h (la * 136 + s) (by omega) (by omega)
theorem chI_tab {gl gp gx gy lf pl : Int} {GK E : Int → Int} (hv : vld gl gp gx gy GK lf pl E) (h1 : pl < gp) {la s : Int} (h2 : pl ≤ s) (h3 : s ≤ 10 * pl) : chI gl lf (tab E) la s = chI gl lf (chH gl gp gx gy GK lf (gp - pl).toNat) la s := by
  unfold chI
  split
  · next c => exact hv h1 la s c.1 c.2.1 h2 c.2.2.2 h3
  · rfl
/-- what is behind a place, by the table -/
theorem chB_tab {gl gp gx gy lf pl : Int} {GK E : Int → Int} (hv : vld gl gp gx gy GK lf (pl + 1) E) (h0 : pl < gp) {la s : Int} (h2 : pl + 1 ≤ s) (h3 : s ≤ 10 * pl + 9) : chB gl lf (pl = gp - 1) (tab E) la s = chB gl lf ((gp - (pl + 1)).toNat = 0) (chH gl gp gx gy GK lf (gp - (pl + 1)).toNat) la s := by
  unfold chB
  by_cases c : lf < s
  · rw [if_pos c, if_pos c]
  · rw [if_neg c, if_neg c]
    by_cases e : pl = gp - 1
    · rw [if_pos e, if_pos (by omega)]
    · rw [if_neg e, if_neg (by omega), chI_tab hv (by omega) h2 (by omega), chI_tab hv (by omega) (by omega) (by omega), chI_tab hv (by omega) (by omega) (by omega)]
theorem sec_acr {gx gy k : Int} (hx : 0 ≤ gx ∧ gx ≤ 9) (hy : 0 ≤ gy ∧ gy ≤ 9) (hk : 1 ≤ k ∧ k ≤ 12) : acrV gx gy k = 0 ∨ (1 ≤ secV k ∧ secV k ≤ 9) := by
  unfold acrV secV
  (repeat' split) <;> omega
theorem chH_tab {gl gp gx gy lf pl : Int} {GK E : Int → Int} (hg : gOK gl gp gx gy GK) (hv : vld gl gp gx gy GK lf (pl + 1) E) (p0 : 0 ≤ pl) (h0 : pl < gp) {la s : Int} (h2 : pl ≤ s) (h3 : s ≤ 10 * pl) : acrV gx gy (kAt gl gp GK la pl) * chB gl lf (pl = gp - 1) (tab E) la (s + secV (kAt gl gp GK la pl)) = chH gl gp gx gy GK lf (gp - pl).toNat la s := by
  have e : (gp - pl).toNat = (gp - (pl + 1)).toNat + 1 := by omega
  rw [e]
  show _ = acrV gx gy (kAt gl gp GK la (gp - (((gp - (pl + 1)).toNat : Int) + 1))) * chB gl lf ((gp - (pl + 1)).toNat = 0) (chH gl gp gx gy GK lf (gp - (pl + 1)).toNat) la (s + secV (kAt gl gp GK la (gp - (((gp - (pl + 1)).toNat : Int) + 1))))
  rw [show gp - (((gp - (pl + 1)).toNat : Int) + 1) = pl by omega]
  rcases sec_acr hg.2.2.1 hg.2.2.2.1 (kAt_bd hg la pl) with z | z
  · rw [z, Int.zero_mul, Int.zero_mul]
  · rw [chB_tab hv h0 (by omega) (by omega)]
def bstF (g : Int → Int) : Nat → Int
  | 0 => 0
  | n + 1 => if g (bstF g n) < g ((n : Int) + 1) then (n : Int) + 1 else bstF g n
theorem bstF_bd (g : Int → Int) : ∀ n : Nat, 0 ≤ bstF g n ∧ bstF g n ≤ n
  | 0 => by simp [bstF]
  | n + 1 => by
    have h := bstF_bd g n
    unfold bstF
    split <;> omega
theorem bstF_s (g : Int → Int) {k : Int} (h : 1 ≤ k) : bstF g (k + 1 - 1).toNat = if g (bstF g (k - 1).toNat) < g k then k else bstF g (k - 1).toNat := by
  obtain ⟨n, rfl⟩ : ∃ n : Nat, k = (n : Int) + 1 := ⟨(k - 1).toNat, by omega⟩
  rw [show ((n : Int) + 1 + 1 - 1).toNat = n + 1 by omega, show ((n : Int) + 1 - 1).toNat = n by omega]
  rfl
def frsV (gl gp gx gy : Int) (GK : Int → Int) (lf la : Int) : Int := if chH gl gp gx gy GK lf gp.toNat la 0 = 0 then la else if chI gl lf (chH gl gp gx gy GK lf (gp - 1).toNat) (la - 1) (secV (kAt gl gp GK la 0) + 1) ≤ chI gl lf (chH gl gp gx gy GK lf (gp - 1).toNat) la (secV (kAt gl gp GK la 0)) ∧ chI gl lf (chH gl gp gx gy GK lf (gp - 1).toNat) (la + 1) (secV (kAt gl gp GK la 0) + 1) ≤ chI gl lf (chH gl gp gx gy GK lf (gp - 1).toNat) la (secV (kAt gl gp GK la 0)) then la else if chI gl lf (chH gl gp gx gy GK lf (gp - 1).toNat) (la + 1) (secV (kAt gl gp GK la 0) + 1) ≤ chI gl lf (chH gl gp gx gy GK lf (gp - 1).toNat) (la - 1) (secV (kAt gl gp GK la 0) + 1) then la - 1 else la + 1
theorem home_tab {gl gp gx gy lf : Int} {GK E : Int → Int} (hg : gOK gl gp gx gy GK) (hv : vld gl gp gx gy GK lf 1 E) (la : Int) : acrV gx gy (kAt gl gp GK la 0) * chB gl lf (0 = gp - 1) (tab E) la (secV (kAt gl gp GK la 0)) = chH gl gp gx gy GK lf gp.toNat la 0 := by
  have h := chH_tab (pl := 0) (s := 0) (la := la) hg hv (by omega) (by have := hg.2.1; omega) (by omega) (by omega)
  rw [Int.zero_add, Int.sub_zero] at h
  exact h
theorem lk_1 {E : Int → Int} {i x : Int} (h : wOK E) (hx : 0 ≤ x ∧ x ≤ 10000000000000) (_h : 0 ≤ i) : wOK (iu E i x) := by
  intro j h0 h1
  by_cases c : j = i
  · rw [iu_e c]; exact hx
  · rw [iu_n c]; exact h j h0 h1
theorem lk_2 {E : Int → Int} {G : Int → Int} {b k p x : Int} (h : ∀ t : Int, p ≤ t → t < k → E (b + t) = G t) (hx : x = G k) : ∀ t : Int, p ≤ t → t < k + 1 → iu E (b + k) x (b + t) = G t := by
  intro t h0 h1
  by_cases c : t = k
  · subst c; rw [iu_e rfl, hx]
  · rw [iu_n (by omega)]; exact h t h0 (by omega)
theorem lk_3 {E F : Int → Int} {b k x : Int} (h : ∀ i : Int, ¬ (b ≤ i ∧ i < b + 136) → E i = F i) (hk : 0 ≤ k ∧ k < 136) : ∀ i : Int, ¬ (b ≤ i ∧ i < b + 136) → iu E (b + k) x i = F i := by
  intro i hi
  rw [iu_n (by omega)]
  exact h i hi
theorem lk_4 {E E2 : Int → Int} {f : Int → Int → Int} {j k lf q : Int} (h : ∀ la t : Int, 0 ≤ la → la < j → k ≤ t → t ≤ lf → t ≤ q → E (la * 136 + t) = f la t) (h2 : ∀ t : Int, k ≤ t → t ≤ lf → t ≤ q → E2 (j * 136 + t) = f j t) (h3 : ∀ i : Int, ¬ (j * 136 ≤ i ∧ i < j * 136 + 136) → E2 i = E i) (hk : 0 ≤ k) (hl : lf ≤ 135) : ∀ la t : Int, 0 ≤ la → la < j + 1 → k ≤ t → t ≤ lf → t ≤ q → E2 (la * 136 + t) = f la t := by
  intro la t h0 h1 t0 t1 t2
  by_cases c : la = j
  · subst c; exact h2 t t0 t1 t2
  · rw [h3 _ (by omega)]; exact h la t h0 (by omega) t0 t1 t2
