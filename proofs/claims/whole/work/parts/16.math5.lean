/-! ===== sets as numbers ===== -/
abbrev bt1 (t c : Int) : Int := t / 2 ^ c.toNat % 2
theorem bt1_nat (t : Nat) (c : Nat) : ((t : Int) / 2 ^ c % 2) = (((t.testBit c).toNat : Nat) : Int) := by
  rw [Nat.toNat_testBit]
  push_cast
  rfl
theorem bor_nat (t c : Nat) : bor (t : Int) (1 * 2 ^ c) = ((t ||| 2 ^ c : Nat) : Int) := by
  have e : ((1 : Int) * 2 ^ c).toNat = 2 ^ c := by
    rw [Int.one_mul]
    have : ((2 : Int) ^ c) = ((2 ^ c : Nat) : Int) := by push_cast; rfl
    rw [this, Int.toNat_natCast]
  show (((t : Int).toNat ||| ((1 : Int) * 2 ^ c).toNat : Nat) : Int) = _
  rw [e, Int.toNat_natCast]
theorem bor_comm (a b : Int) : bor a b = bor b a := by
  show ((a.toNat ||| b.toNat : Nat) : Int) = ((b.toNat ||| a.toNat : Nat) : Int)
  rw [Nat.or_comm]
theorem bor_nn (a b : Int) : 0 ≤ bor a b := by
  show 0 ≤ ((a.toNat ||| b.toNat : Nat) : Int)
  omega
/-- the bits of a set with one more -/
theorem bt_or {t : Int} (h : 0 ≤ t) (c d : Nat) : bor t (1 * 2 ^ c) / 2 ^ d % 2 = if d = c then 1 else t / 2 ^ d % 2 := by
  obtain ⟨n, rfl⟩ : ∃ n : Nat, t = n := ⟨t.toNat, by omega⟩
  rw [bor_nat, bt1_nat, bt1_nat, Nat.testBit_or, Nat.testBit_two_pow]
  by_cases e : d = c
  · subst e; simp
  · rw [if_neg e]
    have : ¬ c = d := fun q => e q.symm
    simp [this]
theorem bt01 (t : Int) (c : Nat) : t / 2 ^ c % 2 = 0 ∨ t / 2 ^ c % 2 = 1 := by omega
theorem bor_same {t : Int} (h : 0 ≤ t) (c : Nat) : bor t (1 * 2 ^ c) = t ↔ t / 2 ^ c % 2 = 1 := by
  constructor
  · intro e
    have := bt_or h c c
    rw [e, if_pos rfl] at this
    exact this
  · intro e
    obtain ⟨n, rfl⟩ : ∃ n : Nat, t = n := ⟨t.toNat, by omega⟩
    rw [bt1_nat] at e
    rw [bor_nat]
    congr 1
    apply Nat.eq_of_testBit_eq
    intro i
    rw [Nat.testBit_or, Nat.testBit_two_pow]
    by_cases q : c = i
    · subst q
      cases hb : n.testBit c with
      | true => rfl
      | false => rw [hb] at e; simp at e
    · simp [q]
theorem bor_ge {t : Int} (h : 0 ≤ t) (c : Nat) : t ≤ bor t (1 * 2 ^ c) := by
  obtain ⟨n, rfl⟩ : ∃ n : Nat, t = n := ⟨t.toNat, by omega⟩
  rw [bor_nat]
  have := Nat.left_le_or (n := n) (m := 2 ^ c)
  exact_mod_cast this
theorem bor_gt {t : Int} (h : 0 ≤ t) {c : Nat} (hb : t / 2 ^ c % 2 = 0) : t < bor t (1 * 2 ^ c) := by
  have h1 := bor_ge h c
  have h2 : bor t (1 * 2 ^ c) ≠ t := fun e => by
    have := (bor_same h c).mp e
    omega
  omega
theorem bor_lt {t : Int} {n c : Nat} (h : 0 ≤ t) (h1 : t < 2 ^ n) (hc : c < n) : bor t (1 * 2 ^ c) < 2 ^ n := by
  obtain ⟨k, rfl⟩ : ∃ k : Nat, t = k := ⟨t.toNat, by omega⟩
  rw [bor_nat]
  have h2 : k < 2 ^ n := by exact_mod_cast h1
  have h3 : 2 ^ c < 2 ^ n := Nat.pow_lt_pow_right (by decide) hc
  have := Nat.or_lt_two_pow h2 h3
  exact_mod_cast this
/-- what the coins of a set add up to -/
def bs (f : Int → Int) (n t : Int) : Int := sgI (fun c => t / 2 ^ c.toNat % 2 * f c) n
theorem sg_one {f : Int → Int} {x : Int} (k : Nat) : ∀ n : Nat, sg (fun c => f c + (if c.toNat = k then x else 0)) n = sg f n + (if k < n then x else 0)
  | 0 => by simp [sg]
  | n + 1 => by
    have h := sg_one (f := f) (x := x) k n
    show sg _ n + (f n + (if (n : Int).toNat = k then x else 0)) = sg f n + f n + _
    rw [h, Int.toNat_natCast]
    by_cases c : n = k
    · subst c
      rw [if_neg (Nat.lt_irrefl n), if_pos rfl, if_pos (Nat.lt_succ_self n)]
      omega
    · rw [if_neg c]
      by_cases c2 : k < n
      · rw [if_pos c2, if_pos (by omega)]; omega
      · rw [if_neg c2, if_neg (by omega)]; omega
theorem bs_or {f : Int → Int} {n t : Int} (ht : 0 ≤ t) {k : Int} (h0 : 0 ≤ k) (h1 : k < n) (hb : t / 2 ^ k.toNat % 2 = 0) : bs f n (bor t (1 * 2 ^ k.toNat)) = bs f n t + f k := by
  have e : ∀ c : Int, 0 ≤ c → c < n → bor t (1 * 2 ^ k.toNat) / 2 ^ c.toNat % 2 * f c = t / 2 ^ c.toNat % 2 * f c + (if c.toNat = k.toNat then f k else 0) := by
    intro c c0 c1
    rw [bt_or ht]
    by_cases q : c.toNat = k.toNat
    · rw [if_pos q, if_pos q, q, hb, show c = k by omega]
      omega
    · rw [if_neg q, if_neg q, Int.add_zero]
  show sgI (fun c => bor t (1 * 2 ^ k.toNat) / 2 ^ c.toNat % 2 * f c) n = _
  rw [sgI_congr e]
  show sg (fun c => t / 2 ^ c.toNat % 2 * f c + (if c.toNat = k.toNat then f k else 0)) n.toNat = _
  rw [sg_one (f := fun c => t / 2 ^ c.toNat % 2 * f c) k.toNat n.toNat, if_pos (by omega)]
  rfl
theorem bs_0 (f : Int → Int) {n : Int} (h : 0 ≤ n) : bs f n 0 = 0 := by
  have e : ∀ c : Int, 0 ≤ c → c < n → (0 : Int) / 2 ^ c.toNat % 2 * f c = 0 := by
    intro c _ _
    rw [Int.zero_ediv]
    simp
  show sgI (fun c => (0 : Int) / 2 ^ c.toNat % 2 * f c) n = 0
  rw [sgI_congr e]
  have := sgI_bd (f := fun _ => 0) (c := 0) (n := n) (by omega) h (fun _ _ _ => by omega)
  omega
theorem bs_bd {f : Int → Int} {n t B : Int} (hB : 0 ≤ B) (h0 : 0 ≤ n) (h : ∀ c : Int, 0 ≤ c → c < n → -B ≤ f c ∧ f c ≤ B) : -(n * B) ≤ bs f n t ∧ bs f n t ≤ n * B := by
  refine sgI_bd hB h0 (fun c c0 c1 => ?_)
  have h1 := h c c0 c1
  rcases bt01 t c.toNat with e | e <;> rw [e] <;> omega
theorem bs_nn {f : Int → Int} {n t : Int} (h : ∀ c : Int, 0 ≤ c → c < n → 0 ≤ f c) : 0 ≤ bs f n t := by
  have key : ∀ k : Nat, (k : Int) ≤ n → 0 ≤ sg (fun c => t / 2 ^ c.toNat % 2 * f c) k := by
    intro k
    induction k with
    | zero => intro _; exact Int.le_refl 0
    | succ k ih =>
      intro hk
      have h1 := ih (by omega)
      have h2 := h (k : Int) (by omega) (by omega)
      show 0 ≤ sg _ k + t / 2 ^ (k : Int).toNat % 2 * f k
      rcases bt01 t (k : Int).toNat with e | e <;> rw [e] <;> omega
  by_cases c : 0 ≤ n
  · exact key n.toNat (by omega)
  · show 0 ≤ sg _ n.toNat
    rw [show n.toNat = 0 by omega]
    exact Int.le_refl 0
/-! ===== orders ===== -/
def pullC (a : Int) (C CW : Int → Int) (c : Int) : Int := CW c * (2 * C c + 1 - a)
def okS (bl bw bt bh bn : Int) (CI CJ CW : Int → Int) (t : Int) : Prop := ¬ roomV (bl - 2 * bh) (bw - 2 * bh) bh (corV (bl - 2 * bh) (bw - 2 * bh) (bl * bw * bt + bs CW bn t) (bs (pullC (bl - 2 * bh) CI CW) bn t) (bs (pullC (bw - 2 * bh) CJ CW) bn t)) < 0
def okB (bl bw bt bh bn : Int) (CI CJ CW : Int → Int) (t : Int) : Bool := decide (¬ roomV (bl - 2 * bh) (bw - 2 * bh) bh (corV (bl - 2 * bh) (bw - 2 * bh) (bl * bw * bt + bs CW bn t) (bs (pullC (bl - 2 * bh) CI CW) bn t) (bs (pullC (bw - 2 * bh) CJ CW) bn t)) < 0)
def wF (ok : Int → Bool) (n : Int) : Nat → Int → Int
  | 0, t => if ok t = false then 0 else if t = 2 ^ n.toNat - 1 then 1 else 0
  | m + 1, t => if ok t = false then 0 else if t = 2 ^ n.toNat - 1 then 1 else sgI (fun c => if t / 2 ^ c.toNat % 2 = 0 then wF ok n m (bor t (1 * 2 ^ c.toNat)) else 0) n
def wV (ok : Int → Bool) (n t : Int) : Int := wF ok n (2 ^ n.toNat - 1 - t).toNat t
theorem full_bit {n t : Int} (hn : 0 ≤ n) (h0 : 0 ≤ t) (h1 : t = 2 ^ n.toNat - 1) {c : Int} (c0 : 0 ≤ c) (c1 : c < n) : t / 2 ^ c.toNat % 2 = 1 := by
  subst h1
  have e : (2 : Int) ^ n.toNat = 2 ^ (n.toNat - c.toNat - 1) * 2 * 2 ^ c.toNat := by
    rw [← Int.pow_succ, ← Int.pow_add]
    congr 1
    omega
  have p := two_pos c.toNat
  have h2 : (2 ^ n.toNat - 1) / (2 : Int) ^ c.toNat = 2 ^ (n.toNat - c.toNat - 1) * 2 - 1 := by
    rw [e, show 2 ^ (n.toNat - c.toNat - 1) * 2 * 2 ^ c.toNat - 1 = (2 ^ c.toNat - 1) + (2 ^ (n.toNat - c.toNat - 1) * 2 - 1) * (2 : Int) ^ c.toNat by rw [Int.sub_mul]; omega]
    rw [Int.add_mul_ediv_right _ _ (by omega), Int.ediv_eq_zero_of_lt (by omega) (by omega)]
    omega
  rw [h2]
  omega
/-- the steps do not matter once there are enough -/
theorem wF_st (ok : Int → Bool) {n : Int} (hn : 0 ≤ n) : ∀ (m k : Nat) (t : Int), 0 ≤ t → t ≤ 2 ^ n.toNat - 1 → (2 ^ n.toNat - 1 - t).toNat ≤ m → (2 ^ n.toNat - 1 - t).toNat ≤ k → wF ok n m t = wF ok n k t
  | 0, k, t, h0, h1, hm, hk => by
    have e : t = 2 ^ n.toNat - 1 := by omega
    cases k with
    | zero => rfl
    | succ k => unfold wF; rw [if_pos e, if_pos e]
  | m + 1, 0, t, h0, h1, hm, hk => by
    have e : t = 2 ^ n.toNat - 1 := by omega
    unfold wF; rw [if_pos e, if_pos e]
  | m + 1, k + 1, t, h0, h1, hm, hk => by
    unfold wF
    by_cases c0 : ok t = false
    · rw [if_pos c0, if_pos c0]
    · rw [if_neg c0, if_neg c0]
      by_cases e : t = 2 ^ n.toNat - 1
      · rw [if_pos e, if_pos e]
      · rw [if_neg e, if_neg e]
        refine sgI_congr (fun c a0 a1 => ?_)
        by_cases hb : t / 2 ^ c.toNat % 2 = 0
        · rw [if_pos hb, if_pos hb]
          have g1 := bor_gt h0 hb
          have g2 := bor_lt (n := n.toNat) (c := c.toNat) h0 (by omega) (by omega)
          exact wF_st ok hn m k _ (by omega) (by omega) (by omega) (by omega)
        · rw [if_neg hb, if_neg hb]
theorem wV_s (ok : Int → Bool) {n t : Int} (hn : 0 ≤ n) (h0 : 0 ≤ t) (h1 : t ≤ 2 ^ n.toNat - 1) : wV ok n t = if ok t = false then 0 else if t = 2 ^ n.toNat - 1 then 1 else sgI (fun c => if t / 2 ^ c.toNat % 2 = 0 then wV ok n (bor t (1 * 2 ^ c.toNat)) else 0) n := by
  unfold wV
  rw [wF_st ok hn _ ((2 ^ n.toNat - 1 - t).toNat + 1) t h0 h1 (Nat.le_refl _) (by omega)]
  show (if ok t = false then 0 else if t = 2 ^ n.toNat - 1 then 1 else sgI (fun c => if t / 2 ^ c.toNat % 2 = 0 then wF ok n (2 ^ n.toNat - 1 - t).toNat (bor t (1 * 2 ^ c.toNat)) else 0) n) = _
  by_cases c0 : ok t = false
  · rw [if_pos c0, if_pos c0]
  · rw [if_neg c0, if_neg c0]
    by_cases e : t = 2 ^ n.toNat - 1
    · rw [if_pos e, if_pos e]
    · rw [if_neg e, if_neg e]
      refine sgI_congr (fun c a0 a1 => ?_)
      by_cases hb : t / 2 ^ c.toNat % 2 = 0
      · rw [if_pos hb, if_pos hb]
        have g1 := bor_gt h0 hb
        have g2 := bor_lt (n := n.toNat) (c := c.toNat) h0 (by omega) (by omega)
        exact wF_st ok hn _ _ _ (by omega) (by omega) (by omega) (by omega)
      · rw [if_neg hb, if_neg hb]
/-- how many are wanting -/
def zb (n t : Int) : Int := n - bs (fun _ => 1) n t
theorem bs1_bd {n t : Int} (h : 0 ≤ n) : 0 ≤ bs (fun _ => 1) n t ∧ bs (fun _ => 1) n t ≤ n := by
  have h1 := bs_bd (f := fun _ => 1) (n := n) (t := t) (B := 1) (by omega) h (fun _ _ _ => by omega)
  have h2 := bs_nn (f := fun _ => 1) (n := n) (t := t) (fun _ _ _ => by omega)
  omega
theorem wF_bd (ok : Int → Bool) {n : Int} (hn : 0 ≤ n ∧ n ≤ 8) : ∀ (m : Nat) (t : Int) (z : Nat), 0 ≤ t → t ≤ 2 ^ n.toNat - 1 → zb n t ≤ z → 0 ≤ wF ok n m t ∧ wF ok n m t ≤ 8 ^ z
  | 0, t, z, h0, h1, hz => by
    have p : (0 : Int) < 8 ^ z := Int.pow_pos (by decide)
    unfold wF
    split
    · omega
    · split <;> omega
  | m + 1, t, z, h0, h1, hz => by
    have p : (0 : Int) < 8 ^ z := Int.pow_pos (by decide)
    unfold wF
    split
    · omega
    · split
      · omega
      · have key : ∀ k : Nat, (k : Int) ≤ n → 0 ≤ sg (fun c => if t / 2 ^ c.toNat % 2 = 0 then wF ok n m (bor t (1 * 2 ^ c.toNat)) else 0) k ∧ sg (fun c => if t / 2 ^ c.toNat % 2 = 0 then wF ok n m (bor t (1 * 2 ^ c.toNat)) else 0) k * 8 ≤ k * 8 ^ z := by
          intro k
          induction k with
          | zero => intro _; simp [sg]
          | succ k ih =>
            intro hk
            have i1 := ih (by omega)
            have e1 : ((k + 1 : Nat) : Int) * 8 ^ z = k * 8 ^ z + 8 ^ z := by rw [Int.natCast_add, Int.add_mul]; simp
            rw [e1]
            show 0 ≤ sg _ k + (if t / 2 ^ (k : Int).toNat % 2 = 0 then wF ok n m (bor t (1 * 2 ^ (k : Int).toNat)) else 0) ∧ (sg _ k + (if t / 2 ^ (k : Int).toNat % 2 = 0 then wF ok n m (bor t (1 * 2 ^ (k : Int).toNat)) else 0)) * 8 ≤ _
            by_cases hb : t / 2 ^ (k : Int).toNat % 2 = 0
            · rw [if_pos hb]
              have g1 := bor_gt h0 hb
              have g2 := bor_lt (n := n.toNat) (c := (k : Int).toNat) h0 (by omega) (by omega)
              have g3 : zb n (bor t (1 * 2 ^ (k : Int).toNat)) = zb n t - 1 := by
                unfold zb
                rw [bs_or h0 (by omega) (by omega) hb]
                omega
              have g4 := (bs1_bd (n := n) (t := bor t (1 * 2 ^ (k : Int).toNat)) hn.1)
              have z1 : 1 ≤ z := by unfold zb at g3 hz; omega
              obtain ⟨w, rfl⟩ : ∃ w : Nat, z = w + 1 := ⟨z - 1, by omega⟩
              have g5 := wF_bd ok hn m (bor t (1 * 2 ^ (k : Int).toNat)) w (by omega) (by omega) (by omega)
              have g6 : (8 : Int) ^ (w + 1) = 8 ^ w * 8 := Int.pow_succ 8 w
              omega
            · rw [if_neg hb]
              omega
        have k1 := key n.toNat (by omega)
        have e2 : ((n.toNat : Nat) : Int) = n := by omega
        rw [e2] at k1
        have k2 : n * 8 ^ z ≤ 8 * 8 ^ z := Int.mul_le_mul_of_nonneg_right hn.2 (by omega)
        show 0 ≤ sg _ n.toNat ∧ sg _ n.toNat ≤ 8 ^ z
        omega
theorem wV_bd (ok : Int → Bool) {n t : Int} (hn : 0 ≤ n ∧ n ≤ 8) (h0 : 0 ≤ t) (h1 : t ≤ 2 ^ n.toNat - 1) : 0 ≤ wV ok n t ∧ wV ok n t ≤ 16777216 := by
  have h2 := bs1_bd (n := n) (t := t) hn.1
  have h := wF_bd ok hn (2 ^ n.toNat - 1 - t).toNat t 8 h0 h1 (by unfold zb; omega)
  have e : (8 : Int) ^ 8 = 16777216 := by decide
  rw [e] at h
  exact h
def lsF (P : Int → Bool) : Nat → Int → Int
  | 0, _ => -9
  | m + 1, c => if P c = true then c else lsF P m (c + 1)
theorem lsF_s (P : Int → Bool) {n k : Int} (h : k < n) : lsF P (n - k).toNat k = if P k = true then k else lsF P (n - (k + 1)).toNat (k + 1) := by
  rw [show (n - k).toNat = (n - (k + 1)).toNat + 1 by omega]
  rfl
theorem lsF_bd (P : Int → Bool) : ∀ (m : Nat) (k : Int), 0 ≤ k → -9 ≤ lsF P m k ∧ lsF P m k < k + m ∨ lsF P m k = -9
  | 0, k, _ => Or.inr rfl
  | m + 1, k, hk => by
    unfold lsF
    split
    · left; omega
    · have := lsF_bd P m (k + 1) (by omega)
      omega
/-- the least one, if there is one -/
theorem lsF_least (P : Int → Bool) : ∀ (m : Nat) (k : Int) (c : Int), k ≤ c → c < k + m → P c = true → k ≤ lsF P m k ∧ lsF P m k ≤ c ∧ P (lsF P m k) = true ∧ ∀ d : Int, k ≤ d → d < lsF P m k → P d = false
  | 0, k, c, h1, h2, _ => by omega
  | m + 1, k, c, h1, h2, h3 => by
    unfold lsF
    by_cases q : P k = true
    · rw [if_pos q]
      exact ⟨by omega, h1, q, fun d d1 d2 => by omega⟩
    · rw [if_neg q]
      have hk : k ≠ c := fun e => q (e ▸ h3)
      obtain ⟨i1, i2, i3, i4⟩ := lsF_least P m (k + 1) c (by omega) (by omega) h3
      refine ⟨by omega, i2, i3, fun d d1 d2 => ?_⟩
      by_cases e : d = k
      · subst e
        cases hp : P d with
        | true => exact absurd hp q
        | false => rfl
      · exact i4 d (by omega) d2
def nxP (ok : Int → Bool) (n t : Int) (c : Int) : Bool := decide (t / 2 ^ c.toNat % 2 = 0 ∧ 0 < wV ok n (bor t (1 * 2 ^ c.toNat)))
def nxV (ok : Int → Bool) (n t : Int) : Int := lsF (nxP ok n t) n.toNat 0
def setF (ok : Int → Bool) (n : Int) : Nat → Int
  | 0 => 0
  | i + 1 => bor (setF ok n i) (1 * 2 ^ (nxV ok n (setF ok n i)).toNat)
def ordV (ok : Int → Bool) (n k : Int) : Int := if k < 0 ∨ n ≤ k ∨ wV ok n 0 = 0 then -9 else nxV ok n (setF ok n k.toNat)
theorem sg_pos_ex {f : Int → Int} (h : ∀ k : Int, 0 ≤ k → 0 ≤ f k) : ∀ n : Nat, 0 < sg f n → ∃ k : Int, 0 ≤ k ∧ k < n ∧ 0 < f k
  | 0, hp => by simp [sg] at hp
  | n + 1, hp => by
    have e : sg f (n + 1) = sg f n + f n := rfl
    rw [e] at hp
    by_cases c : 0 < sg f n
    · obtain ⟨k, k0, k1, k2⟩ := sg_pos_ex h n c
      exact ⟨k, k0, by omega, k2⟩
    · exact ⟨n, by omega, by omega, by omega⟩
theorem nxV_ok (ok : Int → Bool) {n t : Int} (hn : 0 ≤ n ∧ n ≤ 8) (h0 : 0 ≤ t) (h1 : t < 2 ^ n.toNat - 1) (hw : 0 < wV ok n t) : 0 ≤ nxV ok n t ∧ nxV ok n t < n ∧ t / 2 ^ (nxV ok n t).toNat % 2 = 0 ∧ 0 < wV ok n (bor t (1 * 2 ^ (nxV ok n t).toNat)) ∧ ∀ d : Int, 0 ≤ d → d < nxV ok n t → ¬ (t / 2 ^ d.toNat % 2 = 0 ∧ 0 < wV ok n (bor t (1 * 2 ^ d.toNat))) := by
  rw [wV_s ok hn.1 h0 (by omega)] at hw
  by_cases c0 : ok t = false
  · rw [if_pos c0] at hw; omega
  · rw [if_neg c0, if_neg (by omega)] at hw
    have key : ∃ k : Int, 0 ≤ k ∧ k < n.toNat ∧ 0 < (if t / 2 ^ k.toNat % 2 = 0 ∧ k < n then wV ok n (bor t (1 * 2 ^ k.toNat)) else 0) := by
      refine sg_pos_ex (f := fun c => if t / 2 ^ c.toNat % 2 = 0 ∧ c < n then wV ok n (bor t (1 * 2 ^ c.toNat)) else 0) (fun k k0 => ?_) n.toNat ?_
      · show 0 ≤ (if t / 2 ^ k.toNat % 2 = 0 ∧ k < n then wV ok n (bor t (1 * 2 ^ k.toNat)) else 0)
        split
        · next q =>
          have g1 := bor_gt h0 q.1
          have g2 := bor_lt (n := n.toNat) (c := k.toNat) h0 (by omega) (by omega)
          exact (wV_bd ok hn (by omega) (by omega)).1
        · omega
      · rw [show sg (fun c => if t / 2 ^ c.toNat % 2 = 0 ∧ c < n then wV ok n (bor t (1 * 2 ^ c.toNat)) else 0) n.toNat = sg (fun c => if t / 2 ^ c.toNat % 2 = 0 then wV ok n (bor t (1 * 2 ^ c.toNat)) else 0) n.toNat from sg_congr _ (fun k k0 k1 => by
          by_cases q : t / 2 ^ k.toNat % 2 = 0
          · rw [if_pos q, if_pos ⟨q, by omega⟩]
          · rw [if_neg q, if_neg (fun z => q z.1)])]
        exact hw
    obtain ⟨k, k0, k1, k2⟩ := key
    by_cases q : t / 2 ^ k.toNat % 2 = 0 ∧ k < n
    · rw [if_pos q] at k2
      obtain ⟨i1, i2, i3, i4⟩ := lsF_least (nxP ok n t) n.toNat 0 k k0 (by omega) (by unfold nxP; exact decide_eq_true ⟨q.1, k2⟩)
      have i5 : t / 2 ^ (nxV ok n t).toNat % 2 = 0 ∧ 0 < wV ok n (bor t (1 * 2 ^ (nxV ok n t).toNat)) := of_decide_eq_true i3
      have e : lsF (nxP ok n t) n.toNat 0 = nxV ok n t := rfl
      rw [e] at i1 i2
      exact ⟨i1, by omega, i5.1, i5.2, fun d d0 d1 => of_decide_eq_false (i4 d d0 d1)⟩
    · rw [if_neg q] at k2
      omega
/-- along the first order -/
theorem setF_ok (ok : Int → Bool) {n : Int} (hn : 0 ≤ n ∧ n ≤ 8) (hw : 0 < wV ok n 0) : ∀ i : Nat, (i : Int) ≤ n → 0 ≤ setF ok n i ∧ setF ok n i ≤ 2 ^ n.toNat - 1 ∧ 0 < wV ok n (setF ok n i) ∧ bs (fun _ => 1) n (setF ok n i) = i
  | 0, _ => by
    have := two_pos n.toNat
    exact ⟨Int.le_refl 0, by show (0 : Int) ≤ _; omega, hw, bs_0 _ hn.1⟩
  | i + 1, hi => by
    obtain ⟨i1, i2, i3, i4⟩ := setF_ok ok hn hw i (by omega)
    have ne : setF ok n i ≠ 2 ^ n.toNat - 1 := by
      intro e
      have h2 : ∀ c : Int, 0 ≤ c → c < n → setF ok n i / 2 ^ c.toNat % 2 * (fun _ => (1 : Int)) c = (fun _ => (1 : Int)) c := fun c c0 c1 => by
        rw [full_bit hn.1 i1 e c0 c1]
        rfl
      have h3 : bs (fun _ => 1) n (setF ok n i) = sgI (fun _ => 1) n := sgI_congr h2
      have h4 : ∀ m : Nat, sg (fun _ => 1) m = m := by
        intro m
        induction m with
        | zero => rfl
        | succ m ih => show sg (fun _ => 1) m + 1 = _; rw [ih]; omega
      have h5 : sgI (fun _ => 1) n = n := by show sg _ n.toNat = n; rw [h4]; omega
      omega
    obtain ⟨j1, j2, j3, j4, -⟩ := nxV_ok ok hn i1 (by omega) i3
    have g1 := bor_gt i1 j3
    have g2 := bor_lt (n := n.toNat) (c := (nxV ok n (setF ok n i)).toNat) i1 (by omega) (by omega)
    refine ⟨?_, ?_, j4, ?_⟩
    · show 0 ≤ bor _ _
      omega
    · show bor _ _ ≤ _
      omega
    · show bs _ n (bor _ _) = _
      rw [bs_or i1 j1 j2 j3, i4]
      omega
