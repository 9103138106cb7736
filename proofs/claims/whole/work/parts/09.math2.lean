/-! ===== fractions ===== -/
def gcdI (a b : Int) : Int := (Nat.gcd a.toNat b.toNat : Int)
def tellV (a b up : Int) : Int := (if up = 0 then b else a) / gcdI a b
theorem gcdI_0 {a : Int} (h : 0 ≤ a) : gcdI a 0 = a := by
  show ((Nat.gcd a.toNat 0 : Nat) : Int) = a
  rw [Nat.gcd_zero_right]
  omega
theorem gcdI_step {x y : Int} (hx : 0 ≤ x) (hy : 0 < y) : gcdI y (x % y) = gcdI x y := by
  show ((Nat.gcd y.toNat (x % y).toNat : Nat) : Int) = ((Nat.gcd x.toNat y.toNat : Nat) : Int)
  congr 1
  rw [Int.toNat_emod hx (by omega), Nat.gcd_comm x.toNat, Nat.gcd_rec y.toNat x.toNat, Nat.gcd_comm]
theorem gcdI_pos {a b : Int} (hb : 0 < b) : 1 ≤ gcdI a b := by
  have : 0 < Nat.gcd a.toNat b.toNat := Nat.gcd_pos_of_pos_right _ (by omega)
  show 1 ≤ ((Nat.gcd a.toNat b.toNat : Nat) : Int)
  omega
theorem gcdI_le {a b : Int} (hb : 0 < b) : gcdI a b ≤ b := by
  have : Nat.gcd a.toNat b.toNat ≤ b.toNat := Nat.gcd_le_right _ (by omega)
  show ((Nat.gcd a.toNat b.toNat : Nat) : Int) ≤ b
  omega
theorem gcdI_mul {a b k : Int} (ha : 0 ≤ a) (hb : 0 ≤ b) (hk : 0 < k) : gcdI (k * a) (k * b) = k * gcdI a b := by
  show ((Nat.gcd (k * a).toNat (k * b).toNat : Nat) : Int) = k * ((Nat.gcd a.toNat b.toNat : Nat) : Int)
  rw [Int.toNat_mul (by omega) ha, Int.toNat_mul (by omega) hb, Nat.gcd_mul_left, Int.natCast_mul]
  rw [Int.toNat_of_nonneg (by omega)]
theorem tellV_mul {a b k up : Int} (ha : 0 ≤ a) (hb : 0 < b) (hk : 0 < k) : tellV (k * a) (k * b) up = tellV a b up := by
  unfold tellV
  rw [gcdI_mul ha (by omega) hk]
  split
  · exact Int.mul_ediv_mul_of_pos _ _ hk
  · exact Int.mul_ediv_mul_of_pos _ _ hk
/-- Euclid's steps: the product of the two halves at each -/
def euI (g s k : Int) : Prop := (s ≤ g ∧ g * s * 2 ^ k.toNat ≤ 2 ^ 95) ∨ (k = 0 ∧ g * s ≤ 2 ^ 94)
theorem eu_0 {a b : Int} (ha : 0 ≤ a ∧ a ≤ 100000000000000) (hb : 0 ≤ b ∧ b ≤ 100000000000000) : euI a b 0 := by
  refine Or.inr ⟨rfl, ?_⟩
  have := (mul_bd ha.1 ha.2 hb.1 hb.2).2
  omega
theorem eu_s {g s k : Int} (hg : 0 ≤ g) (hs : 0 < s) (hk : 0 ≤ k) (h : euI g s k) : euI s (g % s) (k + 1) := by
  have h1 := Int.emod_nonneg g (by omega : s ≠ 0)
  have h2 := Int.emod_lt_of_pos g hs
  refine Or.inl ⟨by omega, ?_⟩
  rw [show (k + 1).toNat = k.toNat + 1 by omega, Int.pow_succ]
  have key : s * (g % s) * 2 ≤ s * g ∨ (k = 0 ∧ g * s ≤ 2 ^ 94 ∧ g < s) := by
    by_cases c : s ≤ g
    · left
      have h3 : 2 * (g % s) ≤ g := by
        have e := Int.emod_add_mul_ediv g s
        have d : 1 ≤ g / s := by
          have := Int.ediv_le_ediv hs c
          rwa [Int.ediv_self (by omega)] at this
        have m1 : s * 1 ≤ s * (g / s) := Int.mul_le_mul_of_nonneg_left d (by omega)
        omega
      have := Int.mul_le_mul_of_nonneg_left h3 (by omega : 0 ≤ s)
      rw [Int.mul_assoc, Int.mul_comm (g % s) 2]
      exact this
    · rcases h with ⟨h, -⟩ | ⟨h, h'⟩
      · exact absurd h c
      · exact Or.inr ⟨h, h', by omega⟩
  have p1 : (0 : Int) ≤ 2 ^ k.toNat := Int.pow_nonneg (by omega)
  rcases key with key | ⟨k0, k1, k2⟩
  · rcases h with ⟨-, h⟩ | ⟨k0, h⟩
    · have := Int.mul_le_mul_of_nonneg_right key p1
      rw [show s * (g % s) * (2 ^ k.toNat * 2) = s * (g % s) * 2 * 2 ^ k.toNat by ac_rfl]
      rw [Int.mul_comm s g] at this
      omega
    · subst k0
      have e0 : (2 : Int) ^ (0 : Int).toNat = 1 := rfl
      rw [e0]
      rw [Int.mul_comm s g] at key
      omega
  · subst k0
    have e0 : (2 : Int) ^ (0 : Int).toNat = 1 := rfl
    rw [e0, Int.emod_eq_of_lt hg k2, Int.mul_comm s g]
    omega
theorem eu_end {g s : Int} (hg : 0 ≤ g) (hs : 0 ≤ s) (h : euI g s 100) : s = 0 := by
  rcases h with ⟨h1, h2⟩ | ⟨h1, -⟩
  · by_cases c : s = 0
    · exact c
    · have a : 1 ≤ g * s := mul_pos1 (by omega) (by omega)
      have e : (100 : Int).toNat = 100 := rfl
      rw [e] at h2
      have := Int.mul_le_mul_of_nonneg_right a (by decide : (0 : Int) ≤ 2 ^ 100)
      omega
  · omega
/-! ===== the gutter ===== -/
def gOK (gl gp gx gy : Int) (GK : Int → Int) : Prop := (1 ≤ gl ∧ gl ≤ 3) ∧ (1 ≤ gp ∧ gp ≤ 12) ∧ (0 ≤ gx ∧ gx ≤ 9) ∧ (0 ≤ gy ∧ gy ≤ 9) ∧ ∀ a b : Int, 0 ≤ a → a < gl → 0 ≤ b → b < gp → 1 ≤ GK (12 * a + b) ∧ GK (12 * a + b) ≤ 12
def kAt (gl gp : Int) (GK : Int → Int) (la pl : Int) : Int := if 0 ≤ la ∧ la < gl ∧ 0 ≤ pl ∧ pl < gp then GK (12 * la + pl) else 12
def secV (k : Int) : Int := if k = 10 then 2 else if k = 11 then 1 else if k = 12 then 0 else k
def acrV (gx gy k : Int) : Int := if k = 10 then 10 - gx else if k = 11 then 10 - gy else if k = 12 then 0 else 10
def wallN (gl gp : Int) (GK : Int → Int) (la : Int) : Int := sgI (fun p => bI (kAt gl gp GK la p = 12)) gp
def laneS (gl gp : Int) (GK : Int → Int) (la : Int) : Int := sgI (fun p => secV (kAt gl gp GK la p)) gp
theorem kAt_bd {gl gp gx gy : Int} {GK : Int → Int} (h : gOK gl gp gx gy GK) (la pl : Int) : 1 ≤ kAt gl gp GK la pl ∧ kAt gl gp GK la pl ≤ 12 := by
  unfold kAt
  split
  · next c => exact h.2.2.2.2 la pl c.1 c.2.1 c.2.2.1 c.2.2.2
  · omega
theorem secV_bd {k : Int} (h : 1 ≤ k ∧ k ≤ 12) : 0 ≤ secV k ∧ secV k ≤ 9 := by
  unfold secV
  split
  · omega
  · split
    · omega
    · split <;> omega
theorem acrV_bd {gx gy k : Int} (hx : 0 ≤ gx ∧ gx ≤ 9) (hy : 0 ≤ gy ∧ gy ≤ 9) : 0 ≤ acrV gx gy k ∧ acrV gx gy k ≤ 10 := by
  unfold acrV
  split
  · omega
  · split
    · omega
    · split <;> omega
theorem sg_nn {f : Int → Int} (h : ∀ k : Int, 0 ≤ k → 0 ≤ f k) : ∀ n : Nat, 0 ≤ sg f n
  | 0 => Int.le_refl 0
  | n + 1 => by
    have h1 := sg_nn h n
    have h2 := h (n : Int) (by omega)
    show 0 ≤ sg f n + f n
    omega
theorem sg_mono {f : Int → Int} (h : ∀ k : Int, 0 ≤ k → 0 ≤ f k) {a : Nat} : ∀ {b : Nat}, a ≤ b → sg f a ≤ sg f b
  | 0, hb => by
    have : a = 0 := by omega
    subst this
    exact Int.le_refl _
  | b + 1, hb => by
    by_cases c : a = b + 1
    · subst c; exact Int.le_refl _
    · have h1 := sg_mono h (show a ≤ b by omega)
      have h2 := h (b : Int) (by omega)
      show sg f a ≤ sg f b + f b
      omega
theorem sgI_mono {f : Int → Int} (h : ∀ k : Int, 0 ≤ k → 0 ≤ f k) {a b : Int} (hab : a ≤ b) : sgI f a ≤ sgI f b := sg_mono h (by omega)
theorem bI_nn (P : Prop) [Decidable P] : 0 ≤ bI P := by
  rcases bI_cases P with ⟨-, h⟩ | ⟨-, h⟩ <;> omega
theorem bI_le1 (P : Prop) [Decidable P] : bI P ≤ 1 := by
  rcases bI_cases P with ⟨-, h⟩ | ⟨-, h⟩ <;> omega
theorem wall_pos {gl gp : Int} {GK : Int → Int} {la k : Int} (h0 : 0 ≤ k) (h1 : k < gp) (h : kAt gl gp GK la k = 12) : 0 < wallN gl gp GK la := by
  have h2 := sgI_mono (f := fun p => bI (kAt gl gp GK la p = 12)) (fun k _ => bI_nn _) (show k + 1 ≤ gp by omega)
  rw [sgI_s _ h0] at h2
  have h3 := sgI_mono (f := fun p => bI (kAt gl gp GK la p = 12)) (fun k _ => bI_nn _) h0
  rw [sgI_0] at h3
  have h4 : bI (kAt gl gp GK la k = 12) = 1 := bI_t h
  show 0 < sgI (fun p => bI (kAt gl gp GK la p = 12)) gp
  have h5 : (fun p => bI (kAt gl gp GK la p = 12)) k = 1 := h4
  omega
theorem laneS_bd {gl gp gx gy : Int} {GK : Int → Int} (h : gOK gl gp gx gy GK) (la : Int) {k : Int} (h0 : 0 ≤ k) (h1 : k ≤ gp) : 0 ≤ sgI (fun p => secV (kAt gl gp GK la p)) k ∧ sgI (fun p => secV (kAt gl gp GK la p)) k ≤ 9 * k := by
  have h2 := sgI_bd (f := fun p => secV (kAt gl gp GK la p)) (c := 9) (n := k) (by omega) h0 (fun p _ _ => by
    have := secV_bd (kAt_bd h la p)
    constructor <;> omega)
  have h3 := sgI_mono (f := fun p => secV (kAt gl gp GK la p)) (fun p _ => (secV_bd (kAt_bd h la p)).1) h0
  rw [sgI_0] at h3
  omega
/-! ===== the text ===== -/
def tOK (tn : Int) (TB : Int → Int) : Prop := (0 ≤ tn ∧ tn ≤ 40) ∧ ∀ k : Int, 0 ≤ k → k < tn → 0 ≤ TB k ∧ TB k ≤ 255
def kindV (b : Int) : Int := if 49 ≤ b ∧ b ≤ 57 then b - 48 else if b = 76 then 10 else if b = 68 then 11 else if b = 87 then 12 else 0
abbrev whP (ln pl wd : Int) : Prop := (ln = 0 ∧ 0 < pl) ∨ (ln ≠ 0 ∧ pl = wd)
def fl (T : Int → Int) : Nat → Int → Int → Int → Int → Int
  | 0, k, ln, pl, wd => if whP ln pl wd then -9 else k
  | n + 1, k, ln, pl, wd => if T k = 47 then (if ln = 2 ∨ ¬ whP ln pl wd then k else fl T n (k + 1) (ln + 1) 0 pl) else (if pl = wd ∨ kindV (T k) = 0 then k else fl T n (k + 1) ln (pl + 1) wd)
def faultV (tn : Int) (T : Int → Int) : Int := fl T tn.toNat 0 0 0 12
theorem fl_s (T : Int → Int) {tn k : Int} (h : k < tn) (ln pl wd : Int) : fl T (tn - k).toNat k ln pl wd = if T k = 47 then (if ln = 2 ∨ ¬ whP ln pl wd then k else fl T (tn - (k + 1)).toNat (k + 1) (ln + 1) 0 pl) else (if pl = wd ∨ kindV (T k) = 0 then k else fl T (tn - (k + 1)).toNat (k + 1) ln (pl + 1) wd) := by
  rw [show (tn - k).toNat = (tn - (k + 1)).toNat + 1 by omega]
  rfl
theorem fl_0 (T : Int → Int) {tn k : Int} (h : tn ≤ k) (ln pl wd : Int) : fl T (tn - k).toNat k ln pl wd = if whP ln pl wd then -9 else k := by
  rw [show (tn - k).toNat = 0 by omega]
  rfl
theorem kindV_bd (b : Int) : 0 ≤ kindV b ∧ kindV b ≤ 12 := by
  unfold kindV
  split
  · omega
  · split
    · omega
    · split
      · omega
      · split <;> omega
theorem kindV_47 : kindV 47 = 0 := by decide
theorem faultV_bd {tn : Int} {T : Int → Int} (h : 0 ≤ tn) : -9 ≤ faultV tn T ∧ faultV tn T ≤ tn := by
  have key : ∀ (n : Nat) (k ln pl wd : Int), 0 ≤ k → -9 ≤ fl T n k ln pl wd ∧ fl T n k ln pl wd ≤ k + n := by
    intro n
    induction n with
    | zero => intro k ln pl wd hk; unfold fl; split <;> omega
    | succ n ih =>
      intro k ln pl wd hk
      unfold fl
      split
      · split
        · omega
        · have := ih (k + 1) (ln + 1) 0 pl (by omega); omega
      · split
        · omega
        · have := ih (k + 1) ln (pl + 1) wd (by omega); omega
  have := key tn.toNat 0 0 0 12 (by omega)
  unfold faultV
  omega
/-- the lanes as a text without a fault lays them -/
def gf (T : Int → Int) : Nat → Int → Int → Int → (Int → Int) → Int × Int × (Int → Int)
  | 0, _, ln, pl, G => (ln, pl, G)
  | n + 1, k, ln, pl, G => if T k = 47 then gf T n (k + 1) (ln + 1) 0 G else gf T n (k + 1) ln (pl + 1) (iu G (12 * ln + pl) (kindV (T k)))
theorem gf_s (T : Int → Int) {tn k : Int} (h : k < tn) (ln pl : Int) (G : Int → Int) : gf T (tn - k).toNat k ln pl G = if T k = 47 then gf T (tn - (k + 1)).toNat (k + 1) (ln + 1) 0 G else gf T (tn - (k + 1)).toNat (k + 1) ln (pl + 1) (iu G (12 * ln + pl) (kindV (T k))) := by
  rw [show (tn - k).toNat = (tn - (k + 1)).toNat + 1 by omega]
  rfl
theorem gf_0 (T : Int → Int) {tn k : Int} (h : tn ≤ k) (ln pl : Int) (G : Int → Int) : gf T (tn - k).toNat k ln pl G = (ln, pl, G) := by
  rw [show (tn - k).toNat = 0 by omega]
  rfl
