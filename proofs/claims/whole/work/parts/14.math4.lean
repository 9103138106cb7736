theorem iu_fillv {F G : Int → Int} {k x : Int} (h : ∀ j : Int, 0 ≤ j → j < k → F j = G j) (hx : x = G k) : ∀ j : Int, 0 ≤ j → j < k + 1 → iu F k x j = G j := by
  subst hx
  exact iu_fill h
/-! ===== drifting ===== -/
def cmF (ac : Int → Int) : Nat → Int
  | 0 => 1
  | n + 1 => cmF ac n * ac (n : Int)
def crF (ac : Int → Int) : Nat → Int
  | 0 => 0
  | n + 1 => 10 * crF ac n + cmF ac (n + 1)
def enF (ac : Int → Int) (k : Int) : Int := cmF ac k.toNat * (10 - ac k)
def acx (gl gp gx gy : Int) (GK : Int → Int) (la lf k : Int) : Int := if lf < sgI (fun p => secV (kAt gl gp GK la p)) (k + 1) then 0 else acrV gx gy (kAt gl gp GK la k)
theorem cmF_s (ac : Int → Int) {k : Int} (h : 0 ≤ k) : cmF ac (k + 1).toNat = cmF ac k.toNat * ac k := by
  obtain ⟨n, rfl⟩ : ∃ n : Nat, k = n := ⟨k.toNat, by omega⟩
  rw [show ((n : Int) + 1).toNat = n + 1 by omega, Int.toNat_natCast]
  rfl
theorem crF_s (ac : Int → Int) {k : Int} (h : 0 ≤ k) : crF ac (k + 1).toNat = 10 * crF ac k.toNat + cmF ac (k + 1).toNat := by
  obtain ⟨n, rfl⟩ : ∃ n : Nat, k = n := ⟨k.toNat, by omega⟩
  rw [show ((n : Int) + 1).toNat = n + 1 by omega, Int.toNat_natCast]
  rfl
theorem acx_bd {gl gp gx gy : Int} {GK : Int → Int} (h : gOK gl gp gx gy GK) (la lf k : Int) : 0 ≤ acx gl gp gx gy GK la lf k ∧ acx gl gp gx gy GK la lf k ≤ 10 := by
  unfold acx
  split
  · omega
  · exact acrV_bd h.2.2.1 h.2.2.2.1
theorem cmF_bd {ac : Int → Int} (h : ∀ k, 0 ≤ ac k ∧ ac k ≤ 10) : ∀ n : Nat, 0 ≤ cmF ac n ∧ cmF ac n ≤ 10 ^ n
  | 0 => by simp [cmF]
  | n + 1 => by
    have h1 := cmF_bd h n
    have h2 := h (n : Int)
    have := mul_bd (a := cmF ac n) (b := ac n) (A := 10 ^ n) (B := 10) h1.1 h1.2 h2.1 h2.2
    show 0 ≤ cmF ac n * ac n ∧ cmF ac n * ac n ≤ 10 ^ (n + 1)
    rw [Int.pow_succ]
    exact this
/-! ===== runs ===== -/
def rOK (rn : Int) (RF RB : Int → Int) : Prop := (0 ≤ rn ∧ rn ≤ 12) ∧ ∀ k : Int, 0 ≤ k → k < rn → (0 ≤ RF k ∧ RF k ≤ 99) ∧ (RB k = 0 ∨ RB k = 1)
def rset (RB : Int → Int) (n : Int) : Int := sgI (fun j => RB j * 2 ^ j.toNat) n
def sumF (rn : Int) (RF : Int → Int) (t : Int) : Int := sgI (fun j => t / 2 ^ j.toNat % 2 * RF j) rn
def popI (x : Int) : Int := sgI (fun j => x / 2 ^ j.toNat % 2) 12
theorem two_pos (n : Nat) : (0 : Int) < 2 ^ n := Int.pow_pos (by decide)
theorem two_le {n m : Nat} (h : n ≤ m) : (2 : Int) ^ n ≤ 2 ^ m := by exact_mod_cast Nat.pow_le_pow_right (by decide : 0 < 2) h
theorem bor_0 {v : Int} (h : 0 ≤ v) : bor v 0 = v := by
  show ((v.toNat ||| 0 : Nat) : Int) = v
  rw [Nat.or_zero]
  omega
theorem bor_add {v : Int} {k : Nat} (h0 : 0 ≤ v) (h1 : v < 2 ^ k) : bor v (1 * 2 ^ k) = v + 2 ^ k := by
  obtain ⟨n, rfl⟩ : ∃ n : Nat, v = n := ⟨v.toNat, by omega⟩
  have h2 : n < 2 ^ k := by exact_mod_cast h1
  have e : ((1 : Int) * 2 ^ k).toNat = 2 ^ k := by
    rw [Int.one_mul]
    have : ((2 : Int) ^ k) = ((2 ^ k : Nat) : Int) := by push_cast; rfl
    rw [this, Int.toNat_natCast]
  show ((((n : Int).toNat ||| ((1 : Int) * 2 ^ k).toNat : Nat)) : Int) = _
  rw [e, Int.toNat_natCast, Nat.or_comm]
  have h3 := Nat.two_pow_add_eq_or_of_lt h2 1
  rw [Nat.mul_one] at h3
  rw [← h3]
  push_cast
  omega
theorem rset_bd {RB : Int → Int} {n : Int} (h0 : 0 ≤ n) (h : ∀ k : Int, 0 ≤ k → k < n → RB k = 0 ∨ RB k = 1) : 0 ≤ rset RB n ∧ rset RB n < 2 ^ n.toNat := by
  obtain ⟨k, rfl⟩ : ∃ k : Nat, n = k := ⟨n.toNat, by omega⟩
  clear h0
  induction k with
  | zero => exact ⟨Int.le_refl 0, by show (0 : Int) < 1; decide⟩
  | succ k ih =>
    have i1 := ih (fun j a b => h j a (by omega))
    rcases h (k : Int) (by omega) (by omega) with e | e
    all_goals
      show 0 ≤ sgI (fun j => RB j * 2 ^ j.toNat) ((k : Int) + 1) ∧ sgI (fun j => RB j * 2 ^ j.toNat) ((k : Int) + 1) < 2 ^ (k + 1)
      rw [sgI_s _ (by omega), e, Int.pow_succ, Int.toNat_natCast]
      have i2 : 0 ≤ sgI (fun j => RB j * 2 ^ j.toNat) (k : Int) ∧ sgI (fun j => RB j * 2 ^ j.toNat) (k : Int) < 2 ^ k := i1
      have := two_pos k
      omega
theorem popI_bd (x : Int) : 0 ≤ popI x ∧ popI x ≤ 12 := by
  have h := sgI_bd (f := fun j => x / 2 ^ j.toNat % 2) (c := 1) (n := 12) (by omega) (by omega) (fun k _ _ => by
    have h1 := Int.emod_nonneg (x / 2 ^ k.toNat) (by decide : (2 : Int) ≠ 0)
    have h2 := Int.emod_lt_of_pos (x / 2 ^ k.toNat) (by decide : (0 : Int) < 2)
    constructor <;> omega)
  have h0 := sg_nn (f := fun j => x / 2 ^ j.toNat % 2) (fun k _ => Int.emod_nonneg _ (by decide)) 12
  show 0 ≤ sg (fun j => x / 2 ^ j.toNat % 2) 12 ∧ sgI (fun j => x / 2 ^ j.toNat % 2) 12 ≤ 12
  omega
theorem sumF_bd {rn : Int} {RF RB : Int → Int} (h : rOK rn RF RB) (t : Int) {k : Int} (h0 : 0 ≤ k) (h1 : k ≤ rn) : 0 ≤ sgI (fun j => t / 2 ^ j.toNat % 2 * RF j) k ∧ sgI (fun j => t / 2 ^ j.toNat % 2 * RF j) k ≤ 99 * k := by
  obtain ⟨n, rfl⟩ : ∃ n : Nat, k = n := ⟨k.toNat, by omega⟩
  clear h0
  induction n with
  | zero => exact ⟨Int.le_refl 0, Int.le_refl 0⟩
  | succ n ih =>
    have i1 := ih (by omega)
    have i2 := h.2 (n : Int) (by omega) (by omega)
    have e1 := Int.emod_nonneg (t / 2 ^ (n : Int).toNat) (by decide : (2 : Int) ≠ 0)
    have e2 := Int.emod_lt_of_pos (t / 2 ^ (n : Int).toNat) (by decide : (0 : Int) < 2)
    have e3 := mul_bd (a := t / 2 ^ (n : Int).toNat % 2) (b := RF n) (A := 1) (B := 99) e1 (by omega) i2.1.1 i2.1.2
    show 0 ≤ sgI (fun j => t / 2 ^ j.toNat % 2 * RF j) ((n : Int) + 1) ∧ sgI (fun j => t / 2 ^ j.toNat % 2 * RF j) ((n : Int) + 1) ≤ 99 * ((n : Int) + 1)
    rw [sgI_s _ (by omega)]
    omega
def allV (rn many : Int) : Int := sgI (fun t => bI (popI t = many)) (1 * 2 ^ rn.toNat)
def luckV (rn : Int) (RF : Int → Int) (many tog : Int) : Int := sgI (fun t => bI (popI t = many ∧ tog ≤ sumF rn RF t)) (1 * 2 ^ rn.toNat)
theorem sgb_bd (P : Int → Prop) [DecidablePred P] {n : Int} (h0 : 0 ≤ n) : 0 ≤ sgI (fun t => bI (P t)) n ∧ sgI (fun t => bI (P t)) n ≤ n := by
  have h := sgI_bd (f := fun t => bI (P t)) (c := 1) (n := n) (by omega) h0 (fun k _ _ => by
    have h1 := bI_nn (P k)
    have h2 := bI_le1 (P k)
    constructor <;> omega)
  have h2 := sgI_mono (f := fun t => bI (P t)) (fun k _ => bI_nn _) h0
  rw [sgI_0] at h2
  omega
theorem pow12 {n : Int} (h : 0 ≤ n ∧ n ≤ 12) : 1 ≤ (1 : Int) * 2 ^ n.toNat ∧ (1 : Int) * 2 ^ n.toNat ≤ 4096 := by
  have h1 := two_pos n.toNat
  have h2 := two_le (show n.toNat ≤ 12 by omega)
  have h3 : (2 : Int) ^ 12 = 4096 := by decide
  omega
/-! ===== the count of bits ===== -/
def bcF (x : Int32) : Int32 := ((fun x4 : Int32 => (x4 + (x4.toUInt32 >>> ((16 : Int32).toUInt32 &&& Int32.toUInt32 31)).toInt32) &&& 63) ((fun x3 : Int32 => x3 + (x3.toUInt32 >>> ((8 : Int32).toUInt32 &&& Int32.toUInt32 31)).toInt32) ((fun x2 : Int32 => (x2 + (x2.toUInt32 >>> ((4 : Int32).toUInt32 &&& Int32.toUInt32 31)).toInt32) &&& 252645135) ((fun x1 : Int32 => (x1 &&& 858993459) + ((x1.toUInt32 >>> ((2 : Int32).toUInt32 &&& Int32.toUInt32 31)).toInt32 &&& 858993459)) (x - ((x.toUInt32 >>> ((1 : Int32).toUInt32 &&& Int32.toUInt32 31)).toInt32 &&& 1431655765))))))
theorem bcF_ok2 : ∀ a : Nat, a < 64 → ∀ b : Nat, b < 64 → bcF (nI (64 * a + b)) = iI (popI ((64 * a + b : Nat) : Int)) := by decide +kernel
theorem bcF_ok {x : Int} (h : 0 ≤ x ∧ x < 4096) : bcF (iI x) = iI (popI x) := by
  have h1 := bcF_ok2 (x.toNat / 64) (by omega) (x.toNat % 64) (by omega)
  rw [show 64 * (x.toNat / 64) + x.toNat % 64 = x.toNat by omega, show ((x.toNat : Nat) : Int) = x by omega] at h1
  rw [iI_nat' h.1]
  exact h1
