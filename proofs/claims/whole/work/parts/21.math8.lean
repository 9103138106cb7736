/-! ===== many ===== -/
def opV (gl gp : Int) (GK : Int → Int) (la : Int) : Int := bI ((0 ≤ la ∧ la < gl) ∧ ¬ 0 < wallN gl gp GK la)
abbrev wl1 (OP TM S : Int → Int) (c j o : Int) : Prop := o ≠ j ∧ OP o ≠ 0 ∧ TM o + c * S o < TM j + c * (S j - 1)
abbrev wlP (OP TM S : Int → Int) (c j : Int) : Prop := wl1 OP TM S c j 0 ∨ wl1 OP TM S c j 1 ∨ wl1 OP TM S c j 2
abbrev ar1 (OP TM S : Int → Int) (c j : Int) : Prop := 0 < S j → OP j ≠ 0 ∧ ¬ wlP OP TM S c j
def ar1B (OP TM S : Int → Int) (c j : Int) : Bool := decide (0 < S j → OP j ≠ 0 ∧ ¬ wlP OP TM S c j)
def arB (OP TM S : Int → Int) (c : Int) : Bool := ar1B OP TM S c 0 && ar1B OP TM S c 1 && ar1B OP TM S c 2
abbrev arP (OP TM S : Int → Int) (c : Int) : Prop := arB OP TM S c = true
theorem arP_q {OP TM S : Int → Int} {c : Int} : arP OP TM S c ↔ ar1 OP TM S c 0 ∧ ar1 OP TM S c 1 ∧ ar1 OP TM S c 2 := by
  unfold arP arB ar1B
  rw [Bool.and_eq_true, Bool.and_eq_true, decide_eq_true_eq, decide_eq_true_eq, decide_eq_true_eq, and_assoc]
def shF (n a b : Int) : Int → Int := fun j => if j = 0 then a else if j = 1 then b else n - a - b
theorem arP_c {OP TM S S' : Int → Int} {c : Int} (h0 : S 0 = S' 0) (h1 : S 1 = S' 1) (h2 : S 2 = S' 2) : arP OP TM S c ↔ arP OP TM S' c := by
  rw [arP_q, arP_q]
  simp only [ar1, wlP, wl1, h0, h1, h2]
theorem sh_0 (F : Int → Int) (a b x : Int) : iu (iu (iu F 0 a) 1 b) 2 x 0 = a := by simp [iu]
theorem sh_1 (F : Int → Int) (a b x : Int) : iu (iu (iu F 0 a) 1 b) 2 x 1 = b := by simp [iu]
theorem sh_2 (F : Int → Int) (a b x : Int) : iu (iu (iu F 0 a) 1 b) 2 x 2 = x := by simp [iu]
theorem in3 {P : Int → Prop} (h0 : P 0) (h1 : P 1) (h2 : P 2) : ∀ j : Int, 0 ≤ j → j < 3 → P j := by
  intro j a b
  rcases (by omega : j = 0 ∨ j = 1 ∨ j = 2) with rfl | rfl | rfl
  · exact h0
  · exact h1
  · exact h2
def spI (P : Int → Int → Bool) (n a : Int) : Nat → Int × Int → Int × Int
  | 0, st => st
  | m + 1, st => spI P n a m (if P a m = true then (st.1 + 1, if st.2 = -9 then 100 * a + 10 * (m : Int) + (n - a - m) else st.2) else st)
def spO (P : Int → Int → Bool) (n : Int) : Nat → Int × Int → Int × Int
  | 0, st => st
  | m + 1, st => spO P n m (spI P n m (n - m + 1).toNat st)
def spT (P : Int → Int → Bool) (n : Int) : Int × Int := spO P n (n + 1).toNat (0, -9)
theorem spI_s (P : Int → Int → Bool) (n a : Int) {b : Int} (h : 0 ≤ b) (st : Int × Int) : spI P n a (b + 1).toNat st = spI P n a b.toNat (if P a b = true then (st.1 + 1, if st.2 = -9 then 100 * a + 10 * b + (n - a - b) else st.2) else st) := by
  obtain ⟨m, rfl⟩ : ∃ m : Nat, b = m := ⟨b.toNat, by omega⟩
  rw [show ((m : Int) + 1).toNat = m + 1 by omega, Int.toNat_natCast]
  rfl
theorem spO_s (P : Int → Int → Bool) (n : Int) {a : Int} (h : 0 ≤ a) (st : Int × Int) : spO P n (a + 1).toNat st = spO P n a.toNat (spI P n a (n - a + 1).toNat st) := by
  obtain ⟨m, rfl⟩ : ∃ m : Nat, a = m := ⟨a.toNat, by omega⟩
  rw [show ((m : Int) + 1).toNat = m + 1 by omega, Int.toNat_natCast]
  rfl
def rsP (OP TM : Int → Int) (n c a b : Int) : Bool := arB OP TM (shF n a b) c
theorem c_bd {c x : Int} (hc : 0 ≤ c ∧ c ≤ 9) (hx : -1 ≤ x ∧ x ≤ 9) : -9 ≤ c * x ∧ c * x ≤ 81 := by
  have := abs_mul_bd (a := c) (b := x) (A := 9) (B := 9) hc.1 hc.2 (by omega) hx.2 (by omega)
  have h2 : c * (-1) ≤ c * x := Int.mul_le_mul_of_nonneg_left hx.1 hc.1
  omega
theorem wl_mk {OP TM S : Int → Int} {c j k : Int} (hk : 0 ≤ k ∧ k < 3) (q : wl1 OP TM S c j k) : wlP OP TM S c j := by
  rcases (by omega : k = 0 ∨ k = 1 ∨ k = 2) with e | e | e
  · subst e; exact Or.inl q
  · subst e; exact Or.inr (Or.inl q)
  · subst e; exact Or.inr (Or.inr q)
