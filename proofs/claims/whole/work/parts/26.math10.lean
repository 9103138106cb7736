/-! ===== the model's boats in rows ===== -/
def mCI (MC : Int → Int) (k : Int) : Int → Int := fun c => MC (24 * k + 3 * c)
def mCJ (MC : Int → Int) (k : Int) : Int → Int := fun c => MC (24 * k + 3 * c + 1)
def mCW (MC : Int → Int) (k : Int) : Int → Int := fun c => MC (24 * k + 3 * c + 2)
def mbOK (fn : Int) (MB MC : Int → Int) : Prop := (0 ≤ fn ∧ fn ≤ 6) ∧ ∀ k : Int, 0 ≤ k → k < fn → bOK (MB (7 * k)) (MB (7 * k + 1)) (MB (7 * k + 2)) (MB (7 * k + 3)) (MB (7 * k + 4)) (MB (7 * k + 5)) (MB (7 * k + 6)) (mCI MC k) (mCJ MC k) (mCW MC k)
def valV (b : Int) : Int := if 49 ≤ b ∧ b ≤ 57 then b - 48 else if b = 76 then 10 else if b = 68 then 11 else if b = 87 then 12 else -9
theorem valV_k (b : Int) : (valV b = -9 ↔ kindV b = 0) ∧ (valV b ≠ -9 → valV b = kindV b) ∧ -9 ≤ valV b ∧ valV b ≤ 12 := by
  unfold valV kindV
  (repeat' split) <;> omega
theorem full_bs {f : Int → Int} {n : Int} (hn : 0 ≤ n) : bs f n (1 * 2 ^ n.toNat - 1) = sgI f n := by
  have p := two_pos n.toNat
  refine sgI_congr (fun c c0 c1 => ?_)
  rw [full_bit hn (by omega) (by omega) c0 c1, Int.one_mul]
theorem wOf_sum {bn : Int} {CW : Int → Int} : sgI (wOf bn CW) bn = sgI CW bn := sgI_congr (fun k k0 k1 => if_pos ⟨k0, k1⟩)
theorem mom_sum {bn a : Int} {C CW : Int → Int} : momV bn a C CW = sgI (pullC a C CW) bn := sgI_congr (fun k k0 k1 => if_pos ⟨k0, k1⟩)
theorem wAt_bs {bl bw bt bd bn : Int} {CW : Int → Int} (hn : 0 ≤ bn) (s : Int) : bl * bw * bt + bs CW bn (1 * 2 ^ bn.toNat - 1) + s * bd = wAt bl bw bt bd bn CW s := by
  unfold wAt
  rw [full_bs hn, wOf_sum]
  omega
theorem mom_bs {bn a : Int} {C CW : Int → Int} (hn : 0 ≤ bn) : bs (pullC a C CW) bn (1 * 2 ^ bn.toNat - 1) = momV bn a C CW := by
  rw [full_bs hn, mom_sum]
/-- the model's way of the corner -/
theorem cor_eq (a b wt m n : Int) : wt * a * b + 3 * max m (-m) * b + 3 * max n (-n) * a = corV a b wt m n := by
  unfold corV
  rw [Int.mul_assoc wt a b]
theorem unit_eq (a b : Int) : 100 * a * a * b * b = unitV a b := by
  unfold unitV
  ac_rfl
theorem pull_assoc (x w z : Int) : x * w * z = x * (w * z) := Int.mul_assoc x w z
