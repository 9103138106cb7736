/-! ===== the bytes of a long ===== -/
def byteV (v k : Int) : Int := v / 2 ^ (8 * k).toNat % 256
theorem i64_toNat (z : Int64) : z.toInt = if 2 * z.toBitVec.toNat < 2 ^ 64 then (z.toBitVec.toNat : Int) else (z.toBitVec.toNat : Int) - ((2 ^ 64 : Nat) : Int) := BitVec.toInt_eq_toNat_cond z.toBitVec
theorem and255 (z : Int64) : z &&& 255 = iL (z.toInt % 256) := by
  have h1 : (z &&& 255).toBitVec.toNat = z.toBitVec.toNat % 256 := by
    show (z.toBitVec &&& 255#64).toNat = _
    rw [BitVec.toNat_and]
    exact Nat.and_two_pow_sub_one_eq_mod _ 8
  have h2 := i64_toNat z
  have h3 : 0 ≤ z.toInt % 256 ∧ z.toInt % 256 < 256 := by omega
  rw [iL_nat' h3.1]
  apply Int64.toBitVec_inj.1
  apply BitVec.eq_of_toNat_eq
  rw [h1]
  have h4 : (lN (z.toInt % 256).toNat).toBitVec.toNat = (z.toInt % 256).toNat % 2 ^ 64 := by
    show (BitVec.ofNat 64 (z.toInt % 256).toNat).toNat = _
    rw [BitVec.toNat_ofNat]
  rw [h4]
  split at h2 <;> omega
theorem byte_u {v : Int} (rv : rL v) (c : Nat) (hc : c ≤ 56) (y : UInt64) (hy : y.toNat = c) : ((iL v).toUInt64 >>> y).toInt64 &&& 255 = iL (v / 2 ^ c % 256) := by
  rw [and255]
  have e1 := i64_toNat (iL v)
  rw [iL_t rv] at e1
  have e2 := i64_toNat ((iL v).toUInt64 >>> y).toInt64
  have e3 : ((iL v).toUInt64 >>> y).toInt64.toBitVec.toNat = (iL v).toBitVec.toNat / 2 ^ c := by
    show ((iL v).toUInt64 >>> y).toNat = _
    rw [UInt64.toNat_shiftRight, hy, Nat.mod_eq_of_lt (by omega), Nat.shiftRight_eq_div_pow]
    rfl
  rw [e3] at e2
  have hN : (iL v).toBitVec.toNat < 2 ^ 64 := (iL v).toBitVec.isLt
  congr 1
  generalize (iL v).toBitVec.toNat = n at e1 e2 hN
  have p : (0 : Nat) < 2 ^ c := Nat.pow_pos (by decide)
  -- the part above
  have q : (2 : Int) ^ 64 = 2 ^ (56 - c) * 256 * 2 ^ c := by
    rw [show (256 : Int) = 2 ^ 8 by decide, ← Int.pow_add, ← Int.pow_add]
    congr 1
    omega
  have hd : (n : Int) / 2 ^ c = ((n / 2 ^ c : Nat) : Int) := by push_cast; rfl
  have k1 : v / 2 ^ c % 256 = ((n / 2 ^ c : Nat) : Int) % 256 := by
    split at e1
    · rw [e1, hd]
    · rw [e1, show ((2 ^ 64 : Nat) : Int) = 2 ^ (56 - c) * 256 * 2 ^ c by rw [← q]; decide]
      rw [Int.sub_eq_add_neg, ← Int.neg_mul, Int.add_mul_ediv_right _ _ (by have : (0 : Int) < 2 ^ c := Int.pow_pos (by decide); omega), hd]
      rw [← Int.neg_mul]
      omega
  rw [k1, e2]
  split <;> omega
theorem byte_s {v : Int} (rv : rL v) (c : Nat) (hc : c ≤ 56) (y : Int64) (hy : (y.toBitVec.smod 64).toNat = c) : (iL v >>> y) &&& 255 = iL (v / 2 ^ c % 256) := by
  rw [and255]
  congr 1
  have e : (iL v >>> y).toInt = v / 2 ^ c := by
    show ((iL v).toBitVec.sshiftRight (y.toBitVec.smod 64).toNat).toInt = _
    rw [hy, BitVec.toInt_sshiftRight, Int.shiftRight_eq_div_pow]
    show (iL v).toInt / _ = _
    rw [iL_t rv]
    rfl
  rw [e]
theorem sh_u : ∀ n : Nat, n < 8 → ((iI (8 * (n : Int))).toInt64.toUInt64 &&& Int64.toUInt64 63).toNat = 8 * n := by decide +kernel
theorem sh_s : ∀ n : Nat, n < 8 → (((iI (8 * (n : Int))).toInt64 &&& 63).toBitVec.smod 64).toNat = 8 * n := by decide +kernel
section ZB
variable {p : Program} {l : Launch} {e : Env} {R : Room} {s : State} {m : MethodId} {args : Array Value} {below : List Frame} {meth : Method} {c : Code} {H : Heap} {locs : List Loc} {cells slots : Nat} {Q : State → Prop}
variable {cc : ByteArray} {pc : Nat} {ls : Array Slot} {rest : List Value}
theorem z_byteU (hx : p.tables.exec = Jvm.exec) (hb : c.code = cc) {own : String} {index : Nat} (hown : s.vm.findClass own = some m.cls) (hconst : (Jvm.Cond.constantLong own index 255).before args s = true) {v k : Int} (h : rL v ∧ 0 ≤ k ∧ k < 8) (d1 : decode cc pc = .ok (.lushr, 1)) (d2 : decode cc (pc + 1) = .ok (.ldc2_w index, 3)) (d3 : decode cc (pc + 4) = .ok (.land, 1)) (d4 : decode cc (pc + 5) = .ok (.l2i, 1))
    (kk : W p l e R s m args below meth c H locs cells slots Q (F0 m (pc + 6) ls (zi (byteV v k) :: rest))) : W p l e R s m args below meth c H locs cells slots Q (F0 m pc ls (zi (8 * k) :: zl v :: rest)) := by
  refine lv_lushr hx hb d1 rfl ?_
  refine lv_ldc2 hx hb hown hconst d2 ?_
  refine lv_land hx hb d3 ?_
  obtain ⟨n, rfl⟩ : ∃ n : Nat, k = n := ⟨k.toNat, by omega⟩
  rw [byte_u h.1 (8 * n) (by omega) _ (sh_u n (by omega))]
  refine z_l2i hx hb d4 ?_
  have e1 : v / 2 ^ (8 * n) % 256 = byteV v n := by
    unfold byteV
    rw [show (8 * (n : Int)).toNat = 8 * n by omega]
  rw [e1]
  exact kk
theorem z_byteS (hx : p.tables.exec = Jvm.exec) (hb : c.code = cc) {own : String} {index : Nat} (hown : s.vm.findClass own = some m.cls) (hconst : (Jvm.Cond.constantLong own index 255).before args s = true) {v k : Int} (h : rL v ∧ 0 ≤ k ∧ k < 8) (d1 : decode cc pc = .ok (.lshr, 1)) (d2 : decode cc (pc + 1) = .ok (.ldc2_w index, 3)) (d3 : decode cc (pc + 4) = .ok (.land, 1)) (d4 : decode cc (pc + 5) = .ok (.l2i, 1))
    (kk : W p l e R s m args below meth c H locs cells slots Q (F0 m (pc + 6) ls (zi (byteV v k) :: rest))) : W p l e R s m args below meth c H locs cells slots Q (F0 m pc ls (zi (8 * k) :: zl v :: rest)) := by
  refine lv_lshr hx hb d1 rfl ?_
  refine lv_ldc2 hx hb hown hconst d2 ?_
  refine lv_land hx hb d3 ?_
  obtain ⟨n, rfl⟩ : ∃ n : Nat, k = n := ⟨k.toNat, by omega⟩
  rw [byte_s h.1 (8 * n) (by omega) _ (sh_s n (by omega))]
  refine z_l2i hx hb d4 ?_
  have e1 : v / 2 ^ (8 * n) % 256 = byteV v n := by
    unfold byteV
    rw [show (8 * (n : Int)).toNat = 8 * n by omega]
  rw [e1]
  exact kk
end ZB
theorem byteV_bd (v k : Int) : 0 ≤ byteV v k ∧ byteV v k ≤ 255 := by
  unfold byteV
  omega
