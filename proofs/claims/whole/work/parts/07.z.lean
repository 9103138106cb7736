/-! ===== numbers: ints and longs as whole numbers ===== -/
def iI (z : Int) : Int32 := Int32.ofInt z
def iL (z : Int) : Int64 := Int64.ofInt z
abbrev zi (z : Int) : Value := .int (iI z)
abbrev zl (z : Int) : Value := .long (iL z)
abbrev rI (z : Int) : Prop := -2147483648 ≤ z ∧ z < 2147483648
abbrev rL (z : Int) : Prop := -9223372036854775808 ≤ z ∧ z < 9223372036854775808
def bI (P : Prop) [Decidable P] : Int := if P then 1 else 0
theorem bI_t {P : Prop} [Decidable P] (h : P) : bI P = 1 := if_pos h
theorem bI_f {P : Prop} [Decidable P] (h : ¬ P) : bI P = 0 := if_neg h
theorem bI_cases (P : Prop) [Decidable P] : (P ∧ bI P = 1) ∨ (¬ P ∧ bI P = 0) := by
  by_cases h : P
  · exact Or.inl ⟨h, bI_t h⟩
  · exact Or.inr ⟨h, bI_f h⟩
theorem iI_add (a b : Int) : iI a + iI b = iI (a + b) := (Int32.ofInt_add a b).symm
theorem iI_sub (a b : Int) : iI a - iI b = iI (a - b) := (Int32.ofInt_sub a b).symm
theorem iI_mul (a b : Int) : iI a * iI b = iI (a * b) := (Int32.ofInt_mul a b).symm
theorem iI_neg (a : Int) : -iI a = iI (-a) := (Int32.ofInt_neg a).symm
theorem iL_add (a b : Int) : iL a + iL b = iL (a + b) := (Int64.ofInt_add a b).symm
theorem iL_sub (a b : Int) : iL a - iL b = iL (a - b) := (Int64.ofInt_sub a b).symm
theorem iL_mul (a b : Int) : iL a * iL b = iL (a * b) := (Int64.ofInt_mul a b).symm
theorem iL_neg (a : Int) : -iL a = iL (-a) := (Int64.ofInt_neg a).symm
theorem iI_t {z : Int} (h : rI z) : (iI z).toInt = z := by
  show (Int32.ofInt z).toInt = z
  rw [Int32.toInt_ofInt]
  show z.bmod 4294967296 = z
  exact Int.bmod_eq_of_le (by omega) (by omega)
theorem iL_t {z : Int} (h : rL z) : (iL z).toInt = z := by
  show (Int64.ofInt z).toInt = z
  rw [Int64.toInt_ofInt]
  show z.bmod 18446744073709551616 = z
  exact Int.bmod_eq_of_le (by omega) (by omega)
theorem iI_lt {x y : Int} (hx : rI x) (hy : rI y) : iI x < iI y ↔ x < y := by rw [Int32.lt_iff_toInt_lt, iI_t hx, iI_t hy]
theorem iI_le {x y : Int} (hx : rI x) (hy : rI y) : iI x ≤ iI y ↔ x ≤ y := by rw [Int32.le_iff_toInt_le, iI_t hx, iI_t hy]
theorem iI_eq {x y : Int} (hx : rI x) (hy : rI y) : iI x = iI y ↔ x = y := by rw [← Int32.toInt_inj, iI_t hx, iI_t hy]
theorem iL_lt {x y : Int} (hx : rL x) (hy : rL y) : iL x < iL y ↔ x < y := by rw [Int64.lt_iff_toInt_lt, iL_t hx, iL_t hy]
theorem iL_eq {x y : Int} (hx : rL x) (hy : rL y) : iL x = iL y ↔ x = y := by rw [← Int64.toInt_inj, iL_t hx, iL_t hy]
theorem iI_as (x : Int32) : iI x.toInt = x := Int32.ofInt_toInt x
theorem iL_as (x : Int64) : iL x.toInt = x := Int64.ofInt_toInt x
theorem rI_of (x : Int32) : rI x.toInt := by
  have h1 := Int32.le_toInt x
  have h2 := Int32.toInt_lt x
  constructor <;> omega
theorem rL_of (x : Int64) : rL x.toInt := by
  have h1 := Int64.le_toInt x
  have h2 := Int64.toInt_lt x
  constructor <;> omega
theorem iI_l {z : Int} (h : rI z) : (iI z).toInt64 = iL z := by
  rw [← Int64.toInt_inj, Int32.toInt_toInt64, iI_t h, iL_t (by omega)]
theorem iL_i (z : Int) : (iL z).toInt32 = iI z := Int64.toInt32_ofInt
theorem iI_0 : (0 : Int32) = iI 0 := rfl
theorem iI_nat (n : Nat) : iI (n : Int) = nI n := Int32.ofInt_eq_ofNat
theorem iL_nat (n : Nat) : iL (n : Int) = lN n := Int64.ofInt_eq_ofNat
theorem iI_in {i : Int} {n : Nat} (h : 0 ≤ i ∧ i < n) (hn : n < 2 ^ 31) : vp_in (iI i) n := by
  rw [vp_in_iff, iI_t (by omega)]
  exact h
theorem iI_nat' {i : Int} (h : 0 ≤ i) : iI i = nI i.toNat := by
  rw [← iI_nat]
  congr 1
  omega
theorem iI_cl {i : Int} (h : 0 ≤ i ∧ i < 2 ^ 31) : (iI i).toNatClampNeg = i.toNat := by
  rw [iI_nat' h.1, nI_clamp (by omega)]
theorem iI_div {x y : Int} (hx : 0 ≤ x) (hy : 0 < y) (rx : x < 2 ^ 31) (ry : y < 2 ^ 31) : iI x / iI y = iI (x / y) := by
  rw [iI_nat' hx, iI_nat' (by omega), pk_div (by omega) (by omega) (by omega), ← iI_nat]
  congr 1
  rw [Int.natCast_ediv]
  congr 1 <;> omega
theorem iL_nat' {i : Int} (h : 0 ≤ i) : iL i = lN i.toNat := by
  rw [← iL_nat]
  congr 1
  omega
theorem iL_div {x y : Int} (hx : 0 ≤ x) (hy : 0 < y) (rx : x < 2 ^ 63) (ry : y < 2 ^ 63) : iL x / iL y = iL (x / y) := by
  rw [iL_nat' hx, iL_nat' (by omega), pk_lDiv (by omega) (by omega) (by omega), ← iL_nat]
  congr 1
  rw [Int.natCast_ediv]
  congr 1 <;> omega
theorem iL_rem {x y : Int} (hx : 0 ≤ x) (hy : 0 < y) (rx : x < 2 ^ 63) (ry : y < 2 ^ 63) : iL x - iL x / iL y * iL y = iL (x % y) := by
  rw [iL_div hx hy rx ry, iL_mul, iL_sub, Int.emod_def, Int.mul_comm]
def cI (F : Int → Int) : Nat → Int32 := fun j => iI (F (j : Int))
def cL (F : Int → Int) : Nat → Int64 := fun j => iL (F (j : Int))
def iu (F : Int → Int) (i x : Int) : Int → Int := fun j => if j = i then x else F j
theorem iu_s {F : Int → Int} {i x : Int} : iu F i x i = x := if_pos rfl
theorem iu_e {F : Int → Int} {i x j : Int} (h : j = i) : iu F i x j = x := if_pos h
theorem iu_n {F : Int → Int} {i x j : Int} (h : j ≠ i) : iu F i x j = F j := if_neg h
theorem cI_at {F : Int → Int} {i : Int} (h : 0 ≤ i ∧ i < 2 ^ 31) : cI F (iI i).toNatClampNeg = iI (F i) := by
  rw [iI_cl h]
  show iI (F (i.toNat : Int)) = _
  rw [Int.toNat_of_nonneg h.1]
theorem cL_at {F : Int → Int} {i : Int} (h : 0 ≤ i ∧ i < 2 ^ 31) : cL F (iI i).toNatClampNeg = iL (F i) := by
  rw [iI_cl h]
  show iL (F (i.toNat : Int)) = _
  rw [Int.toNat_of_nonneg h.1]
theorem cI_up {F : Int → Int} {i x : Int} (h : 0 ≤ i ∧ i < 2 ^ 31) : upd (cI F) (iI i).toNatClampNeg (iI x) = cI (iu F i x) := by
  rw [iI_cl h]
  funext j
  by_cases e : j = i.toNat
  · subst e
    rw [pk_us]
    show _ = iI (iu F i x _)
    rw [iu_e (Int.toNat_of_nonneg h.1)]
  · rw [pk_un e]
    show _ = iI (iu F i x _)
    rw [iu_n (by omega)]
    rfl
theorem cL_up {F : Int → Int} {i x : Int} (h : 0 ≤ i ∧ i < 2 ^ 31) : vp_updL (cL F) (iI i).toNatClampNeg (iL x) = cL (iu F i x) := by
  rw [iI_cl h]
  funext j
  by_cases e : j = i.toNat
  · subst e
    rw [pk_uLs]
    show _ = iL (iu F i x _)
    rw [iu_e (Int.toNat_of_nonneg h.1)]
  · rw [pk_uLn e]
    show _ = iL (iu F i x _)
    rw [iu_n (by omega)]
    rfl
theorem lg_cmp_iL {x y : Int} (hx : rL x) (hy : rL y) : lg_cmp (iL x) (iL y) = iI (if x < y then -1 else if x = y then 0 else 1) := by
  have h1 := iL_lt hy hx
  have h2 := iL_eq hx hy
  unfold lg_cmp
  by_cases a : y < x
  · have b : ¬ x < y := by omega
    have c : ¬ x = y := by omega
    simp [h1, h2, a, b, c]
    try rfl
  · by_cases c : x = y
    · subst c
      simp [h1, h2]
      try rfl
    · have b : x < y := by omega
      simp [h1, h2, a, b, c]
      try rfl
/-! ===== instructions over whole numbers ===== -/
section ZR
variable {p : Program} {l : Launch} {e : Env} {R : Room} {s : State} {m : MethodId} {args : Array Value} {below : List Frame} {meth : Method} {c : Code} {H : Heap} {locs : List Loc} {cells slots : Nat} {Q : State → Prop}
variable {cc : ByteArray} {pc : Nat} {ls : Array Slot} {rest : List Value}
theorem z_iconst (hx : p.tables.exec = Jvm.exec) (hb : c.code = cc) {n : Int} (hdg : decode cc pc = .ok (.iconst n, 1)) (k : W p l e R s m args below meth c H locs cells slots Q (F0 m (pc + 1) ls (zi n :: rest))) : W p l e R s m args below meth c H locs cells slots Q (F0 m pc ls rest) := lv_iconst hx hb hdg rfl k
theorem z_bipush (hx : p.tables.exec = Jvm.exec) (hb : c.code = cc) {n : Int} (hdg : decode cc pc = .ok (.bipush n, 2)) (hv : (Int8.ofInt n).toInt32 = Int32.ofInt n) (k : W p l e R s m args below meth c H locs cells slots Q (F0 m (pc + 2) ls (zi n :: rest))) : W p l e R s m args below meth c H locs cells slots Q (F0 m pc ls rest) := lv_bipush hx hb hdg hv k
theorem z_sipush (hx : p.tables.exec = Jvm.exec) (hb : c.code = cc) {n : Int} (hdg : decode cc pc = .ok (.sipush n, 3)) (hv : (Int16.ofInt n).toInt32 = Int32.ofInt n) (k : W p l e R s m args below meth c H locs cells slots Q (F0 m (pc + 3) ls (zi n :: rest))) : W p l e R s m args below meth c H locs cells slots Q (F0 m pc ls rest) := lv_sipush hx hb hdg hv k
theorem z_iadd (hx : p.tables.exec = Jvm.exec) (hb : c.code = cc) {x y : Int} (hdg : decode cc pc = .ok (.iadd, 1)) (k : W p l e R s m args below meth c H locs cells slots Q (F0 m (pc + 1) ls (zi (x + y) :: rest))) : W p l e R s m args below meth c H locs cells slots Q (F0 m pc ls (zi y :: zi x :: rest)) := lv_iadd hx hb hdg (by rw [iI_add]; exact k)
theorem z_isub (hx : p.tables.exec = Jvm.exec) (hb : c.code = cc) {x y : Int} (hdg : decode cc pc = .ok (.isub, 1)) (k : W p l e R s m args below meth c H locs cells slots Q (F0 m (pc + 1) ls (zi (x - y) :: rest))) : W p l e R s m args below meth c H locs cells slots Q (F0 m pc ls (zi y :: zi x :: rest)) := lv_isub hx hb hdg (by rw [iI_sub]; exact k)
theorem z_imul (hx : p.tables.exec = Jvm.exec) (hb : c.code = cc) {x y : Int} (hdg : decode cc pc = .ok (.imul, 1)) (k : W p l e R s m args below meth c H locs cells slots Q (F0 m (pc + 1) ls (zi (x * y) :: rest))) : W p l e R s m args below meth c H locs cells slots Q (F0 m pc ls (zi y :: zi x :: rest)) := lv_imul hx hb hdg (by rw [iI_mul]; exact k)
theorem z_ineg (hx : p.tables.exec = Jvm.exec) (hb : c.code = cc) {x : Int} (hdg : decode cc pc = .ok (.ineg, 1)) (k : W p l e R s m args below meth c H locs cells slots Q (F0 m (pc + 1) ls (zi (-x) :: rest))) : W p l e R s m args below meth c H locs cells slots Q (F0 m pc ls (zi x :: rest)) := lv_ineg hx hb hdg (by rw [iI_neg]; exact k)
theorem z_idiv (hx : p.tables.exec = Jvm.exec) (hb : c.code = cc) {x y : Int} (h : 0 ≤ x ∧ x < 2 ^ 31 ∧ 0 < y ∧ y < 2 ^ 31) (hdg : decode cc pc = .ok (.idiv, 1)) (k : W p l e R s m args below meth c H locs cells slots Q (F0 m (pc + 1) ls (zi (x / y) :: rest))) : W p l e R s m args below meth c H locs cells slots Q (F0 m pc ls (zi y :: zi x :: rest)) := lv_idiv hx hb hdg (fun q => by rw [iI_0, iI_eq (by omega) (by omega)] at q; omega) (by rw [iI_div h.1 h.2.2.1 h.2.1 h.2.2.2]; exact k)
theorem z_ladd (hx : p.tables.exec = Jvm.exec) (hb : c.code = cc) {x y : Int} (hdg : decode cc pc = .ok (.ladd, 1)) (k : W p l e R s m args below meth c H locs cells slots Q (F0 m (pc + 1) ls (zl (x + y) :: rest))) : W p l e R s m args below meth c H locs cells slots Q (F0 m pc ls (zl y :: zl x :: rest)) := lv_ladd hx hb hdg (by rw [iL_add]; exact k)
theorem z_lsub (hx : p.tables.exec = Jvm.exec) (hb : c.code = cc) {x y : Int} (hdg : decode cc pc = .ok (.lsub, 1)) (k : W p l e R s m args below meth c H locs cells slots Q (F0 m (pc + 1) ls (zl (x - y) :: rest))) : W p l e R s m args below meth c H locs cells slots Q (F0 m pc ls (zl y :: zl x :: rest)) := lv_lsub hx hb hdg (by rw [iL_sub]; exact k)
theorem z_lmul (hx : p.tables.exec = Jvm.exec) (hb : c.code = cc) {x y : Int} (hdg : decode cc pc = .ok (.lmul, 1)) (k : W p l e R s m args below meth c H locs cells slots Q (F0 m (pc + 1) ls (zl (x * y) :: rest))) : W p l e R s m args below meth c H locs cells slots Q (F0 m pc ls (zl y :: zl x :: rest)) := lv_lmul hx hb hdg (by rw [iL_mul]; exact k)
theorem z_lneg (hx : p.tables.exec = Jvm.exec) (hb : c.code = cc) {x : Int} (hdg : decode cc pc = .ok (.lneg, 1)) (k : W p l e R s m args below meth c H locs cells slots Q (F0 m (pc + 1) ls (zl (-x) :: rest))) : W p l e R s m args below meth c H locs cells slots Q (F0 m pc ls (zl x :: rest)) := lv_lneg hx hb hdg (by rw [iL_neg]; exact k)
theorem iL_ne0 {y : Int} (h : 0 < y ∧ y < 2 ^ 63) : ¬ iL y = 0 := fun q => by
  rw [show (0 : Int64) = iL 0 from rfl, iL_eq (by omega) (by omega)] at q
  omega
theorem z_ldiv (hx : p.tables.exec = Jvm.exec) (hb : c.code = cc) {x y : Int} (h : 0 ≤ x ∧ x < 2 ^ 63 ∧ 0 < y ∧ y < 2 ^ 63) (hdg : decode cc pc = .ok (.ldiv, 1)) (k : W p l e R s m args below meth c H locs cells slots Q (F0 m (pc + 1) ls (zl (x / y) :: rest))) : W p l e R s m args below meth c H locs cells slots Q (F0 m pc ls (zl y :: zl x :: rest)) := lv_ldiv hx hb hdg (iL_ne0 h.2.2) (by rw [iL_div h.1 h.2.2.1 h.2.1 h.2.2.2]; exact k)
theorem z_lrem (hx : p.tables.exec = Jvm.exec) (hb : c.code = cc) {x y : Int} (h : 0 ≤ x ∧ x < 2 ^ 63 ∧ 0 < y ∧ y < 2 ^ 63) (hdg : decode cc pc = .ok (.lrem, 1)) (k : W p l e R s m args below meth c H locs cells slots Q (F0 m (pc + 1) ls (zl (x % y) :: rest))) : W p l e R s m args below meth c H locs cells slots Q (F0 m pc ls (zl y :: zl x :: rest)) := lv_lrem hx hb hdg (iL_ne0 h.2.2) (by rw [iL_rem h.1 h.2.2.1 h.2.1 h.2.2.2]; exact k)
theorem z_i2l (hx : p.tables.exec = Jvm.exec) (hb : c.code = cc) {x : Int} (h : rI x) (hdg : decode cc pc = .ok (.i2l, 1)) (k : W p l e R s m args below meth c H locs cells slots Q (F0 m (pc + 1) ls (zl x :: rest))) : W p l e R s m args below meth c H locs cells slots Q (F0 m pc ls (zi x :: rest)) := lv_i2l hx hb hdg (iI_l h) k
theorem z_l2i (hx : p.tables.exec = Jvm.exec) (hb : c.code = cc) {x : Int} (hdg : decode cc pc = .ok (.l2i, 1)) (k : W p l e R s m args below meth c H locs cells slots Q (F0 m (pc + 1) ls (zi x :: rest))) : W p l e R s m args below meth c H locs cells slots Q (F0 m pc ls (zl x :: rest)) := lv_l2i hx hb hdg (iL_i x) k
theorem z_icmp_lt (hx : p.tables.exec = Jvm.exec) (hb : c.code = cc) {x y off : Int} {tgt : Nat} (rx : rI x) (ry : rI y) (hdg : decode cc pc = .ok (.if_icmp .lt off, 3)) (ht : (pc : Int) + off = (tgt : Int)) (kt : x < y → W p l e R s m args below meth c H locs cells slots Q (F0 m tgt ls rest)) (kf : ¬ (x < y) → W p l e R s m args below meth c H locs cells slots Q (F0 m (pc + 3) ls rest)) : W p l e R s m args below meth c H locs cells slots Q (F0 m pc ls (zi y :: zi x :: rest)) := lv_icmp_lt hx hb hdg ht (fun h => kt ((iI_lt rx ry).mp h)) (fun h => kf (fun q => h ((iI_lt rx ry).mpr q)))
theorem z_if_lt (hx : p.tables.exec = Jvm.exec) (hb : c.code = cc) {x off : Int} {tgt : Nat} (rx : rI x) (hdg : decode cc pc = .ok (.ifCond .lt off, 3)) (ht : (pc : Int) + off = (tgt : Int)) (kt : x < 0 → W p l e R s m args below meth c H locs cells slots Q (F0 m tgt ls rest)) (kf : ¬ (x < 0) → W p l e R s m args below meth c H locs cells slots Q (F0 m (pc + 3) ls rest)) : W p l e R s m args below meth c H locs cells slots Q (F0 m pc ls (zi x :: rest)) := lv_if_lt hx hb hdg ht (fun h => kt ((iI_lt rx (by omega)).mp h)) (fun h => kf (fun q => h ((iI_lt rx (by omega)).mpr q)))
theorem z_lcmp_lt (hx : p.tables.exec = Jvm.exec) (hb : c.code = cc) {x y off : Int} {tgt : Nat} (rx : rL x) (ry : rL y) (hd1 : decode cc pc = .ok (.lcmp, 1)) (hd2 : decode cc (pc + 1) = .ok (.ifCond .lt off, 3)) (ht : ((pc + 1 : Nat) : Int) + off = (tgt : Int)) (kt : x < y → W p l e R s m args below meth c H locs cells slots Q (F0 m tgt ls rest)) (kf : ¬ (x < y) → W p l e R s m args below meth c H locs cells slots Q (F0 m (pc + 1 + 3) ls rest)) : W p l e R s m args below meth c H locs cells slots Q (F0 m pc ls (zl y :: zl x :: rest)) := by
  refine W.lcmp hx hb hd1 ?_
  rw [lg_cmp_iL rx ry]
  by_cases h1 : x < y
  · rw [if_pos h1]
    exact z_if_lt hx hb (by omega) hd2 ht (fun _ => kt (by omega)) (fun _ => kf (by omega))
  · rw [if_neg h1]
    by_cases h2 : x = y
    · rw [if_pos h2]
      exact z_if_lt hx hb (by omega) hd2 ht (fun _ => kt (by omega)) (fun _ => kf (by omega))
    · rw [if_neg h2]
      exact z_if_lt hx hb (by omega) hd2 ht (fun _ => kt (by omega)) (fun _ => kf (by omega))
theorem z_icmp_ge (hx : p.tables.exec = Jvm.exec) (hb : c.code = cc) {x y off : Int} {tgt : Nat} (rx : rI x) (ry : rI y) (hdg : decode cc pc = .ok (.if_icmp .ge off, 3)) (ht : (pc : Int) + off = (tgt : Int)) (kt : y ≤ x → W p l e R s m args below meth c H locs cells slots Q (F0 m tgt ls rest)) (kf : ¬ (y ≤ x) → W p l e R s m args below meth c H locs cells slots Q (F0 m (pc + 3) ls rest)) : W p l e R s m args below meth c H locs cells slots Q (F0 m pc ls (zi y :: zi x :: rest)) := lv_icmp_ge hx hb hdg ht (fun h => kt ((iI_le ry rx).mp h)) (fun h => kf (fun q => h ((iI_le ry rx).mpr q)))
theorem z_if_ge (hx : p.tables.exec = Jvm.exec) (hb : c.code = cc) {x off : Int} {tgt : Nat} (rx : rI x) (hdg : decode cc pc = .ok (.ifCond .ge off, 3)) (ht : (pc : Int) + off = (tgt : Int)) (kt : 0 ≤ x → W p l e R s m args below meth c H locs cells slots Q (F0 m tgt ls rest)) (kf : ¬ (0 ≤ x) → W p l e R s m args below meth c H locs cells slots Q (F0 m (pc + 3) ls rest)) : W p l e R s m args below meth c H locs cells slots Q (F0 m pc ls (zi x :: rest)) := lv_if_ge hx hb hdg ht (fun h => kt ((iI_le (by omega) rx).mp h)) (fun h => kf (fun q => h ((iI_le (by omega) rx).mpr q)))
theorem z_lcmp_ge (hx : p.tables.exec = Jvm.exec) (hb : c.code = cc) {x y off : Int} {tgt : Nat} (rx : rL x) (ry : rL y) (hd1 : decode cc pc = .ok (.lcmp, 1)) (hd2 : decode cc (pc + 1) = .ok (.ifCond .ge off, 3)) (ht : ((pc + 1 : Nat) : Int) + off = (tgt : Int)) (kt : y ≤ x → W p l e R s m args below meth c H locs cells slots Q (F0 m tgt ls rest)) (kf : ¬ (y ≤ x) → W p l e R s m args below meth c H locs cells slots Q (F0 m (pc + 1 + 3) ls rest)) : W p l e R s m args below meth c H locs cells slots Q (F0 m pc ls (zl y :: zl x :: rest)) := by
  refine W.lcmp hx hb hd1 ?_
  rw [lg_cmp_iL rx ry]
  by_cases h1 : x < y
  · rw [if_pos h1]
    exact z_if_ge hx hb (by omega) hd2 ht (fun _ => kt (by omega)) (fun _ => kf (by omega))
  · rw [if_neg h1]
    by_cases h2 : x = y
    · rw [if_pos h2]
      exact z_if_ge hx hb (by omega) hd2 ht (fun _ => kt (by omega)) (fun _ => kf (by omega))
    · rw [if_neg h2]
      exact z_if_ge hx hb (by omega) hd2 ht (fun _ => kt (by omega)) (fun _ => kf (by omega))
theorem z_icmp_gt (hx : p.tables.exec = Jvm.exec) (hb : c.code = cc) {x y off : Int} {tgt : Nat} (rx : rI x) (ry : rI y) (hdg : decode cc pc = .ok (.if_icmp .gt off, 3)) (ht : (pc : Int) + off = (tgt : Int)) (kt : y < x → W p l e R s m args below meth c H locs cells slots Q (F0 m tgt ls rest)) (kf : ¬ (y < x) → W p l e R s m args below meth c H locs cells slots Q (F0 m (pc + 3) ls rest)) : W p l e R s m args below meth c H locs cells slots Q (F0 m pc ls (zi y :: zi x :: rest)) := lv_icmp_gt hx hb hdg ht (fun h => kt ((iI_lt ry rx).mp h)) (fun h => kf (fun q => h ((iI_lt ry rx).mpr q)))
theorem z_if_gt (hx : p.tables.exec = Jvm.exec) (hb : c.code = cc) {x off : Int} {tgt : Nat} (rx : rI x) (hdg : decode cc pc = .ok (.ifCond .gt off, 3)) (ht : (pc : Int) + off = (tgt : Int)) (kt : 0 < x → W p l e R s m args below meth c H locs cells slots Q (F0 m tgt ls rest)) (kf : ¬ (0 < x) → W p l e R s m args below meth c H locs cells slots Q (F0 m (pc + 3) ls rest)) : W p l e R s m args below meth c H locs cells slots Q (F0 m pc ls (zi x :: rest)) := lv_if_gt hx hb hdg ht (fun h => kt ((iI_lt (by omega) rx).mp h)) (fun h => kf (fun q => h ((iI_lt (by omega) rx).mpr q)))
theorem z_lcmp_gt (hx : p.tables.exec = Jvm.exec) (hb : c.code = cc) {x y off : Int} {tgt : Nat} (rx : rL x) (ry : rL y) (hd1 : decode cc pc = .ok (.lcmp, 1)) (hd2 : decode cc (pc + 1) = .ok (.ifCond .gt off, 3)) (ht : ((pc + 1 : Nat) : Int) + off = (tgt : Int)) (kt : y < x → W p l e R s m args below meth c H locs cells slots Q (F0 m tgt ls rest)) (kf : ¬ (y < x) → W p l e R s m args below meth c H locs cells slots Q (F0 m (pc + 1 + 3) ls rest)) : W p l e R s m args below meth c H locs cells slots Q (F0 m pc ls (zl y :: zl x :: rest)) := by
  refine W.lcmp hx hb hd1 ?_
  rw [lg_cmp_iL rx ry]
  by_cases h1 : x < y
  · rw [if_pos h1]
    exact z_if_gt hx hb (by omega) hd2 ht (fun _ => kt (by omega)) (fun _ => kf (by omega))
  · rw [if_neg h1]
    by_cases h2 : x = y
    · rw [if_pos h2]
      exact z_if_gt hx hb (by omega) hd2 ht (fun _ => kt (by omega)) (fun _ => kf (by omega))
    · rw [if_neg h2]
      exact z_if_gt hx hb (by omega) hd2 ht (fun _ => kt (by omega)) (fun _ => kf (by omega))
theorem z_icmp_le (hx : p.tables.exec = Jvm.exec) (hb : c.code = cc) {x y off : Int} {tgt : Nat} (rx : rI x) (ry : rI y) (hdg : decode cc pc = .ok (.if_icmp .le off, 3)) (ht : (pc : Int) + off = (tgt : Int)) (kt : x ≤ y → W p l e R s m args below meth c H locs cells slots Q (F0 m tgt ls rest)) (kf : ¬ (x ≤ y) → W p l e R s m args below meth c H locs cells slots Q (F0 m (pc + 3) ls rest)) : W p l e R s m args below meth c H locs cells slots Q (F0 m pc ls (zi y :: zi x :: rest)) := lv_icmp_le hx hb hdg ht (fun h => kt ((iI_le rx ry).mp h)) (fun h => kf (fun q => h ((iI_le rx ry).mpr q)))
theorem z_if_le (hx : p.tables.exec = Jvm.exec) (hb : c.code = cc) {x off : Int} {tgt : Nat} (rx : rI x) (hdg : decode cc pc = .ok (.ifCond .le off, 3)) (ht : (pc : Int) + off = (tgt : Int)) (kt : x ≤ 0 → W p l e R s m args below meth c H locs cells slots Q (F0 m tgt ls rest)) (kf : ¬ (x ≤ 0) → W p l e R s m args below meth c H locs cells slots Q (F0 m (pc + 3) ls rest)) : W p l e R s m args below meth c H locs cells slots Q (F0 m pc ls (zi x :: rest)) := lv_if_le hx hb hdg ht (fun h => kt ((iI_le rx (by omega)).mp h)) (fun h => kf (fun q => h ((iI_le rx (by omega)).mpr q)))
theorem z_lcmp_le (hx : p.tables.exec = Jvm.exec) (hb : c.code = cc) {x y off : Int} {tgt : Nat} (rx : rL x) (ry : rL y) (hd1 : decode cc pc = .ok (.lcmp, 1)) (hd2 : decode cc (pc + 1) = .ok (.ifCond .le off, 3)) (ht : ((pc + 1 : Nat) : Int) + off = (tgt : Int)) (kt : x ≤ y → W p l e R s m args below meth c H locs cells slots Q (F0 m tgt ls rest)) (kf : ¬ (x ≤ y) → W p l e R s m args below meth c H locs cells slots Q (F0 m (pc + 1 + 3) ls rest)) : W p l e R s m args below meth c H locs cells slots Q (F0 m pc ls (zl y :: zl x :: rest)) := by
  refine W.lcmp hx hb hd1 ?_
  rw [lg_cmp_iL rx ry]
  by_cases h1 : x < y
  · rw [if_pos h1]
    exact z_if_le hx hb (by omega) hd2 ht (fun _ => kt (by omega)) (fun _ => kf (by omega))
  · rw [if_neg h1]
    by_cases h2 : x = y
    · rw [if_pos h2]
      exact z_if_le hx hb (by omega) hd2 ht (fun _ => kt (by omega)) (fun _ => kf (by omega))
    · rw [if_neg h2]
      exact z_if_le hx hb (by omega) hd2 ht (fun _ => kt (by omega)) (fun _ => kf (by omega))
theorem z_icmp_eq (hx : p.tables.exec = Jvm.exec) (hb : c.code = cc) {x y off : Int} {tgt : Nat} (rx : rI x) (ry : rI y) (hdg : decode cc pc = .ok (.if_icmp .eq off, 3)) (ht : (pc : Int) + off = (tgt : Int)) (kt : x = y → W p l e R s m args below meth c H locs cells slots Q (F0 m tgt ls rest)) (kf : ¬ (x = y) → W p l e R s m args below meth c H locs cells slots Q (F0 m (pc + 3) ls rest)) : W p l e R s m args below meth c H locs cells slots Q (F0 m pc ls (zi y :: zi x :: rest)) := lv_icmp_eq hx hb hdg ht (fun h => kt ((iI_eq rx ry).mp h)) (fun h => kf (fun q => h ((iI_eq rx ry).mpr q)))
theorem z_if_eq (hx : p.tables.exec = Jvm.exec) (hb : c.code = cc) {x off : Int} {tgt : Nat} (rx : rI x) (hdg : decode cc pc = .ok (.ifCond .eq off, 3)) (ht : (pc : Int) + off = (tgt : Int)) (kt : x = 0 → W p l e R s m args below meth c H locs cells slots Q (F0 m tgt ls rest)) (kf : ¬ (x = 0) → W p l e R s m args below meth c H locs cells slots Q (F0 m (pc + 3) ls rest)) : W p l e R s m args below meth c H locs cells slots Q (F0 m pc ls (zi x :: rest)) := lv_if_eq hx hb hdg ht (fun h => kt ((iI_eq rx (by omega)).mp h)) (fun h => kf (fun q => h ((iI_eq rx (by omega)).mpr q)))
theorem z_lcmp_eq (hx : p.tables.exec = Jvm.exec) (hb : c.code = cc) {x y off : Int} {tgt : Nat} (rx : rL x) (ry : rL y) (hd1 : decode cc pc = .ok (.lcmp, 1)) (hd2 : decode cc (pc + 1) = .ok (.ifCond .eq off, 3)) (ht : ((pc + 1 : Nat) : Int) + off = (tgt : Int)) (kt : x = y → W p l e R s m args below meth c H locs cells slots Q (F0 m tgt ls rest)) (kf : ¬ (x = y) → W p l e R s m args below meth c H locs cells slots Q (F0 m (pc + 1 + 3) ls rest)) : W p l e R s m args below meth c H locs cells slots Q (F0 m pc ls (zl y :: zl x :: rest)) := by
  refine W.lcmp hx hb hd1 ?_
  rw [lg_cmp_iL rx ry]
  by_cases h1 : x < y
  · rw [if_pos h1]
    exact z_if_eq hx hb (by omega) hd2 ht (fun _ => kt (by omega)) (fun _ => kf (by omega))
  · rw [if_neg h1]
    by_cases h2 : x = y
    · rw [if_pos h2]
      exact z_if_eq hx hb (by omega) hd2 ht (fun _ => kt (by omega)) (fun _ => kf (by omega))
    · rw [if_neg h2]
      exact z_if_eq hx hb (by omega) hd2 ht (fun _ => kt (by omega)) (fun _ => kf (by omega))
theorem z_icmp_ne (hx : p.tables.exec = Jvm.exec) (hb : c.code = cc) {x y off : Int} {tgt : Nat} (rx : rI x) (ry : rI y) (hdg : decode cc pc = .ok (.if_icmp .ne off, 3)) (ht : (pc : Int) + off = (tgt : Int)) (kt : x ≠ y → W p l e R s m args below meth c H locs cells slots Q (F0 m tgt ls rest)) (kf : ¬ (x ≠ y) → W p l e R s m args below meth c H locs cells slots Q (F0 m (pc + 3) ls rest)) : W p l e R s m args below meth c H locs cells slots Q (F0 m pc ls (zi y :: zi x :: rest)) := lv_icmp_ne hx hb hdg ht (fun h => kt (fun q => h ((iI_eq rx ry).mpr q))) (fun h => kf (fun q => q ((iI_eq rx ry).mp h)))
theorem z_if_ne (hx : p.tables.exec = Jvm.exec) (hb : c.code = cc) {x off : Int} {tgt : Nat} (rx : rI x) (hdg : decode cc pc = .ok (.ifCond .ne off, 3)) (ht : (pc : Int) + off = (tgt : Int)) (kt : x ≠ 0 → W p l e R s m args below meth c H locs cells slots Q (F0 m tgt ls rest)) (kf : ¬ (x ≠ 0) → W p l e R s m args below meth c H locs cells slots Q (F0 m (pc + 3) ls rest)) : W p l e R s m args below meth c H locs cells slots Q (F0 m pc ls (zi x :: rest)) := lv_if_ne hx hb hdg ht (fun h => kt (fun q => h ((iI_eq rx (by omega)).mpr q))) (fun h => kf (fun q => q ((iI_eq rx (by omega)).mp h)))
theorem z_lcmp_ne (hx : p.tables.exec = Jvm.exec) (hb : c.code = cc) {x y off : Int} {tgt : Nat} (rx : rL x) (ry : rL y) (hd1 : decode cc pc = .ok (.lcmp, 1)) (hd2 : decode cc (pc + 1) = .ok (.ifCond .ne off, 3)) (ht : ((pc + 1 : Nat) : Int) + off = (tgt : Int)) (kt : x ≠ y → W p l e R s m args below meth c H locs cells slots Q (F0 m tgt ls rest)) (kf : ¬ (x ≠ y) → W p l e R s m args below meth c H locs cells slots Q (F0 m (pc + 1 + 3) ls rest)) : W p l e R s m args below meth c H locs cells slots Q (F0 m pc ls (zl y :: zl x :: rest)) := by
  refine W.lcmp hx hb hd1 ?_
  rw [lg_cmp_iL rx ry]
  by_cases h1 : x < y
  · rw [if_pos h1]
    exact z_if_ne hx hb (by omega) hd2 ht (fun _ => kt (by omega)) (fun _ => kf (by omega))
  · rw [if_neg h1]
    by_cases h2 : x = y
    · rw [if_pos h2]
      exact z_if_ne hx hb (by omega) hd2 ht (fun _ => kt (by omega)) (fun _ => kf (by omega))
    · rw [if_neg h2]
      exact z_if_ne hx hb (by omega) hd2 ht (fun _ => kt (by omega)) (fun _ => kf (by omega))
theorem z_ifB_eq (hx : p.tables.exec = Jvm.exec) (hb : c.code = cc) {P : Prop} [Decidable P] {off : Int} {tgt : Nat} (hdg : decode cc pc = .ok (.ifCond .eq off, 3)) (ht : (pc : Int) + off = (tgt : Int)) (kt : ¬ P → W p l e R s m args below meth c H locs cells slots Q (F0 m tgt ls rest)) (kf : P → W p l e R s m args below meth c H locs cells slots Q (F0 m (pc + 3) ls rest)) : W p l e R s m args below meth c H locs cells slots Q (F0 m pc ls (zi (bI P) :: rest)) := by
  rcases bI_cases P with ⟨h, q⟩ | ⟨h, q⟩ <;> rw [q]
  · exact z_if_eq hx hb (by omega) hdg ht (fun z => absurd z (by decide)) (fun _ => kf h)
  · exact z_if_eq hx hb (by omega) hdg ht (fun _ => kt h) (fun z => absurd rfl z)
theorem z_ifB_ne (hx : p.tables.exec = Jvm.exec) (hb : c.code = cc) {P : Prop} [Decidable P] {off : Int} {tgt : Nat} (hdg : decode cc pc = .ok (.ifCond .ne off, 3)) (ht : (pc : Int) + off = (tgt : Int)) (kt : P → W p l e R s m args below meth c H locs cells slots Q (F0 m tgt ls rest)) (kf : ¬ P → W p l e R s m args below meth c H locs cells slots Q (F0 m (pc + 3) ls rest)) : W p l e R s m args below meth c H locs cells slots Q (F0 m pc ls (zi (bI P) :: rest)) := by
  rcases bI_cases P with ⟨h, q⟩ | ⟨h, q⟩ <;> rw [q]
  · exact z_if_ne hx hb (by omega) hdg ht (fun _ => kt h) (fun z => absurd (by decide) z)
  · exact z_if_ne hx hb (by omega) hdg ht (fun z => absurd rfl z) (fun _ => kf h)
theorem z_iinc (hx : p.tables.exec = Jvm.exec) (hb : c.code = cc) {i nL k : Nat} {n a : Int} {lv lv' : List (Nat × Value)} (hdg : decode cc pc = .ok (.iinc i n, 3)) (h : lv_has ls nL lv) (hk : lv[k]? = some (i, zi a)) (hn : i < nL) (hl : (i, zi (a + n)) :: lv.filter (fun q => !(q.1 == i) && !(q.1 + 1 == i && q.2.category == 2)) = lv')
    (kk : ∀ ls' : Array Slot, lv_has ls' nL lv' → W p l e R s m args below meth c H locs cells slots Q (F0 m (pc + 3) ls' rest)) : W p l e R s m args below meth c H locs cells slots Q (F0 m pc ls rest) := lv_iinc hx hb hdg h hk (v := iI (a + n)) (iI_add a n) hn hl kk
variable {D : va_G} {cl : List vw_C} {A : Nat → Prop} {a : Nat} {tys : List (ClassId × FieldType)} {ws : va_W} {H0 : Heap}
theorem z_iald (hx : p.tables.exec = Jvm.exec) (hb : c.code = cc) (hK : va_K D cl tys s) (hP : va_P D cl ws H) (q0 t0 : Nat) {cA : ClassId} {n : Nat} {F : Int → Int} (ha : ws[q0]? = some (a, .inl (cA, n, .inl (cI F)))) (ht : tys[t0]? = some (cA, .int)) {i : Int} (h : 0 ≤ i ∧ i < n) (hn : n < 2 ^ 31) (hdg : decode cc pc = .ok (.iaload, 1))
    (kk : W p l e R s m args below meth c H locs cells slots Q (F0 m (pc + 1) ls (zi (F i) :: rest))) : W p l e R s m args below meth c H locs cells slots Q (F0 m pc ls (zi i :: .ref a :: rest)) :=
  va_iald hx hb hK hP q0 t0 ha ht (iI_in h hn) hdg (by rw [cI_at ⟨h.1, by omega⟩]; exact kk)
theorem z_zald (hx : p.tables.exec = Jvm.exec) (hb : c.code = cc) (hK : va_K D cl tys s) (hP : va_P D cl ws H) (q0 t0 : Nat) {cA : ClassId} {n : Nat} {F : Int → Int} (ha : ws[q0]? = some (a, .inl (cA, n, .inl (cI F)))) (ht : tys[t0]? = some (cA, .boolean)) {i : Int} (h : 0 ≤ i ∧ i < n) (hn : n < 2 ^ 31) (hdg : decode cc pc = .ok (.baload, 1))
    (kk : W p l e R s m args below meth c H locs cells slots Q (F0 m (pc + 1) ls (zi (F i) :: rest))) : W p l e R s m args below meth c H locs cells slots Q (F0 m pc ls (zi i :: .ref a :: rest)) :=
  va_zald hx hb hK hP q0 t0 ha ht (iI_in h hn) hdg (by rw [cI_at ⟨h.1, by omega⟩]; exact kk)
theorem z_lald (hx : p.tables.exec = Jvm.exec) (hb : c.code = cc) (hK : va_K D cl tys s) (hP : va_P D cl ws H) (q0 t0 : Nat) {cA : ClassId} {n : Nat} {F : Int → Int} (ha : ws[q0]? = some (a, .inl (cA, n, .inr (.inl (cL F))))) (ht : tys[t0]? = some (cA, .long)) {i : Int} (h : 0 ≤ i ∧ i < n) (hn : n < 2 ^ 31) (hdg : decode cc pc = .ok (.laload, 1))
    (kk : W p l e R s m args below meth c H locs cells slots Q (F0 m (pc + 1) ls (zl (F i) :: rest))) : W p l e R s m args below meth c H locs cells slots Q (F0 m pc ls (zi i :: .ref a :: rest)) :=
  va_lald hx hb hK hP q0 t0 ha ht (iI_in h hn) hdg (by rw [cL_at ⟨h.1, by omega⟩]; exact kk)
theorem z_iast (hx : p.tables.exec = Jvm.exec) (hb : c.code = cc) (hK : va_K D cl tys s) (hP : va_P D cl ws H) (hD : va_D A ws) (hS : va_S A H0 H locs) (q0 t0 : Nat) {cA : ClassId} {n : Nat} {F : Int → Int} (ha : ws[q0]? = some (a, .inl (cA, n, .inl (cI F)))) (ht : tys[t0]? = some (cA, .int)) {i x : Int} (h : 0 ≤ i ∧ i < n) (hn : n < 2 ^ 31) (hdg : decode cc pc = .ok (.iastore, 1))
    (kk : ∀ (H1 : Heap) (locs1 : List Loc), va_P D cl (ws.set q0 (a, .inl (cA, n, .inl (cI (iu F i x))))) H1 → va_D A (ws.set q0 (a, .inl (cA, n, .inl (cI (iu F i x))))) → va_S A H0 H1 locs1 → W p l e R s m args below meth c H1 locs1 cells slots Q (F0 m (pc + 1) ls rest)) : W p l e R s m args below meth c H locs cells slots Q (F0 m pc ls (zi x :: zi i :: .ref a :: rest)) :=
  va_iast hx hb hK hP hD hS q0 t0 ha ht (iI_in h hn) hdg (by rw [cI_up ⟨h.1, by omega⟩]; exact kk)
theorem z_last (hx : p.tables.exec = Jvm.exec) (hb : c.code = cc) (hK : va_K D cl tys s) (hP : va_P D cl ws H) (hD : va_D A ws) (hS : va_S A H0 H locs) (q0 t0 : Nat) {cA : ClassId} {n : Nat} {F : Int → Int} (ha : ws[q0]? = some (a, .inl (cA, n, .inr (.inl (cL F))))) (ht : tys[t0]? = some (cA, .long)) {i x : Int} (h : 0 ≤ i ∧ i < n) (hn : n < 2 ^ 31) (hdg : decode cc pc = .ok (.lastore, 1))
    (kk : ∀ (H1 : Heap) (locs1 : List Loc), va_P D cl (ws.set q0 (a, .inl (cA, n, .inr (.inl (cL (iu F i x)))))) H1 → va_D A (ws.set q0 (a, .inl (cA, n, .inr (.inl (cL (iu F i x)))))) → va_S A H0 H1 locs1 → W p l e R s m args below meth c H1 locs1 cells slots Q (F0 m (pc + 1) ls rest)) : W p l e R s m args below meth c H locs cells slots Q (F0 m pc ls (zl x :: zi i :: .ref a :: rest)) :=
  va_last hx hb hK hP hD hS q0 t0 ha ht (iI_in h hn) hdg (by rw [cL_up ⟨h.1, by omega⟩]; exact kk)
theorem z_zast (hx : p.tables.exec = Jvm.exec) (hb : c.code = cc) (hK : va_K D cl tys s) (hP : va_P D cl ws H) (hD : va_D A ws) (hS : va_S A H0 H locs) (q0 t0 : Nat) {cA : ClassId} {n : Nat} {F : Int → Int} (ha : ws[q0]? = some (a, .inl (cA, n, .inl (cI F)))) (ht : tys[t0]? = some (cA, .boolean)) {i x : Int} (h : 0 ≤ i ∧ i < n) (hn : n < 2 ^ 31) (hx01 : x = 0 ∨ x = 1) (hdg : decode cc pc = .ok (.bastore, 1))
    (kk : ∀ (H1 : Heap) (locs1 : List Loc), va_P D cl (ws.set q0 (a, .inl (cA, n, .inl (cI (iu F i x))))) H1 → va_D A (ws.set q0 (a, .inl (cA, n, .inl (cI (iu F i x))))) → va_S A H0 H1 locs1 → W p l e R s m args below meth c H1 locs1 cells slots Q (F0 m (pc + 1) ls rest)) : W p l e R s m args below meth c H locs cells slots Q (F0 m pc ls (zi x :: zi i :: .ref a :: rest)) := by
  have e1 : vp_nar .boolean (iI x) = iI x := by rcases hx01 with rfl | rfl <;> decide
  refine va_zast hx hb hK hP hD hS q0 t0 ha ht (iI_in h hn) hdg ?_
  rw [e1, cI_up ⟨h.1, by omega⟩]
  exact kk
end ZR
