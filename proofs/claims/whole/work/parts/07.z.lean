/-! ===== numbers: ints and longs as whole numbers ===== -/
def iI (z : Int) : Int32 := Int32.ofInt z
def iL (z : Int) : Int64 := Int64.ofInt z
abbrev zi (z : Int) : Value := .int (iI z)
abbrev zl (z : Int) : Value := .long (iL z)
abbrev rI (z : Int) : Prop := -2147483648 ≤ z ∧ z < 2147483648
abbrev rL (z : Int) : Prop := -9223372036854775808 ≤ z ∧ z < 9223372036854775808
def bI (P : Prop) [Decidable P] : Int := if P then 1 else 0
theorem bI_t {P : Prop} [Decidable P] (h : P) : bI P = 1 := if_pos h
theorem bI_f {P : Prop} [Decidable P] (h : ¬ P) : bI P = 0 := if_neg h
theorem bI_cases (P : Prop) [Decidable P] : (P ∧ bI P = 1) ∨ (¬ P ∧ bI P = 0) := by
  by_cases h : P
  · exact Or.inl ⟨h, bI_t h⟩
  · exact Or.inr ⟨h, bI_f h⟩
theorem iI_add (a b : Int) : iI a + iI b = iI (a + b) := (Int32.ofInt_add a b).symm
theorem iI_sub (a b : Int) : iI a - iI b = iI (a - b) := (Int32.ofInt_sub a b).symm
theorem iI_mul (a b : Int) : iI a * iI b = iI (a * b) := (Int32.ofInt_mul a b).symm
theorem iI_neg (a : Int) : -iI a = iI (-a) := (Int32.ofInt_neg a).symm
theorem iL_add (a b : Int) : iL a + iL b = iL (a + b) := (Int64.ofInt_add a b).symm
theorem iL_sub (a b : Int) : iL a - iL b = iL (a - b) := (Int64.ofInt_sub a b).symm
theorem iL_mul (a b : Int) : iL a * iL b = iL (a * b) := (Int64.ofInt_mul a b).symm
theorem iL_neg (a : Int) : -iL a = iL (-a) := (Int64.ofInt_neg a).symm
theorem iI_t {z : Int} (h : rI z) : (iI z).toInt = z := by
  show (Int32.ofInt z).toInt = z
  rw [Int32.toInt_ofInt]
  show z.bmod 4294967296 = z
  exact Int.bmod_eq_of_le (by omega) (by omega)
theorem iL_t {z : Int} (h : rL z) : (iL z).toInt = z := by
  show (Int64.ofInt z).toInt = z
  rw [Int64.toInt_ofInt]
  show z.bmod 18446744073709551616 = z
  exact Int.bmod_eq_of_le (by omega) (by omega)
theorem iI_lt {x y : Int} (hx : rI x) (hy : rI y) : iI x < iI y ↔ x < y := by rw [Int32.lt_iff_toInt_lt, iI_t hx, iI_t hy]
theorem iI_le {x y : Int} (hx : rI x) (hy : rI y) : iI x ≤ iI y ↔ x ≤ y := by rw [Int32.le_iff_toInt_le, iI_t hx, iI_t hy]
theorem iI_eq {x y : Int} (hx : rI x) (hy : rI y) : iI x = iI y ↔ x = y := by rw [← Int32.toInt_inj, iI_t hx, iI_t hy]
theorem iL_lt {x y : Int} (hx : rL x) (hy : rL y) : iL x < iL y ↔ x < y := by rw [Int64.lt_iff_toInt_lt, iL_t hx, iL_t hy]
theorem iL_eq {x y : Int} (hx : rL x) (hy : rL y) : iL x = iL y ↔ x = y := by rw [← Int64.toInt_inj, iL_t hx, iL_t hy]
theorem iI_as (x : Int32) : iI x.toInt = x := Int32.ofInt_toInt x
theorem iL_as (x : Int64) : iL x.toInt = x := Int64.ofInt_toInt x
theorem rI_of (x : Int32) : rI x.toInt := by
  have h1 := Int32.le_toInt x
  have h2 := Int32.toInt_lt x
  constructor <;> omega
theorem rL_of (x : Int64) : rL x.toInt := by
  have h1 := Int64.le_toInt x
  have h2 := Int64.toInt_lt x
  constructor <;> omega
theorem iI_l {z : Int} (h : rI z) : (iI z).toInt64 = iL z := by
  rw [← Int64.toInt_inj, Int32.toInt_toInt64, iI_t h, iL_t (by omega)]
theorem iL_i (z : Int) : (iL z).toInt32 = iI z := Int64.toInt32_ofInt
theorem iI_0 : (0 : Int32) = iI 0 := rfl
theorem iI_nat (n : Nat) : iI (n : Int) = nI n := Int32.ofInt_eq_ofNat
theorem iL_nat (n : Nat) : iL (n : Int) = lN n := Int64.ofInt_eq_ofNat
theorem iI_in {i : Int} {n : Nat} (h : 0 ≤ i ∧ i < n) (hn : n < 2 ^ 31) : vp_in (iI i) n := by
  rw [vp_in_iff, iI_t (by omega)]
  exact h
theorem iI_nat' {i : Int} (h : 0 ≤ i) : iI i = nI i.toNat := by
  rw [← iI_nat]
  congr 1
  omega
theorem iI_cl {i : Int} (h : 0 ≤ i ∧ i < 2 ^ 31) : (iI i).toNatClampNeg = i.toNat := by
  rw [iI_nat' h.1, nI_clamp (by omega)]
theorem iI_div {x y : Int} (hx : 0 ≤ x) (hy : 0 < y) (rx : x < 2 ^ 31) (ry : y < 2 ^ 31) : iI x / iI y = iI (x / y) := by
  rw [iI_nat' hx, iI_nat' (by omega), pk_div (by omega) (by omega) (by omega), ← iI_nat]
  congr 1
  rw [Int.natCast_ediv]
  congr 1 <;> omega
theorem iL_nat' {i : Int} (h : 0 ≤ i) : iL i = lN i.toNat := by
  rw [← iL_nat]
  congr 1
  omega
theorem iL_div {x y : Int} (hx : 0 ≤ x) (hy : 0 < y) (rx : x < 2 ^ 63) (ry : y < 2 ^ 63) : iL x / iL y = iL (x / y) := by
  rw [iL_nat' hx, iL_nat' (by omega), pk_lDiv (by omega) (by omega) (by omega), ← iL_nat]
  congr 1
  rw [Int.natCast_ediv]
  congr 1 <;> omega
theorem iL_rem {x y : Int} (hx : 0 ≤ x) (hy : 0 < y) (rx : x < 2 ^ 63) (ry : y < 2 ^ 63) : iL x - iL x / iL y * iL y = iL (x % y) := by
  rw [iL_div hx hy rx ry, iL_mul, iL_sub, Int.emod_def, Int.mul_comm]
def cI (F : Int → Int) : Nat → Int32 := fun j => iI (F (j : Int))
def cL (F : Int → Int) : Nat → Int64 := fun j => iL (F (j : Int))
def iu (F : Int → Int) (i x : Int) : Int → Int := fun j => if j = i then x else F j
theorem iu_s {F : Int → Int} {i x : Int} : iu F i x i = x := if_pos rfl
theorem iu_e {F : Int → Int} {i x j : Int} (h : j = i) : iu F i x j = x := if_pos h
theorem iu_n {F : Int → Int} {i x j : Int} (h : j ≠ i) : iu F i x j = F j := if_neg h
theorem cI_at {F : Int → Int} {i : Int} (h : 0 ≤ i ∧ i < 2 ^ 31) : cI F (iI i).toNatClampNeg = iI (F i) := by
  rw [iI_cl h]
  show iI (F (i.toNat : Int)) = _
  rw [Int.toNat_of_nonneg h.1]
theorem cL_at {F : Int → Int} {i : Int} (h : 0 ≤ i ∧ i < 2 ^ 31) : cL F (iI i).toNatClampNeg = iL (F i) := by
  rw [iI_cl h]
  show iL (F (i.toNat : Int)) = _
  rw [Int.toNat_of_nonneg h.1]
theorem cI_up {F : Int → Int} {i x : Int} (h : 0 ≤ i ∧ i < 2 ^ 31) : upd (cI F) (iI i).toNatClampNeg (iI x) = cI (iu F i x) := by
  rw [iI_cl h]
  funext j
  by_cases e : j = i.toNat
  · subst e
    rw [pk_us]
    show _ = iI (iu F i x _)
    rw [iu_e (Int.toNat_of_nonneg h.1)]
  · rw [pk_un e]
    show _ = iI (iu F i x _)
    rw [iu_n (by omega)]
    rfl
theorem cL_up {F : Int → Int} {i x : Int} (h : 0 ≤ i ∧ i < 2 ^ 31) : vp_updL (cL F) (iI i).toNatClampNeg (iL x) = cL (iu F i x) := by
  rw [iI_cl h]
  funext j
  by_cases e : j = i.toNat
  · subst e
    rw [pk_uLs]
    show _ = iL (iu F i x _)
    rw [iu_e (Int.toNat_of_nonneg h.1)]
  · rw [pk_uLn e]
    show _ = iL (iu F i x _)
    rw [iu_n (by omega)]
    rfl
theorem lg_cmp_iL {x y : Int} (hx : rL x) (hy : rL y) : lg_cmp (iL x) (iL y) = iI (if x < y then -1 else if x = y then 0 else 1) := by
  have h1 := iL_lt hy hx
  have h2 := iL_eq hx hy
  unfold lg_cmp
  by_cases a : y < x
  · have b : ¬ x < y := by omega
    have c : ¬ x = y := by omega
    simp [h1, h2, a, b, c]
    try rfl
  · by_cases c : x = y
    · subst c
      simp [h1, h2]
      try rfl
    · have b : x < y := by omega
      simp [h1, h2, a, b, c]
      try rfl
/-! ===== instructions over whole numbers ===== -/
section ZR
variable {p : Program} {l : Launch} {e : Env} {R : Room} {s : State} {m : MethodId} {args : Array Value} {below : List Frame} {meth : Method} {c : Code} {H : Heap} {locs : List Loc} {cells slots : Nat} {Q : State → Prop}
variable {cc : ByteArray} {pc : Nat} {ls : Array Slot} {rest : List Value}
theorem z_iconst (hx : p.tables.exec = Jvm.exec) (hb : c.code = cc) {n : Int} (hdg : decode cc pc = .ok (.iconst n, 1)) (k : W p l e R s m args below meth c H locs cells slots Q (F0 m (pc + 1) ls (zi n :: rest))) : W p l e R s m args below meth c H locs cells slots Q (F0 m pc ls rest) := lv_iconst hx hb hdg rfl k
theorem z_bipush (hx : p.tables.exec = Jvm.exec) (hb : c.code = cc) {n : Int} (hdg : decode cc pc = .ok (.bipush n, 2)) (hv : (Int8.ofInt n).toInt32 = Int32.ofInt n) (k : W p l e R s m args below meth c H locs cells slots Q (F0 m (pc + 2) ls (zi n :: rest))) : W p l e R s m args below meth c H locs cells slots Q (F0 m pc ls rest) := lv_bipush hx hb hdg hv k
theorem z_sipush (hx : p.tables.exec = Jvm.exec) (hb : c.code = cc) {n : Int} (hdg : decode cc pc = .ok (.sipush n, 3)) (hv : (Int16.ofInt n).toInt32 = Int32.ofInt n) (k : W p l e R s m args below meth c H locs cells slots Q (F0 m (pc + 3) ls (zi n :: rest))) : W p l e R s m args below meth c H locs cells slots Q (F0 m pc ls rest) := lv_sipush hx hb hdg hv k
theorem z_iadd (hx : p.tables.exec = Jvm.exec) (hb : c.code = cc) {x y : Int} (hdg : decode cc pc = .ok (.iadd, 1)) (k : W p l e R s m args below meth c H locs cells slots Q (F0 m (pc + 1) ls (zi (x + y) :: rest))) : W p l e R s m args below meth c H locs cells slots Q (F0 m pc ls (zi y :: zi x :: rest)) := lv_iadd hx hb hdg (by rw [iI_add]; exact k)
theorem z_isub (hx : p.tables.exec = Jvm.exec) (hb : c.code = cc) {x y : Int} (hdg : decode cc pc = .ok (.isub, 1)) (k : W p l e R s m args below meth c H locs cells slots Q (F0 m (pc + 1) ls (zi (x - y) :: rest))) : W p l e R s m args below meth c H locs cells slots Q (F0 m pc ls (zi y :: zi x :: rest)) := lv_isub hx hb hdg (by rw [iI_sub]; exact k)
theorem z_imul (hx : p.tables.exec = Jvm.exec) (hb : c.code = cc) {x y : Int} (hdg : decode cc pc = .ok (.imul, 1)) (k : W p l e R s m args below meth c H locs cells slots Q (F0 m (pc + 1) ls (zi (x * y) :: rest))) : W p l e R s m args below meth c H locs cells slots Q (F0 m pc ls (zi y :: zi x :: rest)) := lv_imul hx hb hdg (by rw [iI_mul]; exact k)
theorem z_ineg (hx : p.tables.exec = Jvm.exec) (hb : c.code = cc) {x : Int} (hdg : decode cc pc = .ok (.ineg, 1)) (k : W p l e R s m args below meth c H locs cells slots Q (F0 m (pc + 1) ls (zi (-x) :: rest))) : W p l e R s m args below meth c H locs cells slots Q (F0 m pc ls (zi x :: rest)) := lv_ineg hx hb hdg (by rw [iI_neg]; exact k)
theorem z_idiv (hx : p.tables.exec = Jvm.exec) (hb : c.code = cc) {x y : Int} (h : 0 ≤ x ∧ x < 2 ^ 31 ∧ 0 < y ∧ y < 2 ^ 31) (hdg : decode cc pc = .ok (.idiv, 1)) (k : W p l e R s m args below meth c H locs cells slots Q (F0 m (pc + 1) ls (zi (x / y) :: rest))) : W p l e R s m args below meth c H locs cells slots Q (F0 m pc ls (zi y :: zi x :: rest)) := lv_idiv hx hb hdg (fun q => by rw [iI_0, iI_eq (by omega) (by omega)] at q; omega) (by rw [iI_div h.1 h.2.2.1 h.2.1 h.2.2.2]; exact k)
theorem z_ladd (hx : p.tables.exec = Jvm.exec) (hb : c.code = cc) {x y : Int} (hdg : decode cc pc = .ok (.ladd, 1)) (k : W p l e R s m args below meth c H locs cells slots Q (F0 m (pc + 1) ls (zl (x + y) :: rest))) : W p l e R s m args below meth c H locs cells slots Q (F0 m pc ls (zl y :: zl x :: rest)) := lv_ladd hx hb hdg (by rw [iL_add]; exact k)
theorem z_lsub (hx : p.tables.exec = Jvm.exec) (hb : c.code = cc) {x y : Int} (hdg : decode cc pc = .ok (.lsub, 1)) (k : W p l e R s m args below meth c H locs cells slots Q (F0 m (pc + 1) ls (zl (x - y) :: rest))) : W p l e R s m args below meth c H locs cells slots Q (F0 m pc ls (zl y :: zl x :: rest)) := lv_lsub hx hb hdg (by rw [iL_sub]; exact k)
theorem z_lmul (hx : p.tables.exec = Jvm.exec) (hb : c.code = cc) {x y : Int} (hdg : decode cc pc = .ok (.lmul, 1)) (k : W p l e R s m args below meth c H locs cells slots Q (F0 m (pc + 1) ls (zl (x * y) :: rest))) : W p l e R s m args below meth c H locs cells slots Q (F0 m pc ls (zl y :: zl x :: rest)) := lv_lmul hx hb hdg (by rw [iL_mul]; exact k)
theorem z_lneg (hx : p.tables.exec = Jvm.exec) (hb : c.code = cc) {x : Int} (hdg : decode cc pc = .ok (.lneg, 1)) (k : W p l e R s m args below meth c H locs cells slots Q (F0 m (pc + 1) ls (zl (-x) :: rest))) : W p l e R s m args below meth c H locs cells slots Q (F0 m pc ls (zl x :: rest)) := lv_lneg hx hb hdg (by rw [iL_neg]; exact k)
theorem iL_ne0 {y : Int} (h : 0 < y ∧ y < 2 ^ 63) : ¬ iL y = 0 := fun q => by
  rw [show (0 : Int64) = iL 0 from rfl, iL_eq (by omega) (by omega)] at q
  omega
theorem z_ldiv (hx : p.tables.exec = Jvm.exec) (hb : c.code = cc) {x y : Int} (h : 0 ≤ x ∧ x < 2 ^ 63 ∧ 0 < y ∧ y < 2 ^ 63) (hdg : decode cc pc = .ok (.ldiv, 1)) (k : W p l e R s m args below meth c H locs cells slots Q (F0 m (pc + 1) ls (zl (x / y) :: rest))) : W p l e R s m args below meth c H locs cells slots Q (F0 m pc ls (zl y :: zl x :: rest)) := lv_ldiv hx hb hdg (iL_ne0 h.2.2) (by rw [iL_div h.1 h.2.2.1 h.2.1 h.2.2.2]; exact k)
theorem z_lrem (hx : p.tables.exec = Jvm.exec) (hb : c.code = cc) {x y : Int} (h : 0 ≤ x ∧ x < 2 ^ 63 ∧ 0 < y ∧ y < 2 ^ 63) (hdg : decode cc pc = .ok (.lrem, 1)) (k : W p l e R s m args below meth c H locs cells slots Q (F0 m (pc + 1) ls (zl (x % y) :: rest))) : W p l e R s m args below meth c H locs cells slots Q (F0 m pc ls (zl y :: zl x :: rest)) := lv_lrem hx hb hdg (iL_ne0 h.2.2) (by rw [iL_rem h.1 h.2.2.1 h.2.1 h.2.2.2]; exact k)
theorem z_i2l (hx : p.tables.exec = Jvm.exec) (hb : c.code = cc) {x : Int} (h : rI x) (hdg : decode cc pc = .ok (.i2l, 1)) (k : W p l e R s m args below meth c H locs cells slots Q (F0 m (pc + 1) ls (zl x :: rest))) : W p l e R s m args below meth c H locs cells slots Q (F0 m pc ls (zi x :: rest)) := lv_i2l hx hb hdg (iI_l h) k
theorem z_l2i (hx : p.tables.exec = Jvm.exec) (hb : c.code = cc) {x : Int} (hdg : decode cc pc = .ok (.l2i, 1)) (k : W p l e R s m args below meth c H locs cells slots Q (F0 m (pc + 1) ls (zi x :: rest))) : W p l e R s m args below meth c H locs cells slots Q (F0 m pc ls (zl x :: rest)) := lv_l2i hx hb hdg (iL_i x) k
theorem z_icmp_lt (hx : p.tables.exec = Jvm.exec) (hb : c.code = cc) {x y off : Int} {tgt : Nat} (rx : rI x) (ry : rI y) (hdg : decode cc pc = .ok (.if_icmp .lt off, 3)) (ht : (pc : Int) + off = (tgt : Int)) (kt : x < y → W p l e R s m args below meth c H locs cells slots Q (F0 m tgt ls rest)) (kf : ¬ (x < y) → W p l e R s m args below meth c H locs cells slots Q (F0 m (pc + 3) ls rest)) : W p l e R s m args below meth c H locs cells slots Q (F0 m pc ls (zi y :: zi x :: rest)) := lv_icmp_lt hx hb hdg ht (fun h => kt ((iI_lt rx ry).mp h)) (fun h => kf (fun q => h ((iI_lt rx ry).mpr q)))
theorem z_if_lt (hx : p.tables.exec = Jvm.exec) (hb : c.code = cc) {x off : Int} {tgt : Nat} (rx : rI x) (hdg : decode cc pc = .ok (.ifCond .lt off, 3)) (ht : (pc : Int) + off = (tgt : Int)) (kt : x < 0 → W p l e R s m args below meth c H locs cells slots Q (F0 m tgt ls rest)) (kf : ¬ (x < 0) → W p l e R s m args below meth c H locs cells slots Q (F0 m (pc + 3) ls rest)) : W p l e R s m args below meth c H locs cells slots Q (F0 m pc ls (zi x :: rest)) := lv_if_lt hx hb hdg ht (fun h => kt ((iI_lt rx (by omega)).mp h)) (fun h => kf (fun q => h ((iI_lt rx (by omega)).mpr q)))
theorem z_lcmp_lt (hx : p.tables.exec = Jvm.exec) (hb : c.code = cc) {x y off : Int} {tgt : Nat} (rx : rL x) (ry : rL y) (hd1 : decode cc pc = .ok (.lcmp, 1)) (hd2 : decode cc (pc + 1) = .ok (.ifCond .lt off, 3)) (ht : ((pc + 1 : Nat) : Int) + off = (tgt : Int)) (kt : x < y → W p l e R s m args below meth c H locs cells slots Q (F0 m tgt ls rest)) (kf : ¬ (x < y) → W p l e R s m args below meth c H locs cells slots Q (F0 m (pc + 1 + 3) ls rest)) : W p l e R s m args below meth c H locs cells slots Q (F0 m pc ls (zl y :: zl x :: rest)) := by
  refine W.lcmp hx hb hd1 ?_
  rw [lg_cmp_iL rx ry]
  by_cases h1 : x < y
  · rw [if_pos h1]
    exact z_if_lt hx hb (by omega) hd2 ht (fun _ => kt (by omega)) (fun _ => kf (by omega))
  · rw [if_neg h1]
    by_cases h2 : x = y
    · rw [if_pos h2]
      exact z_if_lt hx hb (by omega) hd2 ht (fun _ => kt (by omega)) (fun _ => kf (by omega))
    · rw [if_neg h2]
      exact z_if_lt hx hb (by omega) hd2 ht (fun _ => kt (by omega)) (fun _ => kf (by omega))
theorem z_icmp_ge (hx : p.tables.exec = Jvm.exec) (hb : c.code = cc) {x y off : Int} {tgt : Nat} (rx : rI x) (ry : rI y) (hdg : decode cc pc = .ok (.if_icmp .ge off, 3)) (ht : (pc : Int) + off = (tgt : Int)) (kt : y ≤ x → W p l e R s m args below meth c H locs cells slots Q (F0 m tgt ls rest)) (kf : ¬ (y ≤ x) → W p l e R s m args below meth c H locs cells slots Q (F0 m (pc + 3) ls rest)) : W p l e R s m args below meth c H locs cells slots Q (F0 m pc ls (zi y :: zi x :: rest)) := lv_icmp_ge hx hb hdg ht (fun h => kt ((iI_le ry rx).mp h)) (fun h => kf (fun q => h ((iI_le ry rx).mpr q)))
theorem z_if_ge (hx : p.tables.exec = Jvm.exec) (hb : c.code = cc) {x off : Int} {tgt : Nat} (rx : rI x) (hdg : decode cc pc = .ok (.ifCond .ge off, 3)) (ht : (pc : Int) + off = (tgt : Int)) (kt : 0 ≤ x → W p l e R s m args below meth c H locs cells slots Q (F0 m tgt ls rest)) (kf : ¬ (0 ≤ x) → W p l e R s m args below meth c H locs cells slots Q (F0 m (pc + 3) ls rest)) : W p l e R s m args below meth c H locs cells slots Q (F0 m pc ls (zi x :: rest)) := lv_if_ge hx hb hdg ht (fun h => kt ((iI_le (by omega) rx).mp h)) (fun h => kf (fun q => h ((iI_le (by omega) rx).mpr q)))
theorem z_lcmp_ge (hx : p.tables.exec = Jvm.exec) (hb : c.code = cc) {x y off : Int} {tgt : Nat} (rx : rL x) (ry : rL y) (hd1 : decode cc pc = .ok (.lcmp, 1)) (hd2 : decode cc (pc + 1) = .ok (.ifCond .ge off, 3)) (ht : ((pc + 1 : Nat) : Int) + off = (tgt : Int)) (kt : y ≤ x → W p l e R s m args below meth c H locs cells slots Q (F0 m tgt ls rest)) (kf : ¬ (y ≤ x) → W p l e R s m args below meth c H locs cells slots Q (F0 m (pc + 1 + 3) ls rest)) : W p l e R s m args below meth c H locs cells slots Q (F0 m pc ls (zl y :: zl x :: rest)) := by
  refine W.lcmp hx hb hd1 ?_
  rw [lg_cmp_iL rx ry]
  by_cases h1 : x < y
  · rw [if_pos h1]
    exact z_if_ge hx hb (by omega) hd2 ht (fun _ => kt (by omega)) (fun _ => kf (by omega))
  · rw [if_neg h1]
    by_cases h2 : x = y
    · rw [if_pos h2]
      exact z_if_ge hx hb (by omega) hd2 ht (fun _ => kt (by omega)) (fun _ => kf (by omega))
    · rw [if_neg h2]
      exact z_if_ge hx hb (by omega) hd2 ht (fun _ => kt (by omega)) (fun _ => kf (by omega))
theorem z_icmp_gt (hx : p.tables.exec = Jvm.exec) (hb : c.code = cc) {x y off : Int} {tgt : Nat} (rx : rI x) (ry : rI y) (hdg : decode cc pc = .ok (.if_icmp .gt off, 3)) (ht : (pc : Int) + off = (tgt : Int)) (kt : y < x → W p l e R s m args below meth c H locs cells slots Q (F0 m tgt ls rest)) (kf : ¬ (y < x) → W p l e R s m args below meth c H locs cells slots Q (F0 m (pc + 3) ls rest)) : W p l e R s m args below meth c H locs cells slots Q (F0 m pc ls (zi y :: zi x :: rest)) := lv_icmp_gt hx hb hdg ht (fun h => kt ((iI_lt ry rx).mp h)) (fun h => kf (fun q => h ((iI_lt ry rx).mpr q)))
theorem z_if_gt (hx : p.tables.exec = Jvm.exec) (hb : c.code = cc) {x off : Int} {tgt : Nat} (rx : rI x) (hdg : decode cc pc = .ok (.ifCond .gt off, 3)) (ht : (pc : Int) + off = (tgt : Int)) (kt : 0 < x → W p l e R s m args below meth c H locs cells slots Q (F0 m tgt ls rest)) (kf : ¬ (0 < x) → W p l e R s m args below meth c H locs cells slots Q (F0 m (pc + 3) ls rest)) : W p l e R s m args below meth c H locs cells slots Q (F0 m pc ls (zi x :: rest)) := lv_if_gt hx hb hdg ht (fun h => kt ((iI_lt (by omega) rx).mp h)) (fun h => kf (fun q => h ((iI_lt (by omega) rx).mpr q)))
theorem z_lcmp_gt (hx : p.tables.exec = Jvm.exec) (hb : c.code = cc) {x y off : Int} {tgt : Nat} (rx : rL x) (ry : rL y) (hd1 : decode cc pc = .ok (.lcmp, 1)) (hd2 : decode cc (pc + 1) = .ok (.ifCond .gt off, 3)) (ht : ((pc + 1 : Nat) : Int) + off = (tgt : Int)) (kt : y < x → W p l e R s m args below meth c H locs cells slots Q (F0 m tgt ls rest)) (kf : ¬ (y < x) → W p l e R s m args below meth c H locs cells slots Q (F0 m (pc + 1 + 3) ls rest)) : W p l e R s m args below meth c H locs cells slots Q (F0 m pc ls (zl y :: zl x :: rest)) := by
  refine W.lcmp hx hb hd1 ?_
  rw [lg_cmp_iL rx ry]
  by_cases h1 : x < y
  · rw [if_pos h1]
    exact z_if_gt hx hb (by omega) hd2 ht (fun _ => kt (by omega)) (fun _ => kf (by omega))
  · rw [if_neg h1]
    by_cases h2 : x = y
    · rw [if_pos h2]
      exact z_if_gt hx hb (by omega) hd2 ht (fun _ => kt (by omega)) (fun _ => kf (by omega))
    · rw [if_neg h2]
      exact z_if_gt hx hb (by omega) hd2 ht (fun _ => kt (by omega)) (fun _ => kf (by omega))
theorem z_icmp_le (hx : p.tables.exec = Jvm.exec) (hb : c.code = cc) {x y off : Int} {tgt : Nat} (rx : rI x) (ry : rI y) (hdg : decode cc pc = .ok (.if_icmp .le off, 3)) (ht : (pc : Int) + off = (tgt : Int)) (kt : x ≤ y → W p l e R s m args below meth c H locs cells slots Q (F0 m tgt ls rest)) (kf : ¬ (x ≤ y) → W p l e R s m args below meth c H locs cells slots Q (F0 m (pc + 3) ls rest)) : W p l e R s m args below meth c H locs cells slots Q (F0 m pc ls (zi y :: zi x :: rest)) := lv_icmp_le hx hb hdg ht (fun h => kt ((iI_le rx ry).mp h)) (fun h => kf (fun q => h ((iI_le rx ry).mpr q)))
theorem z_if_le (hx : p.tables.exec = Jvm.exec) (hb : c.code = cc) {x off : Int} {tgt : Nat} (rx : rI x) (hdg : decode cc pc = .ok (.ifCond .le off, 3)) (ht : (pc : Int) + off = (tgt : Int)) (kt : x ≤ 0 → W p l e R s m args below meth c H locs cells slots Q (F0 m tgt ls rest)) (kf : ¬ (x ≤ 0) → W p l e R s m args below meth c H locs cells slots Q (F0 m (pc + 3) ls rest)) : W p l e R s m args below meth c H locs cells slots Q (F0 m pc ls (zi x :: rest)) := lv_if_le hx hb hdg ht (fun h => kt ((iI_le rx (by omega)).mp h)) (fun h => kf (fun q => h ((iI_le rx (by omega)).mpr q)))
theorem z_lcmp_le (hx : p.tables.exec = Jvm.exec) (hb : c.code = cc) {x y off : Int} {tgt : Nat} (rx : rL x) (ry : rL y) (hd1 : decode cc pc = .ok (.lcmp, 1)) (hd2 : decode cc (pc + 1) = .ok (.ifCond .le off, 3)) (ht : ((pc + 1 : Nat) : Int) + off = (tgt : Int)) (kt : x ≤ y → W p l e R s m args below meth c H locs cells slots Q (F0 m tgt ls rest)) (kf : ¬ (x ≤ y) → W p l e R s m args below meth c H locs cells slots Q (F0 m (pc + 1 + 3) ls rest)) : W p l e R s m args below meth c H locs cells slots Q (F0 m pc ls (zl y :: zl x :: rest)) := by
  refine W.lcmp hx hb hd1 ?_
  rw [lg_cmp_iL rx ry]
  by_cases h1 : x < y
  · rw [if_pos h1]
    exact z_if_le hx hb (by omega) hd2 ht (fun _ => kt (by omega)) (fun _ => kf (by omega))
  · rw [if_neg h1]
    by_cases h2 : x = y
    · rw [if_pos h2]
      exact z_if_le hx hb (by omega) hd2 ht (fun _ => kt (by omega)) (fun _ => kf (by omega))
    · rw [if_neg h2]
      exact z_if_le hx hb (by omega) hd2 ht (fun _ => kt (by omega)) (fun _ => kf (by omega))
theorem z_icmp_eq (hx : p.tables.exec = Jvm.exec) (hb : c.code = cc) {x y off : Int} {tgt : Nat} (rx : rI x) (ry : rI y) (hdg : decode cc pc = .ok (.if_icmp .eq off, 3)) (ht : (pc : Int) + off = (tgt : Int)) (kt : x = y → W p l e R s m args below meth c H locs cells slots Q (F0 m tgt ls rest)) (kf : ¬ (x = y) → W p l e R s m args below meth c H locs cells slots Q (F0 m (pc + 3) ls rest)) : W p l e R s m args below meth c H locs cells slots Q (F0 m pc ls (zi y :: zi x :: rest)) := lv_icmp_eq hx hb hdg ht (fun h => kt ((iI_eq rx ry).mp h)) (fun h => kf (fun q => h ((iI_eq rx ry).mpr q)))
theorem z_if_eq (hx : p.tables.exec = Jvm.exec) (hb : c.code = cc) {x off : Int} {tgt : Nat} (rx : rI x) (hdg : decode cc pc = .ok (.ifCond .eq off, 3)) (ht : (pc : Int) + off = (tgt : Int)) (kt : x = 0 → W p l e R s m args below meth c H locs cells slots Q (F0 m tgt ls rest)) (kf : ¬ (x = 0) → W p l e R s m args below meth c H locs cells slots Q (F0 m (pc + 3) ls rest)) : W p l e R s m args below meth c H locs cells slots Q (F0 m pc ls (zi x :: rest)) := lv_if_eq hx hb hdg ht (fun h => kt ((iI_eq rx (by omega)).mp h)) (fun h => kf (fun q => h ((iI_eq rx (by omega)).mpr q)))
theorem z_lcmp_eq (hx : p.tables.exec = Jvm.exec) (hb : c.code = cc) {x y off : Int} {tgt : Nat} (rx : rL x) (ry : rL y) (hd1 : decode cc pc = .ok (.lcmp, 1)) (hd2 : decode cc (pc + 1) = .ok (.ifCond .eq off, 3)) (ht : ((pc + 1 : Nat) : Int) + off = (tgt : Int)) (kt : x = y → W p l e R s m args below meth c H locs cells slots Q (F0 m tgt ls rest)) (kf : ¬ (x = y) → W p l e R s m args below meth c H locs cells slots Q (F0 m (pc + 1 + 3) ls rest)) : W p l e R s m args below meth c H locs cells slots Q (F0 m pc ls (zl y :: zl x :: rest)) := by
  refine W.lcmp hx hb hd1 ?_
  rw [lg_cmp_iL rx ry]
  by_cases h1 : x < y
  · rw [if_pos h1]
    exact z_if_eq hx hb (by omega) hd2 ht (fun _ => kt (by omega)) (fun _ => kf (by omega))
  · rw [if_neg h1]
    by_cases h2 : x = y
    · rw [if_pos h2]
      exact z_if_eq hx hb (by omega) hd2 ht (fun _ => kt (by omega)) (fun _ => kf (by omega))
    · rw [if_neg h2]
      exact z_if_eq hx hb (by omega) hd2 ht (fun _ => kt (by omega)) (fun _ => kf (by omega))
theorem z_icmp_ne (hx : p.tables.exec = Jvm.exec) (hb : c.code = cc) {x y off : Int} {tgt : Nat} (rx : rI x) (ry : rI y) (hdg : decode cc pc = .ok (.if_icmp .ne off, 3)) (ht : (pc : Int) + off = (tgt : Int)) (kt : x ≠ y → W p l e R s m args below meth c H locs cells slots Q (F0 m tgt ls rest)) (kf : ¬ (x ≠ y) → W p l e R s m args below meth c H locs cells slots Q (F0 m (pc + 3) ls rest)) : W p l e R s m args below meth c H locs cells slots Q (F0 m pc ls (zi y :: zi x :: rest)) := lv_icmp_ne hx hb hdg ht (fun h => kt (fun q => h ((iI_eq rx ry).mpr q))) (fun h => kf (fun q => q ((iI_eq rx ry).mp h)))
theorem z_if_ne (hx : p.tables.exec = Jvm.exec) (hb : c.code = cc) {x off : Int} {tgt : Nat} (rx : rI x) (hdg : decode cc pc = .ok (.ifCond .ne off, 3)) (ht : (pc : Int) + off = (tgt : Int)) (kt : x ≠ 0 → W p l e R s m args below meth c H locs cells slots Q (F0 m tgt ls rest)) (kf : ¬ (x ≠ 0) → W p l e R s m args below meth c H locs cells slots Q (F0 m (pc + 3) ls rest)) : W p l e R s m args below meth c H locs cells slots Q (F0 m pc ls (zi x :: rest)) := lv_if_ne hx hb hdg ht (fun h => kt (fun q => h ((iI_eq rx (by omega)).mpr q))) (fun h => kf (fun q => q ((iI_eq rx (by omega)).mp h)))
theorem z_lcmp_ne (hx : p.tables.exec = Jvm.exec) (hb : c.code = cc) {x y off : Int} {tgt : Nat} (rx : rL x) (ry : rL y) (hd1 : decode cc pc = .ok (.lcmp, 1)) (hd2 : decode cc (pc + 1) = .ok (.ifCond .ne off, 3)) (ht : ((pc + 1 : Nat) : Int) + off = (tgt : Int)) (kt : x ≠ y → W p l e R s m args below meth c H locs cells slots Q (F0 m tgt ls rest)) (kf : ¬ (x ≠ y) → W p l e R s m args below meth c H locs cells slots Q (F0 m (pc + 1 + 3) ls rest)) : W p l e R s m args below meth c H locs cells slots Q (F0 m pc ls (zl y :: zl x :: rest)) := by
  refine W.lcmp hx hb hd1 ?_
  rw [lg_cmp_iL rx ry]
  by_cases h1 : x < y
  · rw [if_pos h1]
    exact z_if_ne hx hb (by omega) hd2 ht (fun _ => kt (by omega)) (fun _ => kf (by omega))
  · rw [if_neg h1]
    by_cases h2 : x = y
    · rw [if_pos h2]
      exact z_if_ne hx hb (by omega) hd2 ht (fun _ => kt (by omega)) (fun _ => kf (by omega))
    · rw [if_neg h2]
      exact z_if_ne hx hb (by omega) hd2 ht (fun _ => kt (by omega)) (fun _ => kf (by omega))
theorem z_ifB_eq (hx : p.tables.exec = Jvm.exec) (hb : c.code = cc) {P : Prop} [Decidable P] {off : Int} {tgt : Nat} (hdg : decode cc pc = .ok (.ifCond .eq off, 3)) (ht : (pc : Int) + off = (tgt : Int)) (kt : ¬ P → W p l e R s m args below meth c H locs cells slots Q (F0 m tgt ls rest)) (kf : P → W p l e R s m args below meth c H locs cells slots Q (F0 m (pc + 3) ls rest)) : W p l e R s m args below meth c H locs cells slots Q (F0 m pc ls (zi (bI P) :: rest)) := by
  rcases bI_cases P with ⟨h, q⟩ | ⟨h, q⟩ <;> rw [q]
  · exact z_if_eq hx hb (by omega) hdg ht (fun z => absurd z (by decide)) (fun _ => kf h)
  · exact z_if_eq hx hb (by omega) hdg ht (fun _ => kt h) (fun z => absurd rfl z)
theorem z_ifB_ne (hx : p.tables.exec = Jvm.exec) (hb : c.code = cc) {P : Prop} [Decidable P] {off : Int} {tgt : Nat} (hdg : decode cc pc = .ok (.ifCond .ne off, 3)) (ht : (pc : Int) + off = (tgt : Int)) (kt : P → W p l e R s m args below meth c H locs cells slots Q (F0 m tgt ls rest)) (kf : ¬ P → W p l e R s m args below meth c H locs cells slots Q (F0 m (pc + 3) ls rest)) : W p l e R s m args below meth c H locs cells slots Q (F0 m pc ls (zi (bI P) :: rest)) := by
  rcases bI_cases P with ⟨h, q⟩ | ⟨h, q⟩ <;> rw [q]
  · exact z_if_ne hx hb (by omega) hdg ht (fun _ => kt h) (fun z => absurd (by decide) z)
  · exact z_if_ne hx hb (by omega) hdg ht (fun z => absurd rfl z) (fun _ => kf h)
theorem z_iinc (hx : p.tables.exec = Jvm.exec) (hb : c.code = cc) {i nL k : Nat} {n a : Int} {lv lv' : List (Nat × Value)} (hdg : decode cc pc = .ok (.iinc i n, 3)) (h : lv_has ls nL lv) (hk : lv[k]? = some (i, zi a)) (hn : i < nL) (hl : (i, zi (a + n)) :: lv.filter (fun q => !(q.1 == i) && !(q.1 + 1 == i && q.2.category == 2)) = lv')
    (kk : ∀ ls' : Array Slot, lv_has ls' nL lv' → W p l e R s m args below meth c H locs cells slots Q (F0 m (pc + 3) ls' rest)) : W p l e R s m args below meth c H locs cells slots Q (F0 m pc ls rest) := lv_iinc hx hb hdg h hk (v := iI (a + n)) (iI_add a n) hn hl kk
variable {D : va_G} {cl : List vw_C} {A : Nat → Prop} {a : Nat} {tys : List (ClassId × FieldType)} {ws : va_W} {H0 : Heap}
theorem z_iald (hx : p.tables.exec = Jvm.exec) (hb : c.code = cc) (hK : va_K D cl tys s) (hP : va_P D cl ws H) (q0 t0 : Nat) {cA : ClassId} {n : Nat} {F : Int → Int} (ha : ws[q0]? = some (a, .inl (cA, n, .inl (cI F)))) (ht : tys[t0]? = some (cA, .int)) {i : Int} (h : 0 ≤ i ∧ i < n) (hn : n < 2 ^ 31) (hdg : decode cc pc = .ok (.iaload, 1))
    (kk : W p l e R s m args below meth c H locs cells slots Q (F0 m (pc + 1) ls (zi (F i) :: rest))) : W p l e R s m args below meth c H locs cells slots Q (F0 m pc ls (zi i :: .ref a :: rest)) :=
  va_iald hx hb hK hP q0 t0 ha ht (iI_in h hn) hdg (by rw [cI_at ⟨h.1, by omega⟩]; exact kk)
theorem z_zald (hx : p.tables.exec = Jvm.exec) (hb : c.code = cc) (hK : va_K D cl tys s) (hP : va_P D cl ws H) (q0 t0 : Nat) {cA : ClassId} {n : Nat} {F : Int → Int} (ha : ws[q0]? = some (a, .inl (cA, n, .inl (cI F)))) (ht : tys[t0]? = some (cA, .boolean)) {i : Int} (h : 0 ≤ i ∧ i < n) (hn : n < 2 ^ 31) (hdg : decode cc pc = .ok (.baload, 1))
    (kk : W p l e R s m args below meth c H locs cells slots Q (F0 m (pc + 1) ls (zi (F i) :: rest))) : W p l e R s m args below meth c H locs cells slots Q (F0 m pc ls (zi i :: .ref a :: rest)) :=
  va_zald hx hb hK hP q0 t0 ha ht (iI_in h hn) hdg (by rw [cI_at ⟨h.1, by omega⟩]; exact kk)
theorem z_lald (hx : p.tables.exec = Jvm.exec) (hb : c.code = cc) (hK : va_K D cl tys s) (hP : va_P D cl ws H) (q0 t0 : Nat) {cA : ClassId} {n : Nat} {F : Int → Int} (ha : ws[q0]? = some (a, .inl (cA, n, .inr (.inl (cL F))))) (ht : tys[t0]? = some (cA, .long)) {i : Int} (h : 0 ≤ i ∧ i < n) (hn : n < 2 ^ 31) (hdg : decode cc pc = .ok (.laload, 1))
    (kk : W p l e R s m args below meth c H locs cells slots Q (F0 m (pc + 1) ls (zl (F i) :: rest))) : W p l e R s m args below meth c H locs cells slots Q (F0 m pc ls (zi i :: .ref a :: rest)) :=
  va_lald hx hb hK hP q0 t0 ha ht (iI_in h hn) hdg (by rw [cL_at ⟨h.1, by omega⟩]; exact kk)
theorem z_iast (hx : p.tables.exec = Jvm.exec) (hb : c.code = cc) (hK : va_K D cl tys s) (hP : va_P D cl ws H) (hD : va_D A ws) (hS : va_S A H0 H locs) (q0 t0 : Nat) {cA : ClassId} {n : Nat} {F : Int → Int} (ha : ws[q0]? = some (a, .inl (cA, n, .inl (cI F)))) (ht : tys[t0]? = some (cA, .int)) {i x : Int} (h : 0 ≤ i ∧ i < n) (hn : n < 2 ^ 31) (hdg : decode cc pc = .ok (.iastore, 1))
    (kk : ∀ (H1 : Heap) (locs1 : List Loc), va_P D cl (ws.set q0 (a, .inl (cA, n, .inl (cI (iu F i x))))) H1 → va_D A (ws.set q0 (a, .inl (cA, n, .inl (cI (iu F i x))))) → va_S A H0 H1 locs1 → W p l e R s m args below meth c H1 locs1 cells slots Q (F0 m (pc + 1) ls rest)) : W p l e R s m args below meth c H locs cells slots Q (F0 m pc ls (zi x :: zi i :: .ref a :: rest)) :=
  va_iast hx hb hK hP hD hS q0 t0 ha ht (iI_in h hn) hdg (by rw [cI_up ⟨h.1, by omega⟩]; exact kk)
theorem z_last (hx : p.tables.exec = Jvm.exec) (hb : c.code = cc) (hK : va_K D cl tys s) (hP : va_P D cl ws H) (hD : va_D A ws) (hS : va_S A H0 H locs) (q0 t0 : Nat) {cA : ClassId} {n : Nat} {F : Int → Int} (ha : ws[q0]? = some (a, .inl (cA, n, .inr (.inl (cL F))))) (ht : tys[t0]? = some (cA, .long)) {i x : Int} (h : 0 ≤ i ∧ i < n) (hn : n < 2 ^ 31) (hdg : decode cc pc = .ok (.lastore, 1))
    (kk : ∀ (H1 : Heap) (locs1 : List Loc), va_P D cl (ws.set q0 (a, .inl (cA, n, .inr (.inl (cL (iu F i x)))))) H1 → va_D A (ws.set q0 (a, .inl (cA, n, .inr (.inl (cL (iu F i x)))))) → va_S A H0 H1 locs1 → W p l e R s m args below meth c H1 locs1 cells slots Q (F0 m (pc + 1) ls rest)) : W p l e R s m args below meth c H locs cells slots Q (F0 m pc ls (zl x :: zi i :: .ref a :: rest)) :=
  va_last hx hb hK hP hD hS q0 t0 ha ht (iI_in h hn) hdg (by rw [cL_up ⟨h.1, by omega⟩]; exact kk)
theorem z_zast (hx : p.tables.exec = Jvm.exec) (hb : c.code = cc) (hK : va_K D cl tys s) (hP : va_P D cl ws H) (hD : va_D A ws) (hS : va_S A H0 H locs) (q0 t0 : Nat) {cA : ClassId} {n : Nat} {F : Int → Int} (ha : ws[q0]? = some (a, .inl (cA, n, .inl (cI F)))) (ht : tys[t0]? = some (cA, .boolean)) {i x : Int} (h : 0 ≤ i ∧ i < n) (hn : n < 2 ^ 31) (hx01 : x = 0 ∨ x = 1) (hdg : decode cc pc = .ok (.bastore, 1))
    (kk : ∀ (H1 : Heap) (locs1 : List Loc), va_P D cl (ws.set q0 (a, .inl (cA, n, .inl (cI (iu F i x))))) H1 → va_D A (ws.set q0 (a, .inl (cA, n, .inl (cI (iu F i x))))) → va_S A H0 H1 locs1 → W p l e R s m args below meth c H1 locs1 cells slots Q (F0 m (pc + 1) ls rest)) : W p l e R s m args below meth c H locs cells slots Q (F0 m pc ls (zi x :: zi i :: .ref a :: rest)) := by
  have e1 : vp_nar .boolean (iI x) = iI x := by rcases hx01 with rfl | rfl <;> decide
  refine va_zast hx hb hK hP hD hS q0 t0 ha ht (iI_in h hn) hdg ?_
  rw [e1, cI_up ⟨h.1, by omega⟩]
  exact kk
end ZR
/-! ===== what the tables say, on all states of the run ===== -/
abbrev TY (y : Nat → ClassId) : List (ClassId × FieldType) := [(y 0, .int), (y 1, .long), (y 2, .boolean), (y 3, .object RX1), (y 4, .object RX9)]
def nestL : List (String × Nat × MethodName × String) := [(RX11, 9, yX10_init, RX11), (RX4, 21, yX1_init, RX11), (RX11, 32, yX8_init, RX11), (RX11, 45, yX7_init, RX11), (RX11, 52, yX3_init, RX11), (RX11, 59, yX0_init, RX11), (RX11, 66, yX2_init, RX11), (RX11, 71, yX9_init, RX11), (RX9, 18, yX8_init, RX11), (RX1, 115, yX11_canFold, RX11)]
def gK (D : va_G) (y : Nat → ClassId) (U : State) : Prop := va_K D vwCl (TY y) U ∧ (∀ q ∈ nestL, va_Nw (.methodLinkNest q.1 q.2.1 q.2.2.1 q.2.2.2) U) ∧ va_AO RX1 U ∧ va_AO RX9 U
theorem gK.warm {D : va_G} {y : Nat → ClassId} {s U : State} (hW : s.WarmedH U.vm) (h : gK D y s) : gK D y U := ⟨va_K.moved hW.alike h.1, fun q hq => va_Nw.warmM hW (h.2.1 q hq), va_AO.moved hW.alike h.2.2.1, va_AO.moved hW.alike h.2.2.2⟩
theorem gK.calling {D : va_G} {y : Nat → ClassId} {U : State} (g : JFrame) (mk : MethodId) (a : Array Value) (h : gK D y U) : gK D y (U.calling g mk a) := ⟨va_K.moved (u := U) (U := U.calling g mk a) (Vm.Alike.refl U.vm) h.1, fun q hq => va_Nw.same (u := U) (U := U.calling g mk a) rfl rfl (h.2.1 q hq), va_AO.moved (u := U) (U := U.calling g mk a) (Vm.Alike.refl U.vm) h.2.2.1, va_AO.moved (u := U) (U := U.calling g mk a) (Vm.Alike.refl U.vm) h.2.2.2⟩
/-! ===== contracts: a method that writes nothing; a method that writes the cells ww and reads the cells wr ===== -/
def pPc (D : va_G) (y : Nat → ClassId) (ws : va_W) (av : List Value) : Array Value → State → Prop := va_Pc av (fun U => va_P D vwCl ws U.heap ∧ gK D y U)
def wPc (D : va_G) (y : Nat → ClassId) (wr ww : va_W) (sz : Nat) (av : List Value) : Array Value → State → Prop := va_Pc av (fun U => U.heap.size = sz ∧ va_P D vwCl wr U.heap ∧ va_P D vwCl ww U.heap ∧ va_D (fun _ => True) ww ∧ (∀ (k : Nat) (q : Nat × va_E), wr[k]? = some q → ¬ va_A ww sz q.1) ∧ gK D y U)
def qV (v : Value) : Array Value → State → Outcome → State → Prop := fun _ st o t => o = .returned (some v) ∧ t.heap = st.heap
def wQ {S : Type} (D : va_G) (vf : S → Option Value) (post : S → Prop) (w1 : S → va_W) (A : Nat → Prop) : Array Value → State → Outcome → State → Prop := fun _ st oc t => (∃ u : S, oc = .returned (vf u) ∧ post u ∧ va_P D vwCl (w1 u) t.heap ∧ va_D A (w1 u)) ∧ va_F A st t
theorem pPc_blind {D : va_G} {y : Nat → ClassId} {ws : va_W} {av : List Value} : FrameBlind (pPc D y ws av) := fun a U g mk q => ⟨q.1, q.2.1, gK.calling g mk a q.2.2⟩
theorem wPc_blind {D : va_G} {y : Nat → ClassId} {wr ww : va_W} {sz : Nat} {av : List Value} : FrameBlind (wPc D y wr ww sz av) := fun a U g mk q => ⟨q.1, q.2.1, q.2.2.1, q.2.2.2.1, q.2.2.2.2.1, q.2.2.2.2.2.1, gK.calling g mk a q.2.2.2.2.2.2⟩
theorem ro_now {D : va_G} {cl : List vw_C} {A : Nat → Prop} {wr : va_W} {H0 H : Heap} {locs : List Loc} (h : va_P D cl wr H0) (hN : ∀ (k : Nat) (q : Nat × va_E), wr[k]? = some q → ¬ A q.1) (hS : va_S A H0 H locs) : va_P D cl wr H := h.kept (fun k q hk => hS.2.1 q.1 ((h k q hk).lt) (hN k q hk))
theorem ro_sub {A : Nat → Prop} {wr wr' : va_W} (hN : ∀ (k : Nat) (q : Nat × va_E), wr[k]? = some q → ¬ A q.1) (is : List Nat) (hs : is.filterMap (fun i => wr[i]?) = wr') : ∀ (k : Nat) (q : Nat × va_E), wr'[k]? = some q → ¬ A q.1 := by
  intro k q hk
  subst hs
  obtain ⟨i, -, hi⟩ := List.mem_filterMap.mp (List.mem_of_getElem? hk)
  exact hN i q hi
theorem ro_nil {A : Nat → Prop} : ∀ (k : Nat) (q : Nat × va_E), ([] : va_W)[k]? = some q → ¬ A q.1 := fun k q h => by simp at h
theorem ro_app {A : Nat → Prop} {a b : va_W} (ha : ∀ (k : Nat) (q : Nat × va_E), a[k]? = some q → ¬ A q.1) (hb : ∀ (k : Nat) (q : Nat × va_E), b[k]? = some q → ¬ A q.1) : ∀ (k : Nat) (q : Nat × va_E), (a ++ b)[k]? = some q → ¬ A q.1 := by
  intro k q hk
  rcases List.mem_append.mp (List.mem_of_getElem? hk) with h | h
  · obtain ⟨i, hi⟩ := List.getElem?_of_mem h
    exact ha i q hi
  · obtain ⟨i, hi⟩ := List.getElem?_of_mem h
    exact hb i q hi
/-- cells of the caller's own that the callee only reads -/
theorem rw_sub {D : va_G} {cl : List vw_C} {A0 : Nat → Prop} {ws wc wr : va_W} {H : Heap} (hP : va_P D cl ws H) (hD : va_D A0 ws) (isC isR : List Nat) (hC : isC.map (fun i => ws[i]?) = wc.map some) (hR : isR.map (fun i => ws[i]?) = wr.map some) (hdis : ∀ i ∈ isR, i ∉ isC) : ∀ (k : Nat) (q : Nat × va_E), wr[k]? = some q → ¬ va_A wc H.size q.1 := by
  have at' : ∀ {is : List Nat} {w : va_W}, is.map (fun i => ws[i]?) = w.map some → ∀ (k : Nat) (q : Nat × va_E), w[k]? = some q → ∃ i, is[k]? = some i ∧ ws[i]? = some q := by
    intro is w hs k q hq
    have h1 : (is.map (fun i => ws[i]?))[k]? = some (some q) := by rw [hs, List.getElem?_map, hq]; rfl
    rw [List.getElem?_map] at h1
    cases hi : is[k]? with
    | none => rw [hi] at h1; cases h1
    | some i => rw [hi] at h1; exact ⟨i, rfl, Option.some.inj h1⟩
  intro k q hq h
  obtain ⟨i, h1, h2⟩ := at' hR k q hq
  have hl := (hP i q h2).lt
  rcases h with ⟨k2, e, h⟩ | h
  · obtain ⟨j, h3, h4⟩ := at' hC k2 (q.1, e) h
    have hij := hD.1 i j q (q.1, e) h2 h4 rfl
    subst hij
    exact hdis i (List.mem_of_getElem? h1) (List.mem_of_getElem? h3)
  · omega
section ZC
variable {p : Program} {l : Launch} {e : Env} {R : Room} {s : State} {m : MethodId} {args : Array Value} {below : List Frame} {meth : Method} {c : Code} {H : Heap} {locs : List Loc} {cells slots : Nat} {Q : State → Prop}
variable {cc : ByteArray} {pc : Nat} {ls : Array Slot} {rest st : List Value} {D : va_G} {y : Nat → ClassId}
variable {nL maxL mc ms n index : Nat} {ret : Option FieldType} {wsl wsl' Ts : List Cond} {rm : Room} {own C : String} {yn : MethodName} {bytes : ByteArray} {b : Nat} {As : List Value} {v : Value} {wc : va_W}
theorem z_call0 {st0 : List Value} {a : Array Value} (hr : CallRun p l e R s m args below meth c H locs cells slots 0 0 (F0 m pc ls st0) rest (qV v a) (fun _ => False))
    (kk : W p l e R s m args below meth c H locs cells slots Q (F0 m (pc + 3) ls (v :: rest))) : W p l e R s m args below meth c H locs cells slots Q (F0 m pc ls st0) := by
  intro T hT X
  obtain ⟨v1, st₀, t, T', L, h0, X', hL, e1, ⟨hv, hh⟩, st⟩ := hr T hT X
  cases hv
  obtain ⟨t2, a1, b1⟩ := kk T' (by rw [e1, hh, h0]) (Stand.forget X' (fun q h => (hL q h).elim))
  exact ⟨t2, st t2 a1, b1⟩
theorem z_call0r {st0 : List Value} {a : Array Value} (hr : va_Run p l e R s m args below meth c H locs cells slots 0 0 (F0 m pc ls st0) rest (qV v a) (fun _ => False))
    (kk : W p l e R s m args below meth c H locs cells slots Q (F0 m (pc + 3) ls (v :: rest))) : W p l e R s m args below meth c H locs cells slots Q (F0 m pc ls st0) := by
  intro T hT X
  obtain ⟨v1, st₀, t, T', L, h0, X', hL, e1, e2, ⟨hv, hh⟩, st⟩ := hr T hT X
  cases hv
  obtain ⟨t2, a1, b1⟩ := kk T' (by rw [e1, hh, h0]) (Stand.forget X' (fun q h => (hL q h).elim))
  exact ⟨t2, st t2 a1, b1⟩
/-- a call of a method that writes nothing -/
theorem z_pV {q : vw_C} (S : CallFix p m c cc nL s args Ts own) (hM : Met l yn wsl rm (pPc D y wc (.ref b :: As)) (qV v) 0 0 (fun _ => False)) (cw : CallW R s args own q.1 index yn bytes maxL ret wsl rm 0 0 n) (hG : gK D y s) (hP : va_P D vwCl wc H) (q0 : Nat) {ci : Nat} {fs : List Value} (he : wc[q0]? = some (b, .inr (ci, fs))) (hc : vwCl[ci]? = some q) (hn : As.length = n) (hsz : ls.size = nL) (hst : st = As.reverse ++ .ref b :: rest) (hW : (rest.map fun v => v.category).sum ≤ 8) (hdg : decode cc pc = .ok (.invokevirtual index, 3)) (hf : cells + 0 ≤ R.cells ∧ slots + 0 ≤ R.slots)
    (kk : W p l e R s m args below meth c H locs cells slots Q (F0 m (pc + 3) ls (v :: rest))) : W p l e R s m args below meth c H locs cells slots Q (F0 m pc ls st) :=
  z_call0 (W.runV S hM cw ⟨pPc_blind, va_recv hG.1 hP hc he, fun U hU hW => ⟨rfl, by rw [hU]; exact hP, hG.warm hW⟩⟩ rfl hn hsz hst (lv_room hW) hdg hf) kk
theorem z_pS (S : CallFix p m c cc nL s args Ts own) (hM : Met l yn wsl rm (pPc D y wc As) (qV v) 0 0 (fun _ => False)) (cw : CallB R s args own index yn bytes maxL ret wsl rm 0 0 n ∧ (Cond.static yn).before args s = true) (hG : gK D y s) (hP : va_P D vwCl wc H) (hn : As.length = n) (hsz : ls.size = nL) (hst : st = As.reverse ++ rest) (hW : (rest.map fun v => v.category).sum ≤ 8) (hdg : decode cc pc = .ok (.invokestatic index, 3)) (hf : cells + 0 ≤ R.cells ∧ slots + 0 ≤ R.slots)
    (kk : W p l e R s m args below meth c H locs cells slots Q (F0 m (pc + 3) ls (v :: rest))) : W p l e R s m args below meth c H locs cells slots Q (F0 m pc ls st) :=
  z_call0 (W.runS S hM cw ⟨pPc_blind, fun U hU hW => ⟨rfl, by rw [hU]; exact hP, hG.warm hW⟩⟩ rfl hn hsz hst (lv_room hW) hdg hf) kk
theorem z_pSN {host : String} (S : CallFix p m c cc nL s args Ts own) (hM : Met l yn wsl rm (pPc D y wc As) (qV v) 0 0 (fun _ => False)) (cw : va_CN R s args own index yn host bytes maxL ret wsl rm 0 0 n ∧ (Cond.static yn).before args s = true ∧ True) (hG : gK D y s) (hP : va_P D vwCl wc H) (hn : As.length = n) (hsz : ls.size = nL) (hst : st = As.reverse ++ rest) (hW : (rest.map fun v => v.category).sum ≤ 8) (hdg : decode cc pc = .ok (.invokestatic index, 3)) (hf : cells + 0 ≤ R.cells ∧ slots + 0 ≤ R.slots)
    (kk : W p l e R s m args below meth c H locs cells slots Q (F0 m (pc + 3) ls (v :: rest))) : W p l e R s m args below meth c H locs cells slots Q (F0 m pc ls st) :=
  z_call0r (va_runSN S hM cw ⟨pPc_blind, fun U hU hW => ⟨rfl, by rw [hU]; exact hP, hG.warm hW⟩⟩ rfl hn hsz hst (lv_room hW) hdg hf) kk
variable {A0 A1 : Nat → Prop} {H0 : Heap} {free : Addr → Prop} {S1 : Type} {vf : S1 → Option Value} {post : S1 → Prop} {w1 : S1 → va_W} {ws wr1 wrest : va_W}
theorem z_callW {st0 : List Value} {a : Array Value} (hr : va_Run p l e R s m args below meth c H locs cells slots mc ms (F0 m pc ls st0) rest (wQ D vf post w1 A1 a) free) (hS : va_S A0 H0 H locs) (hA : ∀ q, q < H.size → A1 q → A0 q) (hf : ∀ q, free q → A0 q)
    (kk : ∀ (u : S1) (H1 : Heap) (locs1 : List Loc), post u → va_P D vwCl (w1 u) H1 → va_D A1 (w1 u) → H.size ≤ H1.size → (∀ q : Nat, q < H.size → ¬ A1 q → H1[q]? = H[q]?) → va_S A0 H0 H1 locs1 → W p l e R s m args below meth c H1 locs1 (cells + mc) (slots + ms) Q (F0 m (pc + 3) ls ((vf u).toList ++ rest))) : W p l e R s m args below meth c H locs cells slots Q (F0 m pc ls st0) := by
  intro T hT X
  obtain ⟨v, st₀, t, T', L, h0, X', hL, e1, e2, ⟨⟨u, hv, hp, hb, hd⟩, hz, hk⟩, st⟩ := hr T hT X
  cases hv
  rw [h0] at hz hk
  obtain ⟨t2, a1, b1⟩ := kk u T'.heap (locs ++ L) hp (by rw [e1]; exact hb) hd (by rw [e1]; exact hz) (fun q h1 h2 => by rw [e1]; exact hk q h1 h2)
    ⟨Nat.le_trans hS.1 (by rw [e1]; exact hz), fun q h1 h2 => by rw [e1, hk q (Nat.lt_of_lt_of_le h1 hS.1) (fun z => h2 (hA q (Nat.lt_of_lt_of_le h1 hS.1) z))]; exact hS.2.1 q h1 h2, fun q hq => by
      rcases List.mem_append.mp hq with h | h
      · exact hS.2.2 q h
      · exact hf _ (hL q h)⟩ T' rfl X'
  exact ⟨t2, st t2 a1, b1⟩
/-- a call of a method that writes: its cells are cut out of the caller's and come back behind the others -/
theorem z_wV {q : vw_C} (S : CallFix p m c cc nL s args Ts own) (hM : Met l yn wsl rm (wPc D y wr1 wc H.size (.ref b :: As)) (wQ D vf post w1 (va_A wc H.size)) mc ms (va_A wc H.size)) (cw : CallW R s args own q.1 index yn bytes maxL ret wsl rm mc ms n) (hG : gK D y s) (hP : va_P D vwCl ws H) (hD : va_D A0 ws) (hS : va_S A0 H0 H locs) (hA : ∀ q, H0.size ≤ q → A0 q) (isC isR : List Nat) (hC : isC.map (fun i => ws[i]?) = wc.map some) (hR : isR.map (fun i => ws[i]?) = wrest.map some) (hnC : va_nd isC = true) (hnR : va_nd isR = true) (hdis : ∀ i ∈ isR, i ∉ isC)
    (hPr : va_P D vwCl wr1 H) (hNr : ∀ (k : Nat) (q : Nat × va_E), wr1[k]? = some q → ¬ va_A wc H.size q.1) (q0 : Nat) {ci : Nat} {fs : List Value} (he : wc[q0]? = some (b, .inr (ci, fs))) (hc : vwCl[ci]? = some q) (hn : As.length = n) (hsz : ls.size = nL) (hst : st = As.reverse ++ .ref b :: rest) (hW : (rest.map fun v => v.category).sum ≤ 8) (hdg : decode cc pc = .ok (.invokevirtual index, 3)) (hf : cells + mc ≤ R.cells ∧ slots + ms ≤ R.slots)
    (kk : ∀ (u : S1) (H1 : Heap) (locs1 : List Loc), post u → va_P D vwCl (wrest ++ w1 u) H1 → va_D A0 (wrest ++ w1 u) → va_S A0 H0 H1 locs1 → W p l e R s m args below meth c H1 locs1 (cells + mc) (slots + ms) Q (F0 m (pc + 3) ls ((vf u).toList ++ rest))) : W p l e R s m args below meth c H locs cells slots Q (F0 m pc ls st) := by
  have hPc : va_P D vwCl wc H := fun k q hk => by
    have h1 : (isC.map (fun i => ws[i]?))[k]? = some (some q) := by rw [hC, List.getElem?_map, hk]; rfl
    rw [List.getElem?_map] at h1
    cases hi : isC[k]? with
    | none => rw [hi] at h1; cases h1
    | some i => rw [hi] at h1; exact hP i q (Option.some.inj h1)
  have hDc : va_D A0 wc := hD.sub isC hnC hC
  have hFc := va_free (wc := wc) hD hS hA isC hC
  exact z_callW (va_runV S hM cw ⟨wPc_blind, va_recv hG.1 hPc hc he, fun U hU hW => ⟨rfl, by rw [hU], by rw [hU]; exact hPr, by rw [hU]; exact hPc, hDc.weaken (fun _ _ _ _ => trivial), hNr, hG.warm hW⟩⟩ rfl hn hsz hst (lv_room hW) hdg hf) hS (fun q _ h => hFc q h) hFc
    (fun u H1 locs1 hp hP1 hD1 hz hk1 hS1 => by
      obtain ⟨j1, j2⟩ := va_join hP hD isC isR hC hR hnR hdis hk1 hFc hP1 hD1
      exact kk u H1 locs1 hp j1 j2 hS1)
theorem z_wI (S : CallFix p m c cc nL s args Ts own) (hM : Met l yn wsl rm (wPc D y wr1 wc H.size (.ref b :: As)) (wQ D vf post w1 (va_A wc H.size)) mc ms (va_A wc H.size)) (cw : CallB R s args own index yn bytes maxL none wsl rm mc ms n ∧ yn.name = "<init>" ∧ (Cond.instanceMethod yn).before args s = true) (hG : gK D y s) (hP : va_P D vwCl ws H) (hD : va_D A0 ws) (hS : va_S A0 H0 H locs) (hA : ∀ q, H0.size ≤ q → A0 q) (isC isR : List Nat) (hC : isC.map (fun i => ws[i]?) = wc.map some) (hR : isR.map (fun i => ws[i]?) = wrest.map some) (hnC : va_nd isC = true) (hnR : va_nd isR = true) (hdis : ∀ i ∈ isR, i ∉ isC)
    (hPr : va_P D vwCl wr1 H) (hNr : ∀ (k : Nat) (q : Nat × va_E), wr1[k]? = some q → ¬ va_A wc H.size q.1) (hn : As.length = n) (hsz : ls.size = nL) (hst : st = As.reverse ++ .ref b :: rest) (hW : (rest.map fun v => v.category).sum ≤ 8) (hdg : decode cc pc = .ok (.invokespecial index, 3)) (hf : cells + mc ≤ R.cells ∧ slots + ms ≤ R.slots)
    (kk : ∀ (u : S1) (H1 : Heap) (locs1 : List Loc), post u → va_P D vwCl (wrest ++ w1 u) H1 → va_D A0 (wrest ++ w1 u) → va_S A0 H0 H1 locs1 → W p l e R s m args below meth c H1 locs1 (cells + mc) (slots + ms) Q (F0 m (pc + 3) ls ((vf u).toList ++ rest))) : W p l e R s m args below meth c H locs cells slots Q (F0 m pc ls st) := by
  have hPc : va_P D vwCl wc H := fun k q hk => by
    have h1 : (isC.map (fun i => ws[i]?))[k]? = some (some q) := by rw [hC, List.getElem?_map, hk]; rfl
    rw [List.getElem?_map] at h1
    cases hi : isC[k]? with
    | none => rw [hi] at h1; cases h1
    | some i => rw [hi] at h1; exact hP i q (Option.some.inj h1)
  have hDc : va_D A0 wc := hD.sub isC hnC hC
  have hFc := va_free (wc := wc) hD hS hA isC hC
  exact z_callW (va_runI S hM cw ⟨wPc_blind, fun U hU hW => ⟨rfl, by rw [hU], by rw [hU]; exact hPr, by rw [hU]; exact hPc, hDc.weaken (fun _ _ _ _ => trivial), hNr, hG.warm hW⟩⟩ rfl hn hsz hst (lv_room hW) hdg hf) hS (fun q _ h => hFc q h) hFc
    (fun u H1 locs1 hp hP1 hD1 hz hk1 hS1 => by
      obtain ⟨j1, j2⟩ := va_join hP hD isC isR hC hR hnR hdis hk1 hFc hP1 hD1
      exact kk u H1 locs1 hp j1 j2 hS1)
theorem z_wIN {host : String} (S : CallFix p m c cc nL s args Ts own) (hM : Met l yn wsl rm (wPc D y wr1 wc H.size (.ref b :: As)) (wQ D vf post w1 (va_A wc H.size)) mc ms (va_A wc H.size)) (cw : va_CN R s args own index yn host bytes maxL none wsl rm mc ms n ∧ yn.name = "<init>" ∧ (Cond.instanceMethod yn).before args s = true) (hG : gK D y s) (hP : va_P D vwCl ws H) (hD : va_D A0 ws) (hS : va_S A0 H0 H locs) (hA : ∀ q, H0.size ≤ q → A0 q) (isC isR : List Nat) (hC : isC.map (fun i => ws[i]?) = wc.map some) (hR : isR.map (fun i => ws[i]?) = wrest.map some) (hnC : va_nd isC = true) (hnR : va_nd isR = true) (hdis : ∀ i ∈ isR, i ∉ isC)
    (hPr : va_P D vwCl wr1 H) (hNr : ∀ (k : Nat) (q : Nat × va_E), wr1[k]? = some q → ¬ va_A wc H.size q.1) (hn : As.length = n) (hsz : ls.size = nL) (hst : st = As.reverse ++ .ref b :: rest) (hW : (rest.map fun v => v.category).sum ≤ 8) (hdg : decode cc pc = .ok (.invokespecial index, 3)) (hf : cells + mc ≤ R.cells ∧ slots + ms ≤ R.slots)
    (kk : ∀ (u : S1) (H1 : Heap) (locs1 : List Loc), post u → va_P D vwCl (wrest ++ w1 u) H1 → va_D A0 (wrest ++ w1 u) → va_S A0 H0 H1 locs1 → W p l e R s m args below meth c H1 locs1 (cells + mc) (slots + ms) Q (F0 m (pc + 3) ls ((vf u).toList ++ rest))) : W p l e R s m args below meth c H locs cells slots Q (F0 m pc ls st) := by
  have hPc : va_P D vwCl wc H := fun k q hk => by
    have h1 : (isC.map (fun i => ws[i]?))[k]? = some (some q) := by rw [hC, List.getElem?_map, hk]; rfl
    rw [List.getElem?_map] at h1
    cases hi : isC[k]? with
    | none => rw [hi] at h1; cases h1
    | some i => rw [hi] at h1; exact hP i q (Option.some.inj h1)
  have hDc : va_D A0 wc := hD.sub isC hnC hC
  have hFc := va_free (wc := wc) hD hS hA isC hC
  exact z_callW (va_runIN S hM cw ⟨wPc_blind, fun U hU hW => ⟨rfl, by rw [hU], by rw [hU]; exact hPr, by rw [hU]; exact hPc, hDc.weaken (fun _ _ _ _ => trivial), hNr, hG.warm hW⟩⟩ rfl hn hsz hst (lv_room hW) hdg hf) hS (fun q _ h => hFc q h) hFc
    (fun u H1 locs1 hp hP1 hD1 hz hk1 hS1 => by
      obtain ⟨j1, j2⟩ := va_join hP hD isC isR hC hR hnR hdis hk1 hFc hP1 hD1
      exact kk u H1 locs1 hp j1 j2 hS1)
/-- the frame of a call, from the caller's side, for a method whose cells lie elsewhere -/
theorem z_loop {σ : Type} {head : Nat} (I : σ → Heap → List Loc → Array Slot → Prop) (μ : σ → Nat)
    (hs : ∀ (x : σ) (H : Heap) (locs : List Loc) (ls : Array Slot), I x H locs ls → (∀ (x' : σ) (H' : Heap) (locs' : List Loc) (ls' : Array Slot), μ x' < μ x → I x' H' locs' ls' → W p l e R s m args below meth c H' locs' cells slots Q (F0 m head ls' [])) → W p l e R s m args below meth c H locs cells slots Q (F0 m head ls []))
    (x0 : σ) (h0 : I x0 H locs ls) : W p l e R s m args below meth c H locs cells slots Q (F0 m head ls []) := by
  have key : ∀ (N : Nat) (x : σ) (H : Heap) (locs : List Loc) (ls : Array Slot), μ x < N → I x H locs ls → W p l e R s m args below meth c H locs cells slots Q (F0 m head ls []) := by
    intro N
    induction N with
    | zero => intro x H locs ls h; omega
    | succ N ih => intro x H locs ls h hI; exact hs x H locs ls hI (fun x' H' locs' ls' h' hI' => ih x' H' locs' ls' (by omega) hI')
  exact key (μ x0 + 1) x0 H locs ls (by omega) h0
theorem z_cut {σ : Type} (pcJ : Nat) (I : σ → Heap → List Loc → Array Slot → List Value → Prop) (hb : (∀ (x : σ) (H' : Heap) (locs' : List Loc) (ls' : Array Slot) (st' : List Value), I x H' locs' ls' st' → W p l e R s m args below meth c H' locs' cells slots Q (F0 m pcJ ls' st')) → W p l e R s m args below meth c H locs cells slots Q (F0 m pc ls st))
    (hJ : ∀ (x : σ) (H' : Heap) (locs' : List Loc) (ls' : Array Slot) (st' : List Value), I x H' locs' ls' st' → W p l e R s m args below meth c H' locs' cells slots Q (F0 m pcJ ls' st')) : W p l e R s m args below meth c H locs cells slots Q (F0 m pc ls st) := hb hJ
end ZC
/-! ===== a method, from its entry ===== -/
theorem P_of {l : Launch} {yn : MethodName} {own : String} {ws ws' : List Cond} {rm : Room} {D : va_G} {y : Nat → ClassId} {wsw : va_W} {av : List Value} {v : Value} {cc : ByteArray} {maxL : Nat} {ret : Option FieldType} (hy : plainName yn.cls = true) (ho : yn.cls = own) (hw : ws = Cond.code yn cc maxL ret :: ws') (hlen : (lg_sl av).length ≤ maxL)
    (body : ∀ (p : Program) (e : Env) (s : State) (m : MethodId) (below : List Frame) (meth : Method) (c : Code) (ls : Array Slot), p.tables.exec = Jvm.exec → c.code = cc → meth.sig.returnType = ret → CallFix p m c cc maxL s av.toArray ws own → meth.locks = false → va_P D vwCl wsw s.heap → gK D y s → lv_has ls maxL (lv_args 0 av) →
      W p l e rm s m av.toArray below meth c s.heap [] 0 0 (MQ below (qV v) av.toArray s 0 0 (fun _ => False)) (F0 m 0 ls [])) : Met l yn ws rm (pPc D y wsw av) (qV v) 0 0 (fun _ => False) := by
  refine Met.ofW (cc := cc) (maxL := maxL) (ret := ret) hy hw ?_
  intro p e s m args below meth c s₁ B hml hv
  obtain ⟨rfl, hP, hG⟩ := hv
  have hl := lv_entry av (n := maxL) hlen
  rw [lg_entry_eq]
  exact body p e s m below meth c _ B.exec B.bytes B.returns ⟨B.exec, B.bytes, hml, by rw [← ho]; exact findClass_of_methodNamed B.named, atoms_spec (ws := ws) B.pre⟩ B.notSynchronized hP hG hl
theorem W_of {l : Launch} {yn : MethodName} {own : String} {ws ws' : List Cond} {rm : Room} {D : va_G} {y : Nat → ClassId} {wr ww : va_W} {sz mc ms : Nat} {av : List Value} {S1 : Type} {vf : S1 → Option Value} {post : S1 → Prop} {w1 : S1 → va_W} {cc : ByteArray} {maxL : Nat} {ret : Option FieldType} (hy : plainName yn.cls = true) (ho : yn.cls = own) (hw : ws = Cond.code yn cc maxL ret :: ws') (hlen : (lg_sl av).length ≤ maxL)
    (body : ∀ (p : Program) (e : Env) (s : State) (m : MethodId) (below : List Frame) (meth : Method) (c : Code) (ls : Array Slot) (A : Nat → Prop), p.tables.exec = Jvm.exec → c.code = cc → meth.sig.returnType = ret → CallFix p m c cc maxL s av.toArray ws own → meth.locks = false → meth.name = yn.name → va_P D vwCl wr s.heap → (∀ (k : Nat) (q : Nat × va_E), wr[k]? = some q → ¬ A q.1) → va_P D vwCl ww s.heap → va_D A ww → (∀ q : Nat, s.heap.size ≤ q → A q) → gK D y s → lv_has ls maxL (lv_args 0 av) →
      W p l e rm s m av.toArray below meth c s.heap [] 0 0 (MQ below (wQ D vf post w1 A) av.toArray s mc ms A) (F0 m 0 ls [])) : Met l yn ws rm (wPc D y wr ww sz av) (wQ D vf post w1 (va_A ww sz)) mc ms (va_A ww sz) := by
  refine Met.ofW (cc := cc) (maxL := maxL) (ret := ret) hy hw ?_
  intro p e s m args below meth c s₁ B hml hv
  obtain ⟨rfl, hsz, hR0, hP, hD0, hN, hG⟩ := hv
  subst hsz
  have hl := lv_entry av (n := maxL) hlen
  rw [lg_entry_eq]
  exact body p e s m below meth c _ _ B.exec B.bytes B.returns ⟨B.exec, B.bytes, hml, by rw [← ho]; exact findClass_of_methodNamed B.named, atoms_spec (ws := ws) B.pre⟩ B.notSynchronized (name_of_methodNamed B.named B.method).1 hR0 hN hP (hD0.self (sz := s.heap.size)) (fun q h => Or.inr h) hG hl
/-! ===== ends ===== -/
section ZE
variable {p : Program} {l : Launch} {e : Env} {R : Room} {s : State} {m : MethodId} {args : Array Value} {below : List Frame} {meth : Method} {c : Code} {cells slots : Nat}
variable {cc : ByteArray} {pc : Nat} {ls : Array Slot} {D : va_G} {A : Nat → Prop} {H : Heap} {locs : List Loc}
theorem z_iret0 (hx : p.tables.exec = Jvm.exec) (hb : c.code = cc) (hr : meth.sig.returnType = some .int) (hlocks : meth.locks = false) {z v : Int} (he : z = v) (hdg : decode cc pc = .ok (.ireturn, 1)) : W p l e R s m args below meth c s.heap [] cells slots (MQ below (qV (zi v)) args s cells slots (fun _ => False)) (F0 m pc ls [zi z]) := by
  subst he
  exact W.iret hx hb hr (fun t ht _ => ⟨rfl, ht⟩) (fun q h => by cases h) hdg hlocks
theorem z_lret0 (hx : p.tables.exec = Jvm.exec) (hb : c.code = cc) (hr : meth.sig.returnType = some .long) (hlocks : meth.locks = false) {z v : Int} (he : z = v) (hdg : decode cc pc = .ok (.lreturn, 1)) : W p l e R s m args below meth c s.heap [] cells slots (MQ below (qV (zl v)) args s cells slots (fun _ => False)) (F0 m pc ls [zl z]) := by
  subst he
  exact W.lret hx hb hr (fun t ht _ => ⟨rfl, ht⟩) (fun q h => by cases h) hdg hlocks
theorem nar_b {z : Int} (h : z = 0 ∨ z = 1) : narrow .boolean (zi z) = zi z := by rcases h with rfl | rfl <;> decide
theorem z_zret0 (hx : p.tables.exec = Jvm.exec) (hb : c.code = cc) (hr : meth.sig.returnType = some .boolean) (hlocks : meth.locks = false) {z v : Int} (h01 : z = 0 ∨ z = 1) (he : z = v) (hdg : decode cc pc = .ok (.ireturn, 1)) : W p l e R s m args below meth c s.heap [] cells slots (MQ below (qV (zi v)) args s cells slots (fun _ => False)) (F0 m pc ls [zi z]) := by
  subst he
  exact W.zret hx hb hr (nar_b h01) (fun t ht _ => ⟨rfl, ht⟩) (fun q h => by cases h) hdg hlocks
theorem z_aret0 (hx : p.tables.exec = Jvm.exec) (hb : c.code = cc) {rt : String} (hr : meth.sig.returnType = some (.object rt)) (hlocks : meth.locks = false) {z v : Value} (hv : z = .null ∨ ∃ a, z = .ref a) (he : z = v) (hdg : decode cc pc = .ok (.areturn, 1)) : W p l e R s m args below meth c s.heap [] cells slots (MQ below (qV v) args s cells slots (fun _ => False)) (F0 m pc ls [z]) := by
  subst he
  exact W.aret hx hb hr (Or.inl ⟨_, rfl⟩) hv (fun t ht _ => ⟨rfl, ht⟩) (fun q h => by cases h) hdg hlocks
variable {S1 : Type} {vf : S1 → Option Value} {post : S1 → Prop} {w1 : S1 → va_W}
theorem z_vretW (hx : p.tables.exec = Jvm.exec) (hb : c.code = cc) (hr : meth.sig.returnType = none) (hlocks : meth.locks = false) (u : S1) (hv : vf u = none) (hp : post u) (hP : va_P D vwCl (w1 u) H) (hD : va_D A (w1 u)) (hS : va_S A s.heap H locs) (hdg : decode cc pc = .ok (.return_, 1)) : W p l e R s m args below meth c H locs cells slots (MQ below (wQ D vf post w1 A) args s cells slots A) (F0 m pc ls []) :=
  W.vret hx hb hr (fun t ht _ => ⟨⟨u, by rw [hv], hp, by rw [ht]; exact hP, hD⟩, hS.F ht⟩) hS.2.2 hdg hlocks
theorem z_iretW (hx : p.tables.exec = Jvm.exec) (hb : c.code = cc) (hr : meth.sig.returnType = some .int) (hlocks : meth.locks = false) {z : Int} (u : S1) (hv : vf u = some (zi z)) (hp : post u) (hP : va_P D vwCl (w1 u) H) (hD : va_D A (w1 u)) (hS : va_S A s.heap H locs) (hdg : decode cc pc = .ok (.ireturn, 1)) : W p l e R s m args below meth c H locs cells slots (MQ below (wQ D vf post w1 A) args s cells slots A) (F0 m pc ls [zi z]) :=
  W.iret hx hb hr (fun t ht _ => ⟨⟨u, by rw [hv], hp, by rw [ht]; exact hP, hD⟩, hS.F ht⟩) hS.2.2 hdg hlocks
theorem z_zretW (hx : p.tables.exec = Jvm.exec) (hb : c.code = cc) (hr : meth.sig.returnType = some .boolean) (hlocks : meth.locks = false) {z : Int} (h01 : z = 0 ∨ z = 1) (u : S1) (hv : vf u = some (zi z)) (hp : post u) (hP : va_P D vwCl (w1 u) H) (hD : va_D A (w1 u)) (hS : va_S A s.heap H locs) (hdg : decode cc pc = .ok (.ireturn, 1)) : W p l e R s m args below meth c H locs cells slots (MQ below (wQ D vf post w1 A) args s cells slots A) (F0 m pc ls [zi z]) :=
  W.zret hx hb hr (nar_b h01) (fun t ht _ => ⟨⟨u, by rw [hv], hp, by rw [ht]; exact hP, hD⟩, hS.F ht⟩) hS.2.2 hdg hlocks
theorem z_lretW (hx : p.tables.exec = Jvm.exec) (hb : c.code = cc) (hr : meth.sig.returnType = some .long) (hlocks : meth.locks = false) {z : Int} (u : S1) (hv : vf u = some (zl z)) (hp : post u) (hP : va_P D vwCl (w1 u) H) (hD : va_D A (w1 u)) (hS : va_S A s.heap H locs) (hdg : decode cc pc = .ok (.lreturn, 1)) : W p l e R s m args below meth c H locs cells slots (MQ below (wQ D vf post w1 A) args s cells slots A) (F0 m pc ls [zl z]) :=
  W.lret hx hb hr (fun t ht _ => ⟨⟨u, by rw [hv], hp, by rw [ht]; exact hP, hD⟩, hS.F ht⟩) hS.2.2 hdg hlocks
end ZE
theorem va_P_nil {D : va_G} {cl : List vw_C} {H : Heap} : va_P D cl [] H := fun k q h => by simp at h
theorem bI01 (P : Prop) [Decidable P] : bI P = 0 ∨ bI P = 1 := by
  rcases bI_cases P with ⟨-, h⟩ | ⟨-, h⟩
  · exact Or.inr h
  · exact Or.inl h
theorem fit_b {z : Int} (h : z = 0 ∨ z = 1) : fits .boolean (zi z) = true := by rcases h with rfl | rfl <;> decide
theorem sh_ix : ∀ n : Nat, n < 32 → ((nI n &&& 31).toBitVec.smod 32).toNat = n := by decide +kernel
def bor (a b : Int) : Int := ((a.toNat ||| b.toNat : Nat) : Int)
theorem nI_or (a b : Nat) : nI a ||| nI b = nI (a ||| b) := by
  apply Int32.toBitVec_inj.1
  apply BitVec.eq_of_toNat_eq
  simp [nI, Nat.or_mod_two_pow]
section ZM
variable {p : Program} {l : Launch} {e : Env} {R : Room} {s : State} {m : MethodId} {args : Array Value} {below : List Frame} {meth : Method} {c : Code} {H : Heap} {locs : List Loc} {cells slots : Nat} {Q : State → Prop}
variable {cc : ByteArray} {pc : Nat} {ls : Array Slot} {rest : List Value}
theorem z_ishl (hx : p.tables.exec = Jvm.exec) (hb : c.code = cc) {a k : Int} (h : 0 ≤ a ∧ 0 ≤ k ∧ k < 32 ∧ a * 2 ^ k.toNat < 2 ^ 31) (hdg : decode cc pc = .ok (.ishl, 1)) (kk : W p l e R s m args below meth c H locs cells slots Q (F0 m (pc + 1) ls (zi (a * 2 ^ k.toNat) :: rest))) : W p l e R s m args below meth c H locs cells slots Q (F0 m pc ls (zi k :: zi a :: rest)) := by
  refine lv_ishl hx hb hdg ?_
  obtain ⟨n, rfl⟩ : ∃ n : Nat, a = n := ⟨a.toNat, by omega⟩
  obtain ⟨j, rfl⟩ : ∃ j : Nat, k = j := ⟨k.toNat, by omega⟩
  have e1 : (((n * 2 ^ j : Nat)) : Int) = (n : Int) * 2 ^ ((j : Int).toNat) := by
    rw [Int.toNat_natCast]
    push_cast
    rfl
  have h4 : n * 2 ^ j < 2 ^ 31 := by
    have := h.2.2.2
    rw [← e1] at this
    exact_mod_cast this
  have e2 : iI (n : Int) <<< (iI (j : Int) &&& 31) = iI ((n : Int) * 2 ^ ((j : Int).toNat)) := by
    rw [← e1, iI_nat, iI_nat, iI_nat]
    exact pk_shlN _ j (sh_ix j (by omega)) (by omega)
  rw [e2]
  exact kk
theorem z_ishr (hx : p.tables.exec = Jvm.exec) (hb : c.code = cc) {a k : Int} (h : 0 ≤ a ∧ a < 2 ^ 31 ∧ 0 ≤ k ∧ k < 32) (hdg : decode cc pc = .ok (.ishr, 1)) (kk : W p l e R s m args below meth c H locs cells slots Q (F0 m (pc + 1) ls (zi (a / 2 ^ k.toNat) :: rest))) : W p l e R s m args below meth c H locs cells slots Q (F0 m pc ls (zi k :: zi a :: rest)) := by
  refine lv_ishr hx hb hdg ?_
  obtain ⟨n, rfl⟩ : ∃ n : Nat, a = n := ⟨a.toNat, by omega⟩
  obtain ⟨j, rfl⟩ : ∃ j : Nat, k = j := ⟨k.toNat, by omega⟩
  have e1 : (((n / 2 ^ j : Nat)) : Int) = (n : Int) / 2 ^ ((j : Int).toNat) := by
    rw [Int.toNat_natCast]
    push_cast
    rfl
  have e2 : iI (n : Int) >>> (iI (j : Int) &&& 31) = iI ((n : Int) / 2 ^ ((j : Int).toNat)) := by
    rw [← e1, iI_nat, iI_nat, iI_nat]
    exact pk_shrN (by omega) _ j (sh_ix j (by omega))
  rw [e2]
  exact kk
theorem z_iand1 (hx : p.tables.exec = Jvm.exec) (hb : c.code = cc) {a : Int} (h : 0 ≤ a ∧ a < 2 ^ 31) (hdg : decode cc pc = .ok (.iand, 1)) (kk : W p l e R s m args below meth c H locs cells slots Q (F0 m (pc + 1) ls (zi (a % 2) :: rest))) : W p l e R s m args below meth c H locs cells slots Q (F0 m pc ls (zi 1 :: zi a :: rest)) := by
  refine lv_iand hx hb hdg ?_
  obtain ⟨n, rfl⟩ : ∃ n : Nat, a = n := ⟨a.toNat, by omega⟩
  have e2 : iI (n : Int) &&& iI 1 = iI ((n : Int) % 2) := by
    rw [iI_nat, pk_andN (by omega) 1 (by decide), ← iI_nat]
    rfl
  rw [e2]
  exact kk
theorem z_ior (hx : p.tables.exec = Jvm.exec) (hb : c.code = cc) {a b : Int} (h : 0 ≤ a ∧ 0 ≤ b) (hdg : decode cc pc = .ok (.ior, 1)) (kk : W p l e R s m args below meth c H locs cells slots Q (F0 m (pc + 1) ls (zi (bor a b) :: rest))) : W p l e R s m args below meth c H locs cells slots Q (F0 m pc ls (zi b :: zi a :: rest)) := by
  refine lv_ior hx hb hdg ?_
  rw [iI_nat' h.1, iI_nat' h.2, nI_or, ← iI_nat]
  exact kk
theorem z_lookup (hx : p.tables.exec = Jvm.exec) (hb : c.code = cc) {dflt : Int} {ps : Array (Int × Int)} {len : Nat} {z off : Int} {tgt : Nat} (r : rI z) (hdg : decode cc pc = .ok (.lookupswitch dflt ps, len)) (hp : (ps.toList.zip (ps.toList.drop 1)).all (fun (a, next) => a.1 < next.1) = true) (ho : Op.lookupswitch.offset ps.toList dflt z = off) (ht : (pc : Int) + off = (tgt : Int)) (kk : W p l e R s m args below meth c H locs cells slots Q (F0 m tgt ls rest)) : W p l e R s m args below meth c H locs cells slots Q (F0 m pc ls (zi z :: rest)) := lv_lookup hx hb hdg hp (by rw [iI_t r]; exact ho) ht kk
theorem z_mmin (hx : p.tables.exec = Jvm.exec) (hb : c.code = cc) (hml : c.maxLocals = ls.size) {own : String} {index : Nat} (hown : s.vm.findClass own = some m.cls) (hlink : (Cond.methodLink own index Lib.Math.min.name).before args s = true) (hstat : (Cond.static Lib.Math.min.name).before args s = true) (hini : (Cond.initialized "java/lang/Math").before args s = true) (hcode : (Cond.code Lib.Math.min.name Lib.Math.min.code 2 (some .int)).before args s = true)
    (hframes : 1 ≤ R.frames) (hlocals : (rest.map fun v => v.category).sum + 13 ≤ R.locals) (hc : cells ≤ R.cells) (hs : slots ≤ R.slots) {a b : Int} (r : rI a ∧ rI b) (hdg : decode cc pc = .ok (.invokestatic index, 3))
    (kk : W p l e R s m args below meth c H locs cells slots Q (F0 m (pc + 3) ls (zi (min a b) :: rest))) : W p l e R s m args below meth c H locs cells slots Q (F0 m pc ls (zi b :: zi a :: rest)) := by
  refine va_mmin hx hb hml hown hlink hstat hini hcode hframes hlocals hc hs hdg ?_
  by_cases h : iI b < iI a
  · rw [if_pos h]
    rw [iI_lt r.2 r.1] at h
    rw [show min a b = b by omega] at kk
    exact kk
  · rw [if_neg h]
    rw [iI_lt r.2 r.1] at h
    rw [show min a b = a by omega] at kk
    exact kk
theorem z_mabs (hx : p.tables.exec = Jvm.exec) (hb : c.code = cc) (hml : c.maxLocals = ls.size) {own : String} {index : Nat} (hown : s.vm.findClass own = some m.cls) (hlink : (Cond.methodLink own index Lib.Math.abs.name).before args s = true) (hstat : (Cond.static Lib.Math.abs.name).before args s = true) (hini : (Cond.initialized "java/lang/Math").before args s = true) (hcode : (Cond.code Lib.Math.abs.name Lib.Math.abs.code 1 (some .int)).before args s = true)
    (hframes : 1 ≤ R.frames) (hlocals : (rest.map fun v => v.category).sum + 13 ≤ R.locals) (hc : cells ≤ R.cells) (hs : slots ≤ R.slots) {a : Int} (r : rI a) (hdg : decode cc pc = .ok (.invokestatic index, 3))
    (kk : W p l e R s m args below meth c H locs cells slots Q (F0 m (pc + 3) ls (zi (max a (-a)) :: rest))) : W p l e R s m args below meth c H locs cells slots Q (F0 m pc ls (zi a :: rest)) := by
  refine va_mabs hx hb hml hown hlink hstat hini hcode hframes hlocals hc hs hdg ?_
  rw [iI_0]
  by_cases h : iI 0 ≤ iI a
  · rw [if_pos h]
    rw [iI_le (by omega) r] at h
    rw [show max a (-a) = a by omega] at kk
    exact kk
  · rw [if_neg h]
    rw [iI_le (by omega) r] at h
    rw [show max a (-a) = 0 - a by omega] at kk
    rw [iI_sub]
    exact kk
theorem z_mmaxl (hx : p.tables.exec = Jvm.exec) (hb : c.code = cc) (hml : c.maxLocals = ls.size) {own : String} {index : Nat} (hown : s.vm.findClass own = some m.cls) (hlink : (Cond.methodLink own index Lib.MathLoose.max_long.x).before args s = true) (hstat : (Cond.static Lib.MathLoose.max_long.x).before args s = true) (hini : (Cond.initialized "java/lang/Math").before args s = true) (hcode : (Cond.code Lib.MathLoose.max_long.x Lib.MathLoose.max_long.code 4 (some .long)).before args s = true)
    (hframes : 1 ≤ R.frames) (hlocals : (rest.map fun v => v.category).sum + 15 ≤ R.locals) (hc : cells ≤ R.cells) (hs : slots ≤ R.slots) {a b : Int} (r : rL a ∧ rL b) (hdg : decode cc pc = .ok (.invokestatic index, 3))
    (kk : W p l e R s m args below meth c H locs cells slots Q (F0 m (pc + 3) ls (zl (max a b) :: rest))) : W p l e R s m args below meth c H locs cells slots Q (F0 m pc ls (zl b :: zl a :: rest)) := by
  refine va_mmax_long hx hb hml hown hlink hstat hini hcode hframes hlocals hc hs hdg ?_
  by_cases h : iL b < iL a
  · rw [if_pos h]
    rw [iL_lt r.2 r.1] at h
    rw [show max a b = a by omega] at kk
    exact kk
  · rw [if_neg h]
    rw [iL_lt r.2 r.1] at h
    rw [show max a b = b by omega] at kk
    exact kk
theorem z_mminl (hx : p.tables.exec = Jvm.exec) (hb : c.code = cc) (hml : c.maxLocals = ls.size) {own : String} {index : Nat} (hown : s.vm.findClass own = some m.cls) (hlink : (Cond.methodLink own index Lib.MathLoose.min_long.x).before args s = true) (hstat : (Cond.static Lib.MathLoose.min_long.x).before args s = true) (hini : (Cond.initialized "java/lang/Math").before args s = true) (hcode : (Cond.code Lib.MathLoose.min_long.x Lib.MathLoose.min_long.code 4 (some .long)).before args s = true)
    (hframes : 1 ≤ R.frames) (hlocals : (rest.map fun v => v.category).sum + 15 ≤ R.locals) (hc : cells ≤ R.cells) (hs : slots ≤ R.slots) {a b : Int} (r : rL a ∧ rL b) (hdg : decode cc pc = .ok (.invokestatic index, 3))
    (kk : W p l e R s m args below meth c H locs cells slots Q (F0 m (pc + 3) ls (zl (min a b) :: rest))) : W p l e R s m args below meth c H locs cells slots Q (F0 m pc ls (zl b :: zl a :: rest)) := by
  refine va_mmin_long hx hb hml hown hlink hstat hini hcode hframes hlocals hc hs hdg ?_
  by_cases h : iL b < iL a
  · simp only [h, if_true, if_false]
    rw [iL_lt r.2 r.1] at h
    rw [show min a b = b by omega] at kk
    exact kk
  · simp only [h, if_true, if_false]
    rw [iL_lt r.2 r.1] at h
    rw [show min a b = a by omega] at kk
    exact kk
end ZM
