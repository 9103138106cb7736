/-! ===== sums ===== -/
def sg (f : Int → Int) : Nat → Int
  | 0 => 0
  | n + 1 => sg f n + f (n : Int)
def sgI (f : Int → Int) (n : Int) : Int := sg f n.toNat
theorem sgI_0 (f : Int → Int) : sgI f 0 = 0 := rfl
theorem sgI_s (f : Int → Int) {n : Int} (h : 0 ≤ n) : sgI f (n + 1) = sgI f n + f n := by
  obtain ⟨k, rfl⟩ : ∃ k : Nat, n = k := ⟨n.toNat, by omega⟩
  show sg f ((k : Int) + 1).toNat = sg f (k : Int).toNat + _
  rw [show ((k : Int) + 1).toNat = k + 1 by omega, Int.toNat_natCast]
  rfl
theorem sg_bd {f : Int → Int} {c : Int} (hc : 0 ≤ c) : ∀ n : Nat, (∀ k : Int, 0 ≤ k → k < n → -c ≤ f k ∧ f k ≤ c) → -(n * c) ≤ sg f n ∧ sg f n ≤ n * c
  | 0, _ => by simp [sg]
  | n + 1, h => by
    have h1 := sg_bd hc n (fun k a b => h k a (by omega))
    have h2 := h (n : Int) (by omega) (by omega)
    have e : ((n + 1 : Nat) : Int) * c = n * c + c := by rw [Int.natCast_add, Int.add_mul]; simp
    rw [e]
    show -(n * c + c) ≤ sg f n + f n ∧ sg f n + f n ≤ n * c + c
    omega
theorem sgI_bd {f : Int → Int} {c n : Int} (hc : 0 ≤ c) (h0 : 0 ≤ n) (h : ∀ k : Int, 0 ≤ k → k < n → -c ≤ f k ∧ f k ≤ c) : -(n * c) ≤ sgI f n ∧ sgI f n ≤ n * c := by
  obtain ⟨k, rfl⟩ : ∃ k : Nat, n = k := ⟨n.toNat, by omega⟩
  have := sg_bd (f := f) hc k h
  simpa [sgI] using this
theorem sg_congr {f g : Int → Int} : ∀ n : Nat, (∀ k : Int, 0 ≤ k → k < n → f k = g k) → sg f n = sg g n
  | 0, _ => rfl
  | n + 1, h => by
    have h1 := sg_congr n (fun k a b => h k a (by omega))
    have h2 := h (n : Int) (by omega) (by omega)
    show sg f n + f n = sg g n + g n
    rw [h1, h2]
theorem sgI_congr {f g : Int → Int} {n : Int} (h : ∀ k : Int, 0 ≤ k → k < n → f k = g k) : sgI f n = sgI g n := by
  by_cases h0 : 0 ≤ n
  · obtain ⟨k, rfl⟩ : ∃ k : Nat, n = k := ⟨n.toNat, by omega⟩
    exact sg_congr k h
  · show sg f n.toNat = sg g n.toNat
    rw [show n.toNat = 0 by omega]
    rfl
theorem mul_bd {a b A B : Int} (h1 : 0 ≤ a) (h2 : a ≤ A) (h3 : 0 ≤ b) (h4 : b ≤ B) : 0 ≤ a * b ∧ a * b ≤ A * B := ⟨Int.mul_nonneg h1 h3, Int.mul_le_mul h2 h4 h3 (by omega)⟩
theorem mul_pos1 {a b : Int} (h1 : 1 ≤ a) (h3 : 1 ≤ b) : 1 ≤ a * b := by
  have := Int.mul_le_mul h1 h3 (by omega) (by omega : (0 : Int) ≤ a)
  omega
theorem abs_mul_bd {a b A B : Int} (h1 : 0 ≤ a) (h2 : a ≤ A) (h3 : -B ≤ b) (h4 : b ≤ B) (hB : 0 ≤ B) : -(A * B) ≤ a * b ∧ a * b ≤ A * B := by
  have hAB : a * B ≤ A * B := Int.mul_le_mul_of_nonneg_right h2 hB
  have e1 : a * b ≤ a * B := Int.mul_le_mul_of_nonneg_left h4 h1
  have e2 : a * (-B) ≤ a * b := Int.mul_le_mul_of_nonneg_left h3 h1
  rw [Int.mul_neg] at e2
  omega
/-! ===== a boat ===== -/
def bOK (bl bw bt bh bd bx bn : Int) (CI CJ CW : Int → Int) : Prop := (3 ≤ bl ∧ bl ≤ 20) ∧ (3 ≤ bw ∧ bw ≤ 20) ∧ (1 ≤ bt ∧ bt ≤ 9) ∧ (1 ≤ bh ∧ bh ≤ 9) ∧ 1 ≤ bl - 2 * bh ∧ 1 ≤ bw - 2 * bh ∧ (0 ≤ bd ∧ bd ≤ 99) ∧ (0 ≤ bx ∧ bx ≤ 9) ∧ (0 ≤ bn ∧ bn ≤ 8) ∧ ∀ c : Int, 0 ≤ c → c < bn → (0 ≤ CI c ∧ CI c < bl - 2 * bh) ∧ (0 ≤ CJ c ∧ CJ c < bw - 2 * bh) ∧ 1 ≤ CW c ∧ CW c ≤ 99
def wOf (bn : Int) (CW : Int → Int) (k : Int) : Int := if 0 ≤ k ∧ k < bn then CW k else 0
def pullV (bn a : Int) (C CW : Int → Int) (k : Int) : Int := if 0 ≤ k ∧ k < bn then CW k * (2 * C k + 1 - a) else 0
def momV (bn a : Int) (C CW : Int → Int) : Int := sgI (pullV bn a C CW) bn
def wAt (bl bw bt bd bn : Int) (CW : Int → Int) (s : Int) : Int := bl * bw * bt + s * bd + sgI (wOf bn CW) bn
def corV (a b wt m n : Int) : Int := wt * (a * b) + 3 * max m (-m) * b + 3 * max n (-n) * a
def unitV (a b : Int) : Int := 100 * (a * b) * (a * b)
def roomV (a b bh c : Int) : Int := bh * unitV a b - c
def corAt (bl bw bt bh bd bn : Int) (CI CJ CW : Int → Int) (s : Int) : Int := corV (bl - 2 * bh) (bw - 2 * bh) (wAt bl bw bt bd bn CW s) (momV bn (bl - 2 * bh) CI CW) (momV bn (bw - 2 * bh) CJ CW)
theorem bOK_cells {bl bw bt bh bd bx bn : Int} {CI CJ CW : Int → Int} (h : bOK bl bw bt bh bd bx bn CI CJ CW) : 1 ≤ (bl - 2 * bh) * (bw - 2 * bh) ∧ (bl - 2 * bh) * (bw - 2 * bh) ≤ 324 := by
  obtain ⟨h1, h2, h3, h4, h5, h6, -⟩ := h
  exact ⟨mul_pos1 h5 h6, (mul_bd (A := 18) (B := 18) (by omega) (by omega) (by omega) (by omega)).2⟩
theorem bOK_lwt {bl bw bt bh bd bx bn : Int} {CI CJ CW : Int → Int} (h : bOK bl bw bt bh bd bx bn CI CJ CW) : 9 ≤ bl * bw * bt ∧ bl * bw * bt ≤ 3600 := by
  obtain ⟨h1, h2, h3, -⟩ := h
  have a1 := mul_bd (a := bl) (b := bw) (A := 20) (B := 20) (by omega) (by omega) (by omega) (by omega)
  have a0 : 9 ≤ bl * bw := by
    have := Int.mul_le_mul h1.1 h2.1 (by omega) (by omega : (0 : Int) ≤ bl)
    omega
  have a2 := mul_bd (a := bl * bw) (b := bt) (A := 400) (B := 9) (by omega) (by omega) (by omega) (by omega)
  have a3 : bl * bw * 1 ≤ bl * bw * bt := Int.mul_le_mul_of_nonneg_left h3.1 (by omega)
  omega
theorem bOK_w {bl bw bt bh bd bx bn : Int} {CI CJ CW : Int → Int} (h : bOK bl bw bt bh bd bx bn CI CJ CW) : 0 ≤ sgI (wOf bn CW) bn ∧ sgI (wOf bn CW) bn ≤ 792 := by
  obtain ⟨h1, h2, h3, h4, h5, h6, h7, h8, h9, hc⟩ := h
  have key : ∀ n : Nat, (n : Int) ≤ bn → 0 ≤ sg (wOf bn CW) n ∧ sg (wOf bn CW) n ≤ n * 99 := by
    intro n
    induction n with
    | zero => intro _; exact ⟨Int.le_refl 0, Int.le_refl 0⟩
    | succ n ih =>
      intro hn
      have i1 := ih (by omega)
      have i2 := hc (n : Int) (by omega) (by omega)
      have e : wOf bn CW (n : Int) = CW n := if_pos (by omega)
      show 0 ≤ sg (wOf bn CW) n + wOf bn CW n ∧ sg (wOf bn CW) n + wOf bn CW n ≤ _
      rw [e]
      omega
  have := key bn.toNat (by omega)
  show 0 ≤ sg (wOf bn CW) bn.toNat ∧ sg (wOf bn CW) bn.toNat ≤ 792
  omega
theorem mom_bd {bn a : Int} {C CW : Int → Int} (h0 : 0 ≤ bn ∧ bn ≤ 8) (ha : 1 ≤ a ∧ a ≤ 18) (hc : ∀ c : Int, 0 ≤ c → c < bn → (0 ≤ C c ∧ C c < a) ∧ 1 ≤ CW c ∧ CW c ≤ 99) : -15048 ≤ momV bn a C CW ∧ momV bn a C CW ≤ 15048 := by
  have h := sgI_bd (f := pullV bn a C CW) (c := 1881) (n := bn) (by omega) h0.1 (fun k k0 k1 => by
    have hk := hc k k0 k1
    rw [show pullV bn a C CW k = CW k * (2 * C k + 1 - a) from if_pos ⟨k0, k1⟩]
    have := abs_mul_bd (a := CW k) (b := 2 * C k + 1 - a) (A := 99) (B := 19) (by omega) (by omega) (by omega) (by omega) (by omega)
    omega)
  show -15048 ≤ sgI (pullV bn a C CW) bn ∧ sgI (pullV bn a C CW) bn ≤ 15048
  omega
theorem bOK_m {bl bw bt bh bd bx bn : Int} {CI CJ CW : Int → Int} (h : bOK bl bw bt bh bd bx bn CI CJ CW) : -15048 ≤ momV bn (bl - 2 * bh) CI CW ∧ momV bn (bl - 2 * bh) CI CW ≤ 15048 := by
  obtain ⟨h1, h2, h3, h4, h5, h6, h7, h8, h9, hc⟩ := h
  exact mom_bd h9 (by omega) (fun c c0 c1 => ⟨(hc c c0 c1).1, (hc c c0 c1).2.2⟩)
theorem bOK_n {bl bw bt bh bd bx bn : Int} {CI CJ CW : Int → Int} (h : bOK bl bw bt bh bd bx bn CI CJ CW) : -15048 ≤ momV bn (bw - 2 * bh) CJ CW ∧ momV bn (bw - 2 * bh) CJ CW ≤ 15048 := by
  obtain ⟨h1, h2, h3, h4, h5, h6, h7, h8, h9, hc⟩ := h
  exact mom_bd h9 (by omega) (fun c c0 c1 => ⟨(hc c c0 c1).2.1, (hc c c0 c1).2.2⟩)
def leftV (bl bw bt bh bd bn : Int) (CI CJ CW : Int → Int) : Int := roomV (bl - 2 * bh) (bw - 2 * bh) bh (corAt bl bw bt bh bd bn CI CJ CW 0)
def lifeV (bl bw bt bh bd bx bn : Int) (CI CJ CW : Int → Int) : Int := if leftV bl bw bt bh bd bn CI CJ CW < 0 then -9 else if bd * ((bl - 2 * bh) * (bw - 2 * bh)) < 1 then 10 * bt + 5 * bx else min (10 * bt + 5 * bx) (leftV bl bw bt bh bd bn CI CJ CW / (bd * ((bl - 2 * bh) * (bw - 2 * bh))))
def lwaxV (bt s : Int) : Int := if s ≤ 10 * bt then 0 else if s ≤ 10 * bt + 45 then (s - 10 * bt + 4) / 5 else -9
def loadV (bl bw bt rm wt : Int) : Int := if 100 * ((bl - 2 * rm) * (bw - 2 * rm)) * rm - bl * bw * bt < 0 ∨ wt < 1 then 0 else (100 * ((bl - 2 * rm) * (bw - 2 * rm)) * rm - bl * bw * bt) / wt
def rimF (g : Int → Int) : Nat → Int
  | 0 => 1
  | n + 1 => if g (rimF g n) < g ((n : Int) + 2) then (n : Int) + 2 else rimF g n
def rimV (g : Int → Int) (bl bw : Int) : Int := rimF g ((min bl bw - 1) / 2 - 1).toNat
theorem rimF_bd (g : Int → Int) : ∀ n : Nat, 1 ≤ rimF g n ∧ rimF g n ≤ (n : Int) + 1
  | 0 => by simp [rimF]
  | n + 1 => by
    have h := rimF_bd g n
    unfold rimF
    split <;> omega
theorem rimF_s (g : Int → Int) {k : Int} (h : 2 ≤ k) : rimF g (k + 1 - 2).toNat = if g (rimF g (k - 2).toNat) < g k then k else rimF g (k - 2).toNat := by
  obtain ⟨n, rfl⟩ : ∃ n : Nat, k = (n : Int) + 2 := ⟨(k - 2).toNat, by omega⟩
  rw [show ((n : Int) + 2 + 1 - 2).toNat = n + 1 by omega, show ((n : Int) + 2 - 2).toNat = n by omega]
  rfl
theorem load_bd {bl bw bt rm : Int} (h1 : 1 ≤ bl ∧ bl ≤ 20) (h2 : 1 ≤ bw ∧ bw ≤ 20) (h3 : 1 ≤ bt ∧ bt ≤ 9) (h : 1 ≤ rm ∧ rm ≤ 9 ∧ 1 ≤ bl - 2 * rm ∧ 1 ≤ bw - 2 * rm) : -3600 ≤ 100 * ((bl - 2 * rm) * (bw - 2 * rm)) * rm - bl * bw * bt ∧ 100 * ((bl - 2 * rm) * (bw - 2 * rm)) * rm - bl * bw * bt ≤ 300000 := by
  have a1 := mul_bd (a := bl - 2 * rm) (b := bw - 2 * rm) (A := 18) (B := 18) (by omega) (by omega) (by omega) (by omega)
  have a2 := mul_bd (a := 100 * ((bl - 2 * rm) * (bw - 2 * rm))) (b := rm) (A := 32400) (B := 9) (by omega) (by omega) (by omega) (by omega)
  have a3 := mul_bd (a := bl) (b := bw) (A := 20) (B := 20) (by omega) (by omega) (by omega) (by omega)
  have a4 := mul_bd (a := bl * bw) (b := bt) (A := 400) (B := 9) (by omega) (by omega) (by omega) (by omega)
  omega
theorem cor_bd {a b wt m n : Int} (ha : 1 ≤ a ∧ a ≤ 18) (hb : 1 ≤ b ∧ b ≤ 18) (hw : 0 ≤ wt ∧ wt ≤ 200000) (hm : -20000 ≤ m ∧ m ≤ 20000) (hn : -20000 ≤ n ∧ n ≤ 20000) : 0 ≤ corV a b wt m n ∧ corV a b wt m n ≤ 70000000 := by
  have a1 := mul_bd (a := a) (b := b) (A := 18) (B := 18) (by omega) (by omega) (by omega) (by omega)
  have a2 := mul_bd (a := wt) (b := a * b) (A := 200000) (B := 324) (by omega) (by omega) (by omega) (by omega)
  have a3 := mul_bd (a := 3 * max m (-m)) (b := b) (A := 60000) (B := 18) (by omega) (by omega) (by omega) (by omega)
  have a4 := mul_bd (a := 3 * max n (-n)) (b := a) (A := 60000) (B := 18) (by omega) (by omega) (by omega) (by omega)
  show 0 ≤ wt * (a * b) + 3 * max m (-m) * b + 3 * max n (-n) * a ∧ wt * (a * b) + 3 * max m (-m) * b + 3 * max n (-n) * a ≤ 70000000
  omega
theorem unit_bd {a b : Int} (ha : 1 ≤ a ∧ a ≤ 18) (hb : 1 ≤ b ∧ b ≤ 18) : 100 ≤ unitV a b ∧ unitV a b ≤ 10497600 := by
  have a0 := mul_pos1 ha.1 hb.1
  have a1 := mul_bd (a := a) (b := b) (A := 18) (B := 18) (by omega) (by omega) (by omega) (by omega)
  have a2 := mul_bd (a := 100 * (a * b)) (b := a * b) (A := 32400) (B := 324) (by omega) (by omega) (by omega) (by omega)
  have a3 : 100 * (a * b) * 1 ≤ 100 * (a * b) * (a * b) := Int.mul_le_mul_of_nonneg_left a0 (by omega)
  show 100 ≤ 100 * (a * b) * (a * b) ∧ 100 * (a * b) * (a * b) ≤ 10497600
  omega
theorem wAt_bd {bl bw bt bh bd bx bn : Int} {CI CJ CW : Int → Int} (h : bOK bl bw bt bh bd bx bn CI CJ CW) {s : Int} (hs : 0 ≤ s ∧ s ≤ 999) : 0 ≤ wAt bl bw bt bd bn CW s ∧ wAt bl bw bt bd bn CW s ≤ 104000 := by
  have b1 := bOK_lwt h
  have b2 := bOK_w h
  obtain ⟨h1, h2, h3, h4, h5, h6, h7, -⟩ := h
  have b3 := mul_bd (a := s) (b := bd) (A := 999) (B := 99) (by omega) (by omega) (by omega) (by omega)
  show 0 ≤ bl * bw * bt + s * bd + sgI (wOf bn CW) bn ∧ bl * bw * bt + s * bd + sgI (wOf bn CW) bn ≤ 104000
  omega
theorem corAt_bd {bl bw bt bh bd bx bn : Int} {CI CJ CW : Int → Int} (h : bOK bl bw bt bh bd bx bn CI CJ CW) {s : Int} (hs : 0 ≤ s ∧ s ≤ 999) : 0 ≤ corAt bl bw bt bh bd bn CI CJ CW s ∧ corAt bl bw bt bh bd bn CI CJ CW s ≤ 70000000 := by
  have b1 := wAt_bd h hs
  have b2 := bOK_m h
  have b3 := bOK_n h
  obtain ⟨h1, h2, h3, h4, h5, h6, -⟩ := h
  exact cor_bd (by omega) (by omega) (by omega) (by omega) (by omega)
theorem room_bd {a b bh c : Int} (ha : 1 ≤ a ∧ a ≤ 18) (hb : 1 ≤ b ∧ b ≤ 18) (hh : 1 ≤ bh ∧ bh ≤ 9) (hc : 0 ≤ c ∧ c ≤ 70000000) : -70000000 ≤ roomV a b bh c ∧ roomV a b bh c ≤ 100000000 := by
  have u := unit_bd ha hb
  have a1 := mul_bd (a := bh) (b := unitV a b) (A := 9) (B := 10497600) (by omega) (by omega) (by omega) (by omega)
  show -70000000 ≤ bh * unitV a b - c ∧ bh * unitV a b - c ≤ 100000000
  omega
theorem load_bd2 {bl bw bt rm wt : Int} (h1 : 1 ≤ bl ∧ bl ≤ 20) (h2 : 1 ≤ bw ∧ bw ≤ 20) (h3 : 1 ≤ bt ∧ bt ≤ 9) (h : 1 ≤ rm ∧ rm ≤ 9 ∧ 1 ≤ bl - 2 * rm ∧ 1 ≤ bw - 2 * rm) (hw : 1 ≤ wt ∧ wt ≤ 99) : 0 ≤ loadV bl bw bt rm wt ∧ loadV bl bw bt rm wt ≤ 300000 := by
  have b1 := load_bd h1 h2 h3 h
  unfold loadV
  split
  · omega
  · have b6 := Int.ediv_nonneg (a := 100 * ((bl - 2 * rm) * (bw - 2 * rm)) * rm - bl * bw * bt) (b := wt) (by omega) (by omega)
    have b7 := Int.ediv_le_self (a := 100 * ((bl - 2 * rm) * (bw - 2 * rm)) * rm - bl * bw * bt) wt (by omega)
    omega
