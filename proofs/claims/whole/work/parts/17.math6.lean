theorem iu_one {F G : Int → Int} {v : Int} (h : v = G 0) : ∀ t : Int, 0 ≤ t → t < 1 * 2 ^ (0 : Int).toNat → iu F 0 v t = G t := by
  intro t h0 h1
  have e : (1 : Int) * 2 ^ (0 : Int).toNat = 1 := rfl
  rw [e] at h1
  rw [show t = 0 by omega, iu_s, h]
theorem bit_lt {j : Int} {k : Nat} (h0 : 0 ≤ j) (h1 : j < 1 * 2 ^ k) : j / 2 ^ k % 2 = 0 := by
  rw [Int.ediv_eq_zero_of_lt h0 (by omega)]
  rfl
theorem bor_sum {j : Int} {k : Nat} (h0 : 0 ≤ j) (h1 : j < 1 * 2 ^ k) : bor (1 * 2 ^ k) j = 1 * 2 ^ k + j := by
  rw [bor_comm, bor_add h0 (by omega)]
  omega
theorem iu_set {F G : Int → Int} {j v : Int} {k : Nat} (hj : 0 ≤ j) (hj1 : j < 1 * 2 ^ k) (h : ∀ t : Int, 0 ≤ t → t < 1 * 2 ^ k + j → F t = G t) (hv : v = G (bor j (1 * 2 ^ k))) : ∀ t : Int, 0 ≤ t → t < 1 * 2 ^ k + (j + 1) → iu F (bor (1 * 2 ^ k) j) v t = G t := by
  intro t t0 t1
  rw [bor_sum hj hj1]
  by_cases e : t = 1 * 2 ^ k + j
  · rw [iu_e e, hv, bor_comm, bor_sum hj hj1, e]
  · rw [iu_n e]
    exact h t t0 (by omega)
theorem pow_dbl {k : Int} (h : 0 ≤ k) : (1 : Int) * 2 ^ (k + 1).toNat = 1 * 2 ^ k.toNat + 1 * 2 ^ k.toNat := by
  rw [show (k + 1).toNat = k.toNat + 1 by omega, Int.pow_succ]
  omega
theorem pow7 {k : Int} (h : 0 ≤ k ∧ k ≤ 7) : 1 ≤ (1 : Int) * 2 ^ k.toNat ∧ (1 : Int) * 2 ^ k.toNat ≤ 128 := by
  have h1 := two_pos k.toNat
  have h2 := two_le (show k.toNat ≤ 7 by omega)
  have h3 : (2 : Int) ^ 7 = 128 := by decide
  omega
theorem pow8 {k : Int} (h : 0 ≤ k ∧ k ≤ 8) : 1 ≤ (1 : Int) * 2 ^ k.toNat ∧ (1 : Int) * 2 ^ k.toNat ≤ 256 := by
  have h1 := two_pos k.toNat
  have h2 := two_le (show k.toNat ≤ 8 by omega)
  have h3 : (2 : Int) ^ 8 = 256 := by decide
  omega
theorem bOK_set {bl bw bt bh bd bx bn : Int} {CI CJ CW : Int → Int} (h : bOK bl bw bt bh bd bx bn CI CJ CW) (t : Int) : (0 ≤ bs CW bn t ∧ bs CW bn t ≤ 792) ∧ (-15048 ≤ bs (pullC (bl - 2 * bh) CI CW) bn t ∧ bs (pullC (bl - 2 * bh) CI CW) bn t ≤ 15048) ∧ (-15048 ≤ bs (pullC (bw - 2 * bh) CJ CW) bn t ∧ bs (pullC (bw - 2 * bh) CJ CW) bn t ≤ 15048) := by
  obtain ⟨h1, h2, h3, h4, h5, h6, h7, h8, h9, hc⟩ := h
  have a1 := bs_bd (f := CW) (n := bn) (t := t) (B := 99) (by omega) h9.1 (fun c c0 c1 => by have := (hc c c0 c1).2.2; omega)
  have a2 := bs_nn (f := CW) (n := bn) (t := t) (fun c c0 c1 => by have := (hc c c0 c1).2.2; omega)
  have a3 := bs_bd (f := pullC (bl - 2 * bh) CI CW) (n := bn) (t := t) (B := 1881) (by omega) h9.1 (fun c c0 c1 => by
    have q := hc c c0 c1
    have := abs_mul_bd (a := CW c) (b := 2 * CI c + 1 - (bl - 2 * bh)) (A := 99) (B := 19) (by omega) (by omega) (by omega) (by omega) (by omega)
    show -1881 ≤ CW c * (2 * CI c + 1 - (bl - 2 * bh)) ∧ CW c * (2 * CI c + 1 - (bl - 2 * bh)) ≤ 1881
    omega)
  have a4 := bs_bd (f := pullC (bw - 2 * bh) CJ CW) (n := bn) (t := t) (B := 1881) (by omega) h9.1 (fun c c0 c1 => by
    have q := hc c c0 c1
    have := abs_mul_bd (a := CW c) (b := 2 * CJ c + 1 - (bw - 2 * bh)) (A := 99) (B := 19) (by omega) (by omega) (by omega) (by omega) (by omega)
    show -1881 ≤ CW c * (2 * CJ c + 1 - (bw - 2 * bh)) ∧ CW c * (2 * CJ c + 1 - (bw - 2 * bh)) ≤ 1881
    omega)
  omega
theorem okB_f {bl bw bt bh bn : Int} {CI CJ CW : Int → Int} {t : Int} (h : roomV (bl - 2 * bh) (bw - 2 * bh) bh (corV (bl - 2 * bh) (bw - 2 * bh) (bl * bw * bt + bs CW bn t) (bs (pullC (bl - 2 * bh) CI CW) bn t) (bs (pullC (bw - 2 * bh) CJ CW) bn t)) < 0) : okB bl bw bt bh bn CI CJ CW t = false := decide_eq_false (fun q => q h)
theorem okB_t {bl bw bt bh bn : Int} {CI CJ CW : Int → Int} {t : Int} (h : ¬ roomV (bl - 2 * bh) (bw - 2 * bh) bh (corV (bl - 2 * bh) (bw - 2 * bh) (bl * bw * bt + bs CW bn t) (bs (pullC (bl - 2 * bh) CI CW) bn t) (bs (pullC (bw - 2 * bh) CJ CW) bn t)) < 0) : ¬ okB bl bw bt bh bn CI CJ CW t = false := by
  intro q
  exact (of_decide_eq_false q) h
theorem nx_at (ok : Int → Bool) {n : Int} (hn : 0 ≤ n ∧ n ≤ 8) (hw : 0 < wV ok n 0) {i : Int} (h0 : 0 ≤ i) (h1 : i < n) : (0 ≤ setF ok n i.toNat ∧ setF ok n i.toNat < 2 ^ n.toNat - 1) ∧ (0 ≤ nxV ok n (setF ok n i.toNat) ∧ nxV ok n (setF ok n i.toNat) < n) ∧ setF ok n i.toNat / 2 ^ (nxV ok n (setF ok n i.toNat)).toNat % 2 = 0 ∧ 0 < wV ok n (bor (setF ok n i.toNat) (1 * 2 ^ (nxV ok n (setF ok n i.toNat)).toNat)) ∧ ∀ d : Int, 0 ≤ d → d < nxV ok n (setF ok n i.toNat) → ¬ (setF ok n i.toNat / 2 ^ d.toNat % 2 = 0 ∧ 0 < wV ok n (bor (setF ok n i.toNat) (1 * 2 ^ d.toNat))) := by
  obtain ⟨a1, a2, a3, a4⟩ := setF_ok ok hn hw i.toNat (by omega)
  obtain ⟨b1, b2, b3, b4⟩ := setF_ok ok hn hw (i.toNat + 1) (by omega)
  have lt : setF ok n i.toNat < 2 ^ n.toNat - 1 := by
    by_cases e : setF ok n i.toNat = 2 ^ n.toNat - 1
    · have h2 : ∀ c : Int, 0 ≤ c → c < n → setF ok n i.toNat / 2 ^ c.toNat % 2 * (fun _ => (1 : Int)) c = (fun _ => (1 : Int)) c := fun c c0 c1 => by
        rw [full_bit hn.1 a1 e c0 c1]
        rfl
      have h3 : bs (fun _ => 1) n (setF ok n i.toNat) = sgI (fun _ => 1) n := sgI_congr h2
      have h4 : ∀ m : Nat, sg (fun _ => 1) m = m := by
        intro m
        induction m with
        | zero => rfl
        | succ m ih => show sg (fun _ => 1) m + 1 = _; rw [ih]; omega
      have h5 : sgI (fun _ => 1) n = n := by show sg _ n.toNat = n; rw [h4]; omega
      omega
    · omega
  obtain ⟨c1, c2, c3, c4, c5⟩ := nxV_ok ok hn a1 lt a3
  exact ⟨⟨a1, lt⟩, ⟨c1, c2⟩, c3, c4, c5⟩
theorem iu_down {F G : Int → Int} {k v u : Int} (h : ∀ t : Int, k < t → t ≤ u → F t = G t) (hv : v = G k) : ∀ t : Int, k + (-1) < t → t ≤ u → iu F k v t = G t := by
  intro t t0 t1
  by_cases e : t = k
  · rw [iu_e e, e, hv]
  · rw [iu_n e]; exact h t (by omega) t1
