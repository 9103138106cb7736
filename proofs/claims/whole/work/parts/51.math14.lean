theorem gf_congr {T T' : Int → Int} {tn : Int} (h : ∀ j : Int, 0 ≤ j → j < tn → T j = T' j) : ∀ (n : Nat) (k ln pl : Int) (G : Int → Int), 0 ≤ k → k + n ≤ tn → gf T n k ln pl G = gf T' n k ln pl G
  | 0, k, ln, pl, G, _, _ => rfl
  | n + 1, k, ln, pl, G, h0, h1 => by
    unfold gf
    rw [h k h0 (by omega), gf_congr h n (k + 1) (ln + 1) 0 G (by omega) (by omega), gf_congr h n (k + 1) ln (pl + 1) _ (by omega) (by omega)]
def agA (ln pl wd : Int) (G G' : Int → Int) : Prop := ∀ a b : Int, 0 ≤ a → 0 ≤ b → ((a < ln ∧ b < wd) ∨ (a = ln ∧ b < pl)) → G (12 * a + b) = G' (12 * a + b) ∧ 1 ≤ G (12 * a + b) ∧ G (12 * a + b) ≤ 12
theorem gf_agree {T : Int → Int} : ∀ (n : Nat) (k ln pl wd : Int) (G G' : Int → Int), 0 ≤ k → fl T n k ln pl wd = -9 → (0 ≤ ln ∧ ln ≤ 2) → (0 ≤ pl ∧ pl ≤ wd) → (1 ≤ wd ∧ wd ≤ 12) → agA ln pl wd G G' →
    ∃ (l2 p2 : Int) (R R' : Int → Int), gf T n k ln pl G = (l2, p2, R) ∧ gf T n k ln pl G' = (l2, p2, R') ∧ (0 ≤ l2 ∧ l2 ≤ 2) ∧ (1 ≤ p2 ∧ p2 ≤ 12) ∧ ∀ a b : Int, 0 ≤ a → a ≤ l2 → 0 ≤ b → b < p2 → R (12 * a + b) = R' (12 * a + b) ∧ 1 ≤ R (12 * a + b) ∧ R (12 * a + b) ≤ 12
  | 0, k, ln, pl, wd, G, G', hk, hf, hl, hp, hw, hA => by
    have w : whP ln pl wd := by
      by_cases c : whP ln pl wd
      · exact c
      · unfold fl at hf
        rw [if_neg c] at hf
        omega
    refine ⟨ln, pl, G, G', rfl, rfl, hl, ?_, fun a b a0 a1 b0 b1 => hA a b a0 b0 ?_⟩
    · unfold whP at w
      omega
    · unfold whP at w
      omega
  | n + 1, k, ln, pl, wd, G, G', hk, hf, hl, hp, hw, hA => by
    unfold fl at hf
    unfold gf
    by_cases c : T k = 47
    · rw [if_pos c] at hf
      rw [if_pos c, if_pos c]
      by_cases d : ln = 2 ∨ ¬ whP ln pl wd
      · rw [if_pos d] at hf
        omega
      · rw [if_neg d] at hf
        have w : whP ln pl wd := Classical.byContradiction (fun q => d (Or.inr q))
        have l2 : ln ≠ 2 := fun q => d (Or.inl q)
        have p1 : 1 ≤ pl := by
          unfold whP at w
          omega
        exact gf_agree n (k + 1) (ln + 1) 0 pl G G' (by omega) hf (by omega) (by omega) (by omega) (fun a b a0 b0 q => hA a b a0 b0 (by omega))
    · rw [if_neg c] at hf
      rw [if_neg c, if_neg c]
      by_cases d : pl = wd ∨ kindV (T k) = 0
      · rw [if_pos d] at hf
        omega
      · rw [if_neg d] at hf
        have b := kindV_bd (T k)
        refine gf_agree n (k + 1) ln (pl + 1) wd _ _ (by omega) hf hl (by omega) hw (fun a b2 a0 b0 q => ?_)
        by_cases e : a = ln ∧ b2 = pl
        · rw [iu_e (by omega), iu_e (by omega)]
          exact ⟨rfl, by omega, by omega⟩
        · rw [iu_n (by omega), iu_n (by omega)]
          exact hA a b2 a0 b0 (by omega)
theorem gut_agree {T : Int → Int} {tn : Int} (h : faultV tn T = -9) (G G' : Int → Int) : ∃ (l2 p2 : Int) (R R' : Int → Int), gf T tn.toNat 0 0 0 G = (l2, p2, R) ∧ gf T tn.toNat 0 0 0 G' = (l2, p2, R') ∧ (0 ≤ l2 ∧ l2 ≤ 2) ∧ (1 ≤ p2 ∧ p2 ≤ 12) ∧ ∀ a b : Int, 0 ≤ a → a ≤ l2 → 0 ≤ b → b < p2 → R (12 * a + b) = R' (12 * a + b) ∧ 1 ≤ R (12 * a + b) ∧ R (12 * a + b) ≤ 12 :=
  gf_agree tn.toNat 0 0 0 12 G G' (by omega) h (by omega) (by omega) (by omega) (fun a b a0 b0 q => by omega)
