theorem divN_w {w : Nat} (hw : w < 2147483648) : ∀ t, sDivN (nI w) t = nI (w / 10 ^ t) := by
  intro t
  induction t with
  | zero => rw [Nat.pow_zero, Nat.div_one]; rfl
  | succ t ih =>
    rw [sDivN, ih, Nat.pow_succ, ← Nat.div_div_eq_div_mul]
    exact pk_div (d := 10) (Nat.lt_of_le_of_lt (Nat.div_le_self _ _) hw) (by decide) (by decide)
theorem ten9 {t : Nat} (h : t ≤ 9) : 0 < 10 ^ t ∧ 10 ^ t < 2147483648 := by
  rcases (show t = 0 ∨ t = 1 ∨ t = 2 ∨ t = 3 ∨ t = 4 ∨ t = 5 ∨ t = 6 ∨ t = 7 ∨ t = 8 ∨ t = 9 by omega) with rfl | rfl | rfl | rfl | rfl | rfl | rfl | rfl | rfl | rfl <;> decide
theorem fig_div {w t : Nat} (hw : w < 2147483648) (ht : t ≤ 9) : sFig (nI w) t = sDivN (nI w) t - sDivN (nI w) t / 10 * 10 - 1 := by
  have h := ten9 ht
  unfold sFig
  rw [divN_w hw, pk_div hw h.1 h.2]
theorem fe_dg {w : Nat} (hw : w < 2147483648) : ∀ k i, i + k = 9 → 0 < w / 10 ^ i → sFE (nI w) k i + 1 = i + dg (k + 1) (nI (w / 10 ^ i)) := by
  intro k
  induction k with
  | zero =>
    intro i hi h0
    have h1 : w / 10 ^ i < 2147483648 := Nat.lt_of_le_of_lt (Nat.div_le_self _ _) hw
    rw [sFE, dg, if_neg (nI_nle h0 h1)]
    rfl
  | succ k ih =>
    intro i hi h0
    have h := ten9 (t := i) (by omega)
    have h1 : w / 10 ^ i < 2147483648 := Nat.lt_of_le_of_lt (Nat.div_le_self _ _) hw
    have e1 : (nI (w / 10 ^ i) : Int32) / 10 = nI (w / 10 ^ i / 10) := pk_div (d := 10) h1 (by decide) (by decide)
    rw [sFE, pk_div hw h.1 h.2, dg, if_neg (nI_nle h0 h1), e1]
    by_cases hc : w / 10 ^ i < 10
    · rw [if_pos (show (nI (w / 10 ^ i) : Int32) < 10 from nI_lt (b := 10) hc (by decide)), Nat.div_eq_of_lt hc, dg, if_pos (show (nI 0 : Int32) ≤ 0 by decide)]
    · rw [if_neg (show ¬ (nI (w / 10 ^ i) : Int32) < 10 from nI_nlt (b := 10) (by omega) h1)]
      have e2 : w / 10 ^ i / 10 = w / 10 ^ (i + 1) := by rw [Nat.div_div_eq_div_mul, Nat.pow_succ]
      have e3 := ih (i + 1) (by omega) (by rw [← e2]; omega)
      rw [e2]
      omega
theorem bit_or : ∀ m, m < 128 → ∀ j, j < 7 → ∀ i, i < 7 → sBit (nI m ||| ((1 : Int32) <<< (nI j &&& 31))) (nI i) = (sBit (nI m) (nI i) || decide (i = j)) := by decide +kernel
