def dR (n : Nat) (μ : Me) (a : Nat) (ν : Me) (b : Nat) : Prop := (0 < n → ∀ s, s < 7 → μ (a + 1) s = ν 137 (b + s) ∧ μ (a + 2) s = ν 137 (b + 7 + s)) ∧ μ a 2 = ν 137 (b + 14) ∧ μ a 3 = ν 137 (b + 15) ∧ μ a 4 = ν 137 (b + 16)
theorem sThere_at {μ : Me} : ∀ m s, s < m → sThere μ m 27 s = -1 := by
  intro m
  induction m with
  | zero => intro s hs; exact absurd hs (Nat.not_lt_zero _)
  | succ m ih =>
    intro s hs
    rw [sThere]
    by_cases e : s = m
    · subst e; exact mu_same _ _ _ _
    · rw [mu_nj e]; exact ih s (by omega)
theorem fill_at {ν : Me} : ∀ m s, s < m → mFill ν m 147 s = -1 := by
  intro m
  induction m with
  | zero => intro s hs; exact absurd hs (Nat.not_lt_zero _)
  | succ m ih =>
    intro s hs
    rw [mFill]
    by_cases e : s = m
    · subst e; exact mu_same _ _ _ _
    · rw [mu_nj e]; exact ih s (by omega)
theorem sCopy_r {μ : Me} {a b : Nat} (h : b + 2 < a ∨ a + 2 < b) : (∀ s, s < 7 → sCopy μ a b (a + 1) s = μ (b + 1) s ∧ sCopy μ a b (a + 2) s = μ (b + 2) s) ∧ sCopy μ a b a 2 = μ b 2 ∧ sCopy μ a b a 3 = μ b 3 ∧ sCopy μ a b a 4 = μ b 4 := by
  unfold sCopy
  refine ⟨fun s hs => ⟨?_, ?_⟩, ?_, ?_, ?_⟩
  · rw [mu_ne (by omega), mu_ne (by omega), mu_ne (by omega), mr_ne (by omega), mr_same, pk_cpy_in (by omega) (by omega)]
    congr 1
    omega
  · rw [mu_ne (by omega), mu_ne (by omega), mu_ne (by omega), mr_same, mr_ne (by omega), pk_cpy_in (by omega) (by omega)]
    congr 1
    omega
  · rw [mu_nj (by decide), mu_nj (by decide), mu_same, mr_ne (by omega), mr_ne (by omega)]
  · rw [mu_nj (by decide), mu_same, mu_ne (by omega), mr_ne (by omega), mr_ne (by omega)]
  · rw [mu_same, mu_ne (by omega), mu_ne (by omega), mr_ne (by omega), mr_ne (by omega)]
