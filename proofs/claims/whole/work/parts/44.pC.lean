theorem visA_r {ν : Me} {b j : Nat} {rg : Bool} : (mVisA ν b j rg).2 147 = ν 147 ∧ (mVisA ν b j rg).2 136 20 = ν 136 20 + 1 ∧ (mVisA ν b j rg).2 136 21 = ν 136 21 ∧ (mVisA ν b j rg).2 137 (b + j) = 2 ∧ ∀ c, c ≠ b + j → (mVisA ν b j rg).2 137 c = ν 137 c := by
  unfold mVisA
  dsimp only
  refine ⟨?_, ?_, ?_, ?_, fun c hc => ?_⟩
  · rw [mu_ne (by decide), mu_ne (by decide)]
  · rw [mu_same]
  · rw [mu_nj (by decide), mu_ne (by decide)]
  · rw [mu_ne (by decide), mu_same]
  · rw [mu_ne (by decide), mu_nj hc]
theorem visB_r {ν : Me} {b j : Nat} {rg nb : Bool} (hj : j < 7) : (mVisB ν b j rg nb).2 147 = ν 147 ∧ (mVisB ν b j rg nb).2 136 20 = ν 136 20 ∧ (mVisB ν b j rg nb).2 136 21 = ν 136 21 ||| (b2i (!nb) <<< (nI j &&& 31)) ∧ (mVisB ν b j rg nb).2 137 (b + j) = (if nb then 3 else 4) ∧ (mVisB ν b j rg nb).2 137 (b + 7 + j) = ν 137 (b + 7 + j) + b2i nb ∧ (mVisB ν b j rg nb).2 137 (b + 16) = ν 137 (b + 16) + b2i (!nb) ∧ ∀ c, c ≠ b + j → c ≠ b + 7 + j → c ≠ b + 16 → (mVisB ν b j rg nb).2 137 c = ν 137 c := by
  unfold mVisB
  dsimp only
  refine ⟨?_, ?_, ?_, ?_, ?_, ?_, fun c h1 h2 h3 => ?_⟩
  · rw [mu_ne (by decide), mu_ne (by decide), mu_ne (by decide), mu_ne (by decide)]
  · rw [mu_ne (by decide), mu_nj (by decide), mu_ne (by decide), mu_ne (by decide)]
  · rw [mu_ne (by decide), mu_same, mu_ne (by decide), mu_ne (by decide)]
  · rw [mu_nj (by omega), mu_ne (by decide), mu_nj (by omega), mu_same]
  · rw [mu_nj (by omega), mu_ne (by decide), mu_same, mu_nj (by omega)]
  · rw [mu_same, mu_ne (by decide), mu_nj (by omega), mu_nj (by omega)]
  · rw [mu_nj h3, mu_ne (by decide), mu_nj h2, mu_nj h1]
theorem cM_r {μ : Me} {j : Nat} {T Y : Int32} : cM μ j T Y 27 j = T ∧ (∀ s, s ≠ j → cM μ j T Y 27 s = μ 27 s) ∧ cM μ j T Y 23 6 = T ∧ cM μ j T Y 23 7 = Y ∧ (∀ i, i ≠ 6 → i ≠ 7 → cM μ j T Y 23 i = μ 23 i) ∧ ∀ a, a ≠ 23 → a ≠ 27 → cM μ j T Y a = μ a := by
  unfold cM
  refine ⟨mu_same _ _ _ _, fun s hs => ?_, ?_, ?_, fun i h1 h2 => ?_, fun a h1 h2 => ?_⟩
  · rw [mu_nj hs, mu_ne (by decide), mu_ne (by decide)]
  · rw [mu_ne (by decide), mu_nj (by decide), mu_same]
  · rw [mu_ne (by decide), mu_same]
  · rw [mu_ne (by decide), mu_nj h2, mu_nj h1]
  · rw [mu_ne h2, mu_ne h1, mu_ne h1]
theorem cB_r {μ : Me} {j : Nat} {T Y U W K : Int32} : cB μ j T Y U W K 25 j = K ∧ (∀ s, s ≠ j → cB μ j T Y U W K 25 s = μ 25 s) ∧ cB μ j T Y U W K 23 6 = U ∧ cB μ j T Y U W K 23 5 = W ∧ cB μ j T Y U W K 23 7 = Y ∧ (∀ i, i < 5 → cB μ j T Y U W K 23 i = μ 23 i) ∧ cB μ j T Y U W K 27 = cM μ j T Y 27 ∧ ∀ a, a ≠ 23 → a ≠ 25 → a ≠ 27 → cB μ j T Y U W K a = μ a := by
  unfold cB
  refine ⟨mu_same _ _ _ _, fun s hs => ?_, ?_, ?_, ?_, fun i hi => ?_, ?_, fun a h1 h2 h3 => ?_⟩
  · rw [mu_nj hs, mu_ne (by decide), mu_ne (by decide), cM_r.2.2.2.2.2 25 (by decide) (by decide)]
  · rw [mu_ne (by decide), mu_same]
  · rw [mu_ne (by decide), mu_nj (by decide), mu_same]
  · rw [mu_ne (by decide), mu_nj (by decide), mu_nj (by decide), cM_r.2.2.2.1]
  · rw [mu_ne (by decide), mu_nj (by omega), mu_nj (by omega), cM_r.2.2.2.2.1 i (by omega) (by omega)]
  · rw [mu_ne (by decide), mu_ne (by decide), mu_ne (by decide)]
  · rw [mu_ne h2, mu_ne h1, mu_ne h1, cM_r.2.2.2.2.2 a h1 h3]
