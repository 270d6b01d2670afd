theorem tk1_r {ν : Me} : ∀ i, i ≤ 3 → (∀ k, k < i → mTk1 ν i 139 k = ν 139 (3 + k)) ∧ (∀ k, i ≤ k → mTk1 ν i 139 k = ν 139 k) ∧ ∀ a, a ≠ 139 → mTk1 ν i a = ν a := by
  intro i
  induction i with
  | zero => intro _; exact ⟨fun k q => absurd q (Nat.not_lt_zero _), fun _ _ => rfl, fun _ _ => rfl⟩
  | succ i ih =>
    intro hi
    obtain ⟨h1, h2, h3⟩ := ih (by omega)
    rw [mTk1]
    refine ⟨fun k q => ?_, fun k q => ?_, fun a q => ?_⟩
    · by_cases e : k = i
      · subst e; rw [mu_same]; exact h2 _ (by omega)
      · rw [mu_nj e]; exact h1 k (by omega)
    · rw [mu_nj (by omega)]; exact h2 k (by omega)
    · rw [mu_ne q]; exact h3 a q
theorem tk2_r {ν : Me} : ∀ i, i ≤ 12 → (∀ k, k < i → mTk2 ν i 145 k = ν 145 (12 + k)) ∧ (∀ k, i ≤ k → mTk2 ν i 145 k = ν 145 k) ∧ ∀ a, a ≠ 145 → mTk2 ν i a = ν a := by
  intro i
  induction i with
  | zero => intro _; exact ⟨fun k q => absurd q (Nat.not_lt_zero _), fun _ _ => rfl, fun _ _ => rfl⟩
  | succ i ih =>
    intro hi
    obtain ⟨h1, h2, h3⟩ := ih (by omega)
    rw [mTk2]
    refine ⟨fun k q => ?_, fun k q => ?_, fun a q => ?_⟩
    · by_cases e : k = i
      · subst e; rw [mu_same]; exact h2 _ (by omega)
      · rw [mu_nj e]; exact h1 k (by omega)
    · rw [mu_nj (by omega)]; exact h2 k (by omega)
    · rw [mu_ne q]; exact h3 a q
theorem tk3S_a {ν : Me} {i a : Nat} (ha : 140 ≤ a) (hb : a ≤ 144) : mTk3S ν i a i = ν a (7 + i) ∧ ∀ k, k ≠ i → mTk3S ν i a k = ν a k := by
  unfold mTk3S
  rcases (show a = 140 ∨ a = 141 ∨ a = 142 ∨ a = 143 ∨ a = 144 by omega) with rfl | rfl | rfl | rfl | rfl
  · rw [mu_ne (by decide), mu_ne (by decide), mu_ne (by decide), mu_ne (by decide), mu_ne (by decide), mu_ne (by decide)]
    exact ⟨mu_same _ _ _ _, fun k q => mu_nj q⟩
  · rw [mu_ne (by decide), mu_ne (by decide), mu_ne (by decide), mu_ne (by decide), mu_ne (by decide)]
    exact ⟨(mu_same _ _ _ _).trans (by rw [mu_ne (by decide)]), fun k q => by rw [mu_nj q, mu_ne (by decide)]⟩
  · rw [mu_ne (by decide), mu_ne (by decide), mu_ne (by decide), mu_ne (by decide)]
    exact ⟨(mu_same _ _ _ _).trans (by rw [mu_ne (by decide), mu_ne (by decide)]), fun k q => by rw [mu_nj q, mu_ne (by decide), mu_ne (by decide)]⟩
  · rw [mu_ne (by decide), mu_ne (by decide), mu_ne (by decide)]
    exact ⟨(mu_same _ _ _ _).trans (by rw [mu_ne (by decide), mu_ne (by decide), mu_ne (by decide)]), fun k q => by rw [mu_nj q, mu_ne (by decide), mu_ne (by decide), mu_ne (by decide)]⟩
  · rw [mu_ne (by decide), mu_ne (by decide)]
    exact ⟨(mu_same _ _ _ _).trans (by rw [mu_ne (by decide), mu_ne (by decide), mu_ne (by decide), mu_ne (by decide)]), fun k q => by rw [mu_nj q, mu_ne (by decide), mu_ne (by decide), mu_ne (by decide), mu_ne (by decide)]⟩
theorem tk3S_w {ν : Me} {i : Nat} (hi : i < 7) : mTk3S ν i 137 i = 1 ∧ mTk3S ν i 137 (7 + i) = 0 ∧ ∀ k, k ≠ i → k ≠ 7 + i → mTk3S ν i 137 k = ν 137 k := by
  unfold mTk3S
  refine ⟨?_, mu_same _ _ _ _, fun k q1 q2 => ?_⟩
  · rw [mu_nj (by omega), mu_same]
  · rw [mu_nj q2, mu_nj q1, mu_ne (by decide), mu_ne (by decide), mu_ne (by decide), mu_ne (by decide), mu_ne (by decide)]
theorem tk3S_ne {ν : Me} {i a : Nat} (h1 : a ≠ 137) (h2 : a < 140 ∨ 144 < a) : mTk3S ν i a = ν a := by
  unfold mTk3S
  rw [mu_ne h1, mu_ne h1, mu_ne (by omega), mu_ne (by omega), mu_ne (by omega), mu_ne (by omega), mu_ne (by omega)]
theorem tk3_r {ν : Me} : ∀ i, i ≤ 7 → (∀ a, 140 ≤ a → a ≤ 144 → (∀ k, k < i → mTk3 ν i a k = ν a (7 + k)) ∧ ∀ k, i ≤ k → mTk3 ν i a k = ν a k) ∧ ((∀ k, k < i → mTk3 ν i 137 k = 1 ∧ mTk3 ν i 137 (7 + k) = 0) ∧ ∀ k, 14 ≤ k → mTk3 ν i 137 k = ν 137 k) ∧ ∀ a, a ≠ 137 → (a < 140 ∨ 144 < a) → mTk3 ν i a = ν a := by
  intro i
  induction i with
  | zero => intro _; exact ⟨fun a _ _ => ⟨fun k q => absurd q (Nat.not_lt_zero _), fun _ _ => rfl⟩, ⟨fun k q => absurd q (Nat.not_lt_zero _), fun _ _ => rfl⟩, fun _ _ _ => rfl⟩
  | succ i ih =>
    intro hi
    obtain ⟨h1, ⟨h2, h3⟩, h4⟩ := ih (by omega)
    rw [mTk3]
    refine ⟨fun a q1 q2 => ⟨fun k q => ?_, fun k q => ?_⟩, ⟨fun k q => ⟨?_, ?_⟩, fun k q => ?_⟩, fun a q1 q2 => ?_⟩
    · by_cases e : k = i
      · subst e; rw [(tk3S_a q1 q2).1]; exact (h1 a q1 q2).2 _ (by omega)
      · rw [(tk3S_a q1 q2).2 k e]; exact (h1 a q1 q2).1 k (by omega)
    · rw [(tk3S_a q1 q2).2 k (by omega)]; exact (h1 a q1 q2).2 k (by omega)
    · by_cases e : k = i
      · subst e; exact (tk3S_w (by omega)).1
      · rw [(tk3S_w (by omega)).2.2 k e (by omega)]; exact (h2 k (by omega)).1
    · by_cases e : k = i
      · subst e; exact (tk3S_w (by omega)).2.1
      · rw [(tk3S_w (by omega)).2.2 (7 + k) (by omega) (by omega)]; exact (h2 k (by omega)).2
    · rw [(tk3S_w (by omega)).2.2 k (by omega) (by omega)]; exact h3 k q
    · rw [tk3S_ne q1 q2]; exact h4 a q1 q2
theorem tkE_ne {ν : Me} {a : Nat} (h1 : a ≠ 136) (h2 : a ≠ 137) (h3 : a ≠ 138) : mTkE ν a = ν a := by
  unfold mTkE
  rw [mu_ne h3, mu_ne h3, mu_ne h1, mu_ne h1, mu_ne h1, mu_ne h2, mu_ne h2, mu_ne h2]
theorem tkE_w {ν : Me} : mTkE ν 137 14 = 0 ∧ mTkE ν 137 15 = 0 ∧ mTkE ν 137 16 = 0 ∧ ∀ k, (k < 14 ∨ 16 < k) → mTkE ν 137 k = ν 137 k := by
  unfold mTkE
  rw [mu_ne (by decide), mu_ne (by decide), mu_ne (by decide), mu_ne (by decide), mu_ne (by decide)]
  refine ⟨?_, ?_, mu_same _ _ _ _, fun k q => ?_⟩
  · rw [mu_nj (by decide), mu_nj (by decide), mu_same]
  · rw [mu_nj (by decide), mu_same]
  · rw [mu_nj (by omega), mu_nj (by omega), mu_nj (by omega)]
theorem tkE_j {ν : Me} : mTkE ν 136 26 = 0 ∧ mTkE ν 136 30 = 0 ∧ mTkE ν 136 22 = 0 ∧ ∀ k, k ≠ 26 → k ≠ 30 → k ≠ 22 → mTkE ν 136 k = ν 136 k := by
  unfold mTkE
  rw [mu_ne (by decide), mu_ne (by decide)]
  refine ⟨?_, ?_, mu_same _ _ _ _, fun k q1 q2 q3 => ?_⟩
  · rw [mu_nj (by decide), mu_nj (by decide), mu_same]
  · rw [mu_nj (by decide), mu_same]
  · rw [mu_nj q3, mu_nj q2, mu_nj q1, mu_ne (by decide), mu_ne (by decide), mu_ne (by decide)]
theorem tkE_k {ν : Me} : mTkE ν 138 0 = 0 ∧ mTkE ν 138 1 = 0 := by
  unfold mTkE
  refine ⟨?_, mu_same _ _ _ _⟩
  rw [mu_nj (by decide), mu_same]
theorem take_r {ν : Me} : (∀ k, k < 3 → mTake ν 139 k = ν 139 (3 + k)) ∧ (∀ h, h < 12 → mTake ν 145 h = ν 145 (12 + h)) ∧ (∀ a s, 140 ≤ a → a ≤ 144 → s < 7 → mTake ν a s = ν a (7 + s)) ∧ ((∀ s, s < 7 → mTake ν 137 s = 1 ∧ mTake ν 137 (7 + s) = 0) ∧ mTake ν 137 14 = 0 ∧ mTake ν 137 15 = 0 ∧ mTake ν 137 16 = 0 ∧ mTake ν 137 17 = ν 137 17) ∧ (mTake ν 136 8 = ν 136 9 ∧ mTake ν 136 11 = ν 136 12 ∧ mTake ν 136 26 = 0 ∧ mTake ν 136 30 = 0 ∧ mTake ν 136 22 = 0 ∧ mTake ν 136 14 = ν 136 14 ∧ mTake ν 136 18 = ν 136 18) ∧ (mTake ν 138 0 = 0 ∧ mTake ν 138 1 = 0) ∧ ∀ a, a < 136 → mTake ν a = ν a := by
  unfold mTake
  obtain ⟨a1, a2, a3⟩ := tk1_r (ν := ν) 3 (Nat.le_refl _)
  have j1 : ∀ k, mTk1 ν 3 136 k = ν 136 k := fun k => by rw [a3 136 (by decide)]
  generalize mTk1 ν 3 = n1 at a1 a2 a3 j1 ⊢
  have b1 : ∀ a, a ≠ 136 → mu (mu n1 136 8 (n1 136 9)) 136 11 (mu n1 136 8 (n1 136 9) 136 12) a = n1 a := fun a q => by rw [mu_ne q, mu_ne q]
  have b2 : mu (mu n1 136 8 (n1 136 9)) 136 11 (mu n1 136 8 (n1 136 9) 136 12) 136 8 = ν 136 9 := by rw [mu_nj (by decide), mu_same, j1]
  have b3 : mu (mu n1 136 8 (n1 136 9)) 136 11 (mu n1 136 8 (n1 136 9) 136 12) 136 11 = ν 136 12 := by rw [mu_same, mu_nj (by decide), j1]
  have b4 : ∀ k, k ≠ 8 → k ≠ 11 → mu (mu n1 136 8 (n1 136 9)) 136 11 (mu n1 136 8 (n1 136 9) 136 12) 136 k = ν 136 k := fun k q1 q2 => by rw [mu_nj q2, mu_nj q1, j1]
  generalize mu (mu n1 136 8 (n1 136 9)) 136 11 (mu n1 136 8 (n1 136 9) 136 12) = n3 at b1 b2 b3 b4 ⊢
  obtain ⟨c1, c2, c3⟩ := tk2_r (ν := n3) 12 (Nat.le_refl _)
  generalize mTk2 n3 12 = n4 at c1 c2 c3 ⊢
  obtain ⟨d1, ⟨d2, d3⟩, d4⟩ := tk3_r (ν := n4) 7 (Nat.le_refl _)
  generalize mTk3 n4 7 = n5 at d1 d2 d3 d4 ⊢
  have e6 : ∀ k, k ≠ 26 → k ≠ 30 → k ≠ 22 → mTkE n5 136 k = n3 136 k := fun k q1 q2 q3 => by rw [tkE_j.2.2.2 k q1 q2 q3, d4 136 (by decide) (by omega), c3 136 (by decide)]
  refine ⟨fun k q => ?_, fun h q => ?_, fun a s q1 q2 q => ?_, ⟨fun s q => ⟨?_, ?_⟩, tkE_w.1, tkE_w.2.1, tkE_w.2.2.1, ?_⟩, ⟨?_, ?_, tkE_j.1, tkE_j.2.1, tkE_j.2.2.1, ?_, ?_⟩, tkE_k, fun a q => ?_⟩
  · rw [tkE_ne (by decide) (by decide) (by decide), d4 139 (by decide) (by omega), c3 139 (by decide), b1 139 (by decide)]; exact a1 k q
  · rw [tkE_ne (by decide) (by decide) (by decide), d4 145 (by decide) (by omega), c1 h q, b1 145 (by decide), a3 145 (by decide)]
  · rw [tkE_ne (by omega) (by omega) (by omega), (d1 a q1 q2).1 s q, c3 a (by omega), b1 a (by omega), a3 a (by omega)]
  · rw [tkE_w.2.2.2 s (by omega)]; exact (d2 s q).1
  · rw [tkE_w.2.2.2 (7 + s) (by omega)]; exact (d2 s q).2
  · rw [tkE_w.2.2.2 17 (by omega), d3 17 (by omega), c3 137 (by decide), b1 137 (by decide), a3 137 (by decide)]
  · rw [e6 8 (by decide) (by decide) (by decide)]; exact b2
  · rw [e6 11 (by decide) (by decide) (by decide)]; exact b3
  · rw [e6 14 (by decide) (by decide) (by decide)]; exact b4 14 (by decide) (by decide)
  · rw [e6 18 (by decide) (by decide) (by decide)]; exact b4 18 (by decide) (by decide)
  · rw [tkE_ne (by omega) (by omega) (by omega), d4 a (by omega) (by omega), c3 a (by omega), b1 a (by omega), a3 a (by omega)]
theorem beg_r {μ : Me} {a : Nat} : ∀ i, (∀ k, k < i → sBeg μ a i (a + 1) k = 1 ∧ sBeg μ a i (a + 2) k = 0) ∧ ∀ b, b ≠ a + 1 → b ≠ a + 2 → sBeg μ a i b = μ b := by
  intro i
  induction i with
  | zero => exact ⟨fun k q => absurd q (Nat.not_lt_zero _), fun _ _ _ => rfl⟩
  | succ i ih =>
    obtain ⟨h1, h2⟩ := ih
    rw [sBeg]
    refine ⟨fun k q => ?_, fun b q1 q2 => ?_⟩
    · rw [mu_ne (show a + 1 ≠ a + 2 by omega)]
      by_cases e : k = i
      · subst e; rw [mu_same, mu_same]; exact ⟨rfl, rfl⟩
      · rw [mu_nj e, mu_nj e, mu_ne (by omega)]; exact h1 k (by omega)
    · rw [mu_ne q2, mu_ne q1]; exact h2 b q1 q2
theorem begin_r {μ : Me} {a : Nat} : (∀ k, k < 7 → sBegin μ a (a + 1) k = 1 ∧ sBegin μ a (a + 2) k = 0) ∧ (sBegin μ a a 2 = 0 ∧ sBegin μ a a 3 = 0 ∧ sBegin μ a a 4 = 0) ∧ ∀ b, b ≠ a → b ≠ a + 1 → b ≠ a + 2 → sBegin μ a b = μ b := by
  obtain ⟨h1, h2⟩ := beg_r (μ := μ) (a := a) 7
  unfold sBegin
  refine ⟨fun k q => ?_, ⟨?_, ?_, mu_same _ _ _ _⟩, fun b q0 q1 q2 => ?_⟩
  · rw [mu_ne (by omega), mu_ne (by omega), mu_ne (by omega), mu_ne (by omega), mu_ne (by omega), mu_ne (by omega)]; exact h1 k q
  · rw [mu_nj (by decide), mu_nj (by decide), mu_same]
  · rw [mu_nj (by decide), mu_same]
  · rw [mu_ne q0, mu_ne q0, mu_ne q0]; exact h2 b q1 q2
theorem scopy_r {μ : Me} : (∀ j, j < 5 → sSCopy μ 10 3 10 j = μ 3 j) ∧ (∀ s, s < 7 → sSCopy μ 10 3 11 s = μ 4 s ∧ sSCopy μ 10 3 12 s = μ 5 s ∧ sSCopy μ 10 3 13 s = μ 6 s ∧ sSCopy μ 10 3 14 s = μ 7 s ∧ sSCopy μ 10 3 15 s = μ 8 s) ∧ (∀ h, h < 12 → sSCopy μ 10 3 16 h = μ 9 h) ∧ ∀ b, (b < 10 ∨ 16 < b) → sSCopy μ 10 3 b = μ b := by
  have cp : ∀ {f g : Nat → Int32} {n s : Nat}, s < n → va_cpy f g 0 0 n s = f s := fun {f g n s} q => by rw [pk_cpy_in (by omega) (by omega)]; congr 1; omega
  unfold sSCopy
  refine ⟨fun j q => ?_, fun s q => ⟨?_, ?_, ?_, ?_, ?_⟩, fun h q => ?_, fun b q => ?_⟩
  · rw [mr_ne (by decide), mr_ne (by decide), mr_ne (by decide), mr_ne (by decide), mr_ne (by decide), mr_ne (by decide)]
    rcases (show j = 0 ∨ j = 1 ∨ j = 2 ∨ j = 3 ∨ j = 4 by omega) with rfl | rfl | rfl | rfl | rfl
    · rw [mu_nj (by decide), mu_nj (by decide), mu_nj (by decide), mu_nj (by decide), mu_same]
    · rw [mu_nj (by decide), mu_nj (by decide), mu_nj (by decide), mu_same, mu_ne (by decide)]
    · rw [mu_nj (by decide), mu_nj (by decide), mu_same, mu_ne (by decide), mu_ne (by decide)]
    · rw [mu_nj (by decide), mu_same, mu_ne (by decide), mu_ne (by decide), mu_ne (by decide)]
    · rw [mu_same, mu_ne (by decide), mu_ne (by decide), mu_ne (by decide), mu_ne (by decide)]
  · rw [mr_ne (by decide), mr_ne (by decide), mr_ne (by decide), mr_ne (by decide), mr_ne (by decide)]
    show mr _ (10 + 1) _ (10 + 1) s = _
    rw [mr_same, cp q]
    simp only [mu_ne, ne_eq, Nat.reduceAdd, Nat.reduceEqDiff, not_false_eq_true]
  · rw [mr_ne (by decide), mr_ne (by decide), mr_ne (by decide), mr_ne (by decide)]
    show mr _ (10 + 2) _ (10 + 2) s = _
    rw [mr_same, cp q]
    simp only [mr_ne, mu_ne, ne_eq, Nat.reduceAdd, Nat.reduceEqDiff, not_false_eq_true]
  · rw [mr_ne (by decide), mr_ne (by decide), mr_ne (by decide)]
    show mr _ (10 + 3) _ (10 + 3) s = _
    rw [mr_same, cp q]
    simp only [mr_ne, mu_ne, ne_eq, Nat.reduceAdd, Nat.reduceEqDiff, not_false_eq_true]
  · rw [mr_ne (by decide), mr_ne (by decide)]
    show mr _ (10 + 4) _ (10 + 4) s = _
    rw [mr_same, cp q]
    simp only [mr_ne, mu_ne, ne_eq, Nat.reduceAdd, Nat.reduceEqDiff, not_false_eq_true]
  · rw [mr_ne (by decide)]
    show mr _ (10 + 5) _ (10 + 5) s = _
    rw [mr_same, cp q]
    simp only [mr_ne, mu_ne, ne_eq, Nat.reduceAdd, Nat.reduceEqDiff, not_false_eq_true]
  · show mr _ (10 + 6) _ (10 + 6) h = _
    rw [mr_same, cp q]
    simp only [mr_ne, mu_ne, ne_eq, Nat.reduceAdd, Nat.reduceEqDiff, not_false_eq_true]
  · rw [mr_ne (by omega), mr_ne (by omega), mr_ne (by omega), mr_ne (by omega), mr_ne (by omega), mr_ne (by omega), mu_ne (by omega), mu_ne (by omega), mu_ne (by omega), mu_ne (by omega), mu_ne (by omega)]
theorem kept_r {μ : Me} : (sKept μ 2 127 2 = 0 ∧ sKept μ 2 131 2 = 0) ∧ ∀ b, b ≠ 127 → b ≠ 131 → sKept μ 2 b = μ b := by
  have e : sKept μ 2 = mu (mu μ 127 2 0) 131 2 0 := rfl
  rw [e]
  refine ⟨⟨?_, mu_same _ _ _ _⟩, fun b q1 q2 => ?_⟩
  · rw [mu_ne (by decide), mu_same]
  · rw [mu_ne q2, mu_ne q1]
