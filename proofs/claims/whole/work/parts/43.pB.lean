theorem RS.of {μ μ' ν ν' : Me} {n d b : Nat} (h : RS μ ν n d) (hμ : ∀ a, 10 ≤ a → a ≤ 16 → μ' a = μ a) (f : mFr b ν ν') : RS μ' ν' n d := by
  obtain ⟨hG, h1, h2, h3, h4⟩ := h
  have e : ∀ a, 139 ≤ a → a ≤ 145 → ν' a = ν a := fun a q1 q2 => f.1 a (by omega) (by omega) (by omega)
  refine ⟨hG.fr f, ?_, ?_, ?_, ?_⟩
  · rw [hμ 10 (by omega) (by omega), e 139 (by omega) (by omega)]; exact h1
  · rw [hμ 11 (by omega) (by omega), hμ 12 (by omega) (by omega), hμ 13 (by omega) (by omega), hμ 14 (by omega) (by omega), hμ 15 (by omega) (by omega), e 140 (by omega) (by omega), e 141 (by omega) (by omega), e 142 (by omega) (by omega), e 143 (by omega) (by omega), e 144 (by omega) (by omega)]; exact h2
  · rw [hμ 16 (by omega) (by omega), e 145 (by omega) (by omega)]; exact h3
  · rw [e 143 (by omega) (by omega)]; exact h4
def TR (o2 o3 o4 : Int32) (b n d : Nat) (way : Int32) (i : Nat) (μ : Me) (q : mQ) : Prop :=
  RS μ q.2.2.2 n d ∧ (μ 23 6 = q.1 ∧ μ 23 7 = q.2.1 ∧ μ 23 5 = nI q.2.2.1 ∧ μ 23 3 = q.2.2.2 136 20 ∧ μ 23 4 = q.2.2.2 136 21) ∧
  (∀ s, s < 7 → μ 27 s = q.2.2.2 147 s ∧ μ 25 s = q.2.2.2 137 (b + s) ∧ μ 26 s = q.2.2.2 137 (b + 7 + s)) ∧
  (μ 24 2 + o2 = q.2.2.2 137 (b + 14) ∧ μ 24 3 + o3 = q.2.2.2 137 (b + 15) ∧ μ 24 4 + o4 + sBC (μ 23 4) = q.2.2.2 137 (b + 16)) ∧
  (∃ m : Nat, m < 128 ∧ μ 23 4 = nI m ∧ ∀ j, m.testBit j = true → ∃ i', i' < i ∧ mStopOf way i' = nI j) ∧
  (∃ t y : Nat, q.1 = nI t ∧ t ≤ 10000 * i ∧ q.2.1 = nI y ∧ y ≤ 99)
def cM (μ : Me) (j : Nat) (T Y : Int32) : Me := mu (mu (mu μ 23 6 T) 23 7 Y) 27 j T
theorem callM_eq {μ : Me} {j : Nat} {T Y : Int32} (h1 : μ 23 6 + sBetw μ 10 (μ 23 7) (μ 11 j) = T) (h2 : μ 11 j = Y) : sCallM μ j = cM μ j T Y := by
  unfold sCallM cM
  rw [h1]
  dsimp only
  rw [mu_ne (show 11 ≠ 23 by decide), h2, mu_nj (show (6 : Nat) ≠ 7 by decide), mu_same]
def cB (μ : Me) (j : Nat) (T Y U W K : Int32) : Me := mu (mu (mu (cM μ j T Y) 23 5 W) 23 6 U) 25 j K
theorem callB_eq {μ : Me} {j : Nat} {T Y haste W K U : Int32} (hW : μ 23 5 + 1 = W) (hK : sMeets (mu (cM μ j T Y) 23 5 W) 10 (nI j) T (sRings W haste) (μ 26 j) = K) (hU : T + sDoor μ 10 (sRings W haste) K = U) : sCallB (cM μ j T Y) j haste = sCallD (cB μ j T Y U W K) j K := by
  have e5 : cM μ j T Y 23 5 = μ 23 5 := by simp [cM, mu_at]
  have e6 : mu (cM μ j T Y) 23 5 W 23 6 = T := by simp [cM, mu_at]
  have e26 : mu (cM μ j T Y) 23 5 W 26 j = μ 26 j := by simp [cM, mu_at]
  have ed : ∀ r k, sDoor (mu (cM μ j T Y) 23 5 W) 10 r k = sDoor μ 10 r k := by intro r k; simp [sDoor, cM, mu_at]
  unfold sCallB cB
  dsimp only
  rw [e5, hW, mu_same, e6, e26, hK, ed, hU]
