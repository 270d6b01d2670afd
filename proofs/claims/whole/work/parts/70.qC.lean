def aSc (f : Nat → Int32) (a k : Nat) : Prop := ∀ s t, a ≤ s → s < t → t < k → f s < f t
def dSc (f : Nat → Int32) (a k : Nat) : Prop := ∀ s t, a ≤ s → s < t → t < k → f t < f s
def vS (f : Nat → Int32) (a k : Nat) (x : Int32) : Prop := ∃ t, a ≤ t ∧ t < k ∧ f t = x
theorem piv_at {f : Nat → Int32} {i : Nat} (hi : f i ≤ f (i + 1)) : ∀ M, i + 1 ≤ M → (∀ j, i < j → j + 1 ≤ M → ¬ f j ≤ f (j + 1)) → mPiv f M = i + 1 := by
  intro M
  induction M with
  | zero => intro h; omega
  | succ M ih =>
    intro h hd
    rw [mPiv]
    by_cases e : M = i
    · subst e; rw [if_pos hi]
    · rw [if_neg (hd M (by omega) (by omega))]
      exact ih (by omega) (fun j q1 q2 => hd j q1 (by omega))
theorem piv_no {f : Nat → Int32} : ∀ M, (∀ j, j + 1 ≤ M → ¬ f j ≤ f (j + 1)) → mPiv f M = 0 := by
  intro M
  induction M with
  | zero => intro _; rfl
  | succ M ih =>
    intro hd
    rw [mPiv, if_neg (hd M (by omega))]
    exact ih (fun j q => hd j (by omega))
theorem suc_max {f : Nat → Int32} {x : Int32} : ∀ M t, mSuc f x M < t → t ≤ M → ¬ x ≤ f t := by
  intro M
  induction M with
  | zero => intro t h1 h2; omega
  | succ M ih =>
    intro t h1 h2
    rw [mSuc] at h1
    by_cases c : x ≤ f (M + 1)
    · rw [if_pos c] at h1; omega
    · rw [if_neg c] at h1
      by_cases e : t = M + 1
      · rw [e]; exact c
      · exact ih t h1 (by omega)
theorem swp_at {f : Nat → Int32} {a b : Nat} : swp f a b b = f a ∧ (a ≠ b → swp f a b a = f b) ∧ ∀ t, t ≠ a → t ≠ b → swp f a b t = f t := by
  unfold swp
  refine ⟨if_pos rfl, fun h => ?_, fun t h1 h2 => ?_⟩
  · show (if a = b then f a else if a = a then f b else f a) = f b
    rw [if_neg h, if_pos rfl]
  · show (if t = b then f a else if t = a then f b else f t) = f t
    rw [if_neg h2, if_neg h1]
theorem rev_at : ∀ (c : Nat) (f : Nat → Int32) (a b : Nat), b + 1 ≤ a + 2 * c → a ≤ b + 1 → (∀ t, a ≤ t → t ≤ b → mRev c f a b t = f (a + b - t)) ∧ ∀ t, (t < a ∨ b < t) → mRev c f a b t = f t := by
  intro c
  induction c with
  | zero =>
    intro f a b h1 h2
    exact ⟨fun t q1 q2 => by omega, fun t _ => rfl⟩
  | succ c ih =>
    intro f a b h1 h2
    rw [mRev]
    by_cases hab : a < b
    · rw [if_pos hab]
      obtain ⟨g1, g2⟩ := ih (swp f a b) (a + 1) (b - 1) (by omega) (by omega)
      obtain ⟨s1, s2, s3⟩ := swp_at (f := f) (a := a) (b := b)
      refine ⟨fun t q1 q2 => ?_, fun t q => ?_⟩
      · by_cases e1 : t = a
        · subst e1; rw [g2 t (by omega), s2 (by omega), show t + b - t = b by omega]
        · by_cases e2 : t = b
          · subst e2; rw [g2 t (by omega), s1, show a + t - t = a by omega]
          · rw [g1 t (by omega) (by omega), s3 _ (by omega) (by omega), show a + 1 + (b - 1) - t = a + b - t by omega]
      · rw [g2 t (by omega), s3 t (by omega) (by omega)]
    · rw [if_neg hab]
      refine ⟨fun t q1 q2 => ?_, fun t _ => rfl⟩
      rw [show a + b - t = t by omega]
theorem nx_no {f : Nat → Int32} {k : Nat} (h : dSc f 0 k) : nx f k = none := by
  unfold nx
  rw [piv_no (k - 1) (fun j q => Int32.not_le.mpr (h j (j + 1) (by omega) (by omega) (by omega)))]
theorem nx_go {f : Nat → Int32} {k p : Nat} (hk : k ≤ 7) (hp : p + 1 < k) (hd : dSc f (p + 1) k) (hl : f p < f (p + 1)) : ∃ f' J, nx f k = some f' ∧ p < J ∧ J < k ∧ (∀ t, t < p → f' t = f t) ∧ f' p = f J ∧ f p ≤ f J ∧ (∀ t, p < t → t < k → f p ≤ f t → f J ≤ f t) ∧ aSc f' (p + 1) k ∧ (∀ x, vS f' p k x ↔ vS f p k x) := by
  have hpv : mPiv f (k - 1) = p + 1 := piv_at (Int32.le_of_lt hl) (k - 1) (by omega) (fun j q1 q2 => Int32.not_le.mpr (hd j (j + 1) (by omega) (by omega) (by omega)))
  obtain ⟨c, hc⟩ : ∃ c, k - 1 = c + 1 := ⟨k - 2, by omega⟩
  obtain ⟨g1, g2, g3⟩ := suc_ok (f := f) (i := p) (Int32.le_of_lt hl) c (by omega)
  have gm := suc_max (f := f) (x := f p) (k - 1)
  rw [← hc] at g1 g2 g3
  have enx : nx f k = some (mRev 7 (swp f p (mSuc f (f p) (k - 1))) (p + 1) (k - 1)) := by unfold nx; rw [hpv]
  generalize mSuc f (f p) (k - 1) = J at g1 g2 g3 gm enx
  obtain ⟨s1, s2, s3⟩ := swp_at (f := f) (a := p) (b := J)
  obtain ⟨r1, r2⟩ := rev_at 7 (swp f p J) (p + 1) (k - 1) (by omega) (by omega)
  have hs : dSc (swp f p J) (p + 1) k := by
    intro x y q1 q2 q3
    by_cases ex : x = J
    · subst ex
      rw [s1, s3 y (by omega) (by omega)]
      exact Int32.not_le.mp (gm y q2 (by omega))
    · rw [s3 x (by omega) ex]
      by_cases ey : y = J
      · subst ey
        rw [s1]
        exact Int32.lt_of_le_of_lt g3 (hd x y q1 q2 q3)
      · rw [s3 y (by omega) ey]; exact hd x y q1 q2 q3
  refine ⟨_, J, enx, by omega, by omega, fun t ht => ?_, ?_, g3, fun t q1 q2 q3 => ?_, ?_, fun x => ⟨?_, ?_⟩⟩
  · rw [r2 t (by omega), s3 t (by omega) (by omega)]
  · rw [r2 p (by omega), s2 (by omega)]
  · have htJ : t ≤ J := by
      apply Nat.le_of_not_lt
      intro w
      exact gm t w (by omega) q3
    rcases Nat.eq_or_lt_of_le htJ with e | e
    · rw [e]; exact Int32.le_refl _
    · exact Int32.le_of_lt (hd t J (by omega) e (by omega))
  · intro a b q1 q2 q3
    rw [r1 a (by omega) (by omega), r1 b (by omega) (by omega)]
    exact hs _ _ (by omega) (by omega) (by omega)
  · rintro ⟨t, q1, q2, rfl⟩
    by_cases e : t = p
    · subst e; rw [r2 t (by omega), s2 (by omega)]; exact ⟨J, by omega, by omega, rfl⟩
    · rw [r1 t (by omega) (by omega)]
      by_cases e2 : p + 1 + (k - 1) - t = J
      · rw [e2, s1]; exact ⟨p, by omega, by omega, rfl⟩
      · rw [s3 _ (by omega) e2]; exact ⟨_, by omega, by omega, rfl⟩
  · rintro ⟨t, q1, q2, rfl⟩
    by_cases e : t = p
    · subst e
      exact ⟨t + 1 + (k - 1) - J, by omega, by omega, by rw [r1 _ (by omega) (by omega), show t + 1 + (k - 1) - (t + 1 + (k - 1) - J) = J by omega, s1]⟩
    · by_cases e2 : t = J
      · subst e2; exact ⟨p, by omega, by omega, by rw [r2 p (by omega), s2 (by omega)]⟩
      · exact ⟨p + 1 + (k - 1) - t, by omega, by omega, by rw [r1 _ (by omega) (by omega), show p + 1 + (k - 1) - (p + 1 + (k - 1) - t) = t by omega, s3 t e e2]⟩
