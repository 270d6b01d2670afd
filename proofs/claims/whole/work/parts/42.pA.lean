def RS (μ ν : Me) (n d : Nat) : Prop := mG ν n d ∧ (μ 10 3 = nI n ∧ μ 10 4 = nI d ∧ μ 10 0 = ν 139 0 ∧ μ 10 1 = ν 139 1 ∧ μ 10 2 = ν 139 2) ∧ (∀ s, s < n → μ 11 s = ν 140 s ∧ μ 12 s = ν 141 s ∧ μ 13 s = ν 142 s ∧ μ 14 s = ν 143 s ∧ μ 15 s = ν 144 s) ∧ (∀ h, h < d → μ 16 h = ν 145 h) ∧ (∀ s, s < n → ν 143 s = -1 ∨ ∃ j : Nat, j < n ∧ ν 143 s = nI j)
theorem abs_far {a b : Nat} (ha : a ≤ 99) (hb : b ≤ 99) : sAbs (nI a - nI b) = sFar (nI b) (nI a) := by
  unfold sAbs sFar
  rcases Nat.lt_or_ge b a with h | h
  · rw [if_neg (nI_ge h (by omega)), pk_sub (by omega), if_pos (nI_pos' (by omega))]
  · rw [if_pos (nI_le h (by omega))]
    rcases Nat.eq_or_lt_of_le h with q | q
    · subst q; rw [pk_sub (Nat.le_refl _), Nat.sub_self]; decide
    · rw [if_neg (Int32.not_le.mpr (pk_sneg (by omega) q))]
      simp
theorem win12 {h : Nat} (hh : h < 2147483648) : sWithin (nI h) 0 11 = !decide (12 ≤ nI h) := by
  have h0 : ¬ nI h < 0 := nI_pos hh
  have e : (11 : Int32) < nI h ↔ 12 ≤ nI h := by
    rw [show (11 : Int32) = nI 11 from rfl, show (12 : Int32) = nI 12 from rfl, nI_ltI (by omega) hh, nI_leI (by omega) hh]
    omega
  simp [sWithin, h0, e]
theorem has_n {n j : Nat} (h7 : n ≤ 7) (hj : j < n) : sHas (nI n) (nI j) = true := by rw [sHas_nI h7 (by omega), decide_eq_true hj]
theorem isIn_eq {f g : Nat → Int32} {ν : Me} {n j h : Nat} (h7 : n ≤ 7) (hj : j < n) (hh : h < 2147483648) (e : f j = ν 141 j) : sIsIn (nI n) f (nI j) (nI h) = mIsIn ν (nI j) (nI h) := by
  unfold sIsIn mIsIn
  rw [has_n h7 hj, win12 hh, cl_nI (by omega), e, Bool.true_and]
theorem din_eq {f : Nat → Int32} {ν : Me} {x : Int32} {d h : Nat} (hx : x = nI d) (hd : ν 136 11 = nI d) (h12 : d ≤ 12) (hh : h < 2147483648) (e : ∀ i, i < d → f i = ν 145 i) : sDinOf x f (nI h) = mDinAt ν (nI h) := by
  subst hx
  unfold sDinOf mDinAt
  rw [if_neg (nI_pos hh), hd]
  rcases Nat.eq_zero_or_pos d with q | q
  · subst q; rw [if_neg (by decide), if_pos (by decide)]
  · rw [if_pos (show (1 : Int32) ≤ nI d from nI_le (a := 1) (by omega) (by omega)), if_neg (nI_ne0 q (by omega)), pk_rem hh q (by omega), cl_nI (by have := Nat.mod_lt h q; omega)]
    exact e _ (Nat.mod_lt h q)
theorem ring_eq {haste : Int32} (h : sWithin haste 0 3 = true) (t : Nat) : sRings (nI t) haste = mRing haste t := by
  obtain ⟨j, -, hj, rfl⟩ := win_j (a := 0) (b := 3) (by omega) h (by omega)
  unfold sRings mRing
  have e : (!sWithin (nI j) 1 3) = decide ((nI j : Int32) = 0) := by
    rcases (show j = 0 ∨ j = 1 ∨ j = 2 ∨ j = 3 by omega) with rfl | rfl | rfl | rfl <;> decide
  rw [e]
theorem bc_or : ∀ m, m < 128 → ∀ j, j < 7 → m.testBit j = false → sBC (nI m ||| ((1 : Int32) <<< (nI j &&& 31))) = sBC (nI m) + 1 := by decide +kernel
theorem or_n : ∀ m, m < 128 → ∀ j, j < 7 → nI m ||| ((1 : Int32) <<< (nI j &&& 31)) = nI (m ||| (1 <<< j)) ∧ m ||| (1 <<< j) < 128 := by decide +kernel
theorem tb_or : ∀ m, m < 128 → ∀ j, j < 7 → ∀ i, (m ||| (1 <<< j)).testBit i = (m.testBit i || decide (i = j)) := by
  intro m _ j _ i
  rw [Nat.testBit_or, Nat.one_shiftLeft, Nat.testBit_two_pow]
  congr 1
  exact decide_eq_decide.mpr ⟨Eq.symm, Eq.symm⟩
def mKind (ν : Me) (b j : Nat) (tm : Int32) (rg : Bool) : Int32 := if mHand ν j tm rg then 2 else if mNb ν b j tm then 3 else 4
theorem meets_eq {μ ν : Me} {n d j b t : Nat} {tm tk : Int32} {rg : Bool} (h : RS μ ν n d) (hj : j < n) (ht : tm = nI t) (ht9 : t < 2147483648) (hk : tk = ν 137 (b + 7 + j)) : sMeets μ 10 (nI j) tm rg tk = mKind ν b j tm rg := by
  obtain ⟨hG, ⟨n3, d4, -, -, -⟩, hs, hd, hn⟩ := h
  have h7 := hG.2.1
  obtain ⟨-, e12, e13, e14, e15⟩ := hs j hj
  have hh : tm / 3600 = nI (t / 3600) := by rw [ht]; exact pk_div (d := 3600) ht9 (by decide) (by decide)
  have i1 : sIsIn (μ 10 3) (μ (10 + 2)) (nI j) (nI (t / 3600)) = mIsIn ν (nI j) (nI (t / 3600)) := by rw [n3]; exact isIn_eq (g := μ 12) h7 hj (by omega) e12
  have i2 : sDinOf (μ 10 4) (μ (10 + 6)) (nI (t / 3600)) = mDinAt ν (nI (t / 3600)) := din_eq d4 hG.2.2.1 hG.2.2.2.1 (by omega) hd
  have i3 : sIsIn (μ 10 3) (μ (10 + 2)) (μ (10 + 4) j) (nI (t / 3600)) = (!decide (ν 143 j = -1) && mIsIn ν (ν 143 j) (nI (t / 3600))) := by
    show sIsIn (μ 10 3) (μ (10 + 2)) (μ 14 j) (nI (t / 3600)) = _
    rw [e14, n3]
    rcases hn j hj with q | ⟨c, hc, q⟩
    · rw [q]; simp [sIsIn, sHas]
    · rw [q, isIn_eq (g := μ 12) h7 hc (by omega) (hs c hc).2.1]
      have : ¬ (nI c : Int32) = -1 := by
        intro w
        have := nI_pos (n := c) (by omega)
        rw [w] at this
        exact this (by decide)
      simp [this]
  unfold sMeets mKind mHand mNb
  rw [hh, i1, i2, cl_nI (by omega), i3, n3, has_n h7 hj, if_pos rfl, hk]
  show (if (rg && mIsIn ν (nI j) (nI (t / 3600)) && !decide (μ 13 j ≤ mDinAt ν (nI (t / 3600)))) = true then (2 : Int32) else if (!decide (ν 143 j = -1) && mIsIn ν (ν 143 j) (nI (t / 3600)) && !decide (μ 15 j ≤ ν 137 (b + 7 + j))) = true then 3 else 4) = _
  rw [e13, e15]
