theorem way_dist {n : Nat} (h7 : n ≤ 7) : ∀ (m : Nat) (x : Int32) (u : Nat), u < 128 → sWay (nI n) m x (nI u) = true → (∀ k, k < dg m x → ∃ j : Nat, j < n ∧ sDivN x k - sDivN x k / 10 * 10 - 1 = nI j ∧ sBit (nI u) (nI j) = false) ∧ ∀ k l, k < l → l < dg m x → ¬ sDivN x k - sDivN x k / 10 * 10 - 1 = sDivN x l - sDivN x l / 10 * 10 - 1 := by
  intro m
  induction m with
  | zero => intro x u _ _; exact ⟨fun k hk => absurd hk (Nat.not_lt_zero _), fun k l _ hl => absurd hl (Nat.not_lt_zero _)⟩
  | succ m ih =>
    intro x u hu h
    by_cases h0 : x ≤ 0
    · rw [dg, if_pos h0]; exact ⟨fun k hk => absurd hk (Nat.not_lt_zero _), fun k l _ hl => absurd hl (Nat.not_lt_zero _)⟩
    · rw [dg, if_neg h0]
      have h' : (if sHas (nI n) (x - x / 10 * 10 - 1) then (if sBit (nI u) (x - x / 10 * 10 - 1) then false else sWay (nI n) m (x / 10) (nI u ||| ((1 : Int32) <<< ((x - x / 10 * 10 - 1) &&& 31)))) else false) = true := by
        have := h
        rw [sWay, if_neg h0] at this
        exact this
      by_cases h1 : sHas (nI n) (x - x / 10 * 10 - 1) = true
      · rw [if_pos h1] at h'
        by_cases h2 : sBit (nI u) (x - x / 10 * 10 - 1) = true
        · rw [if_pos h2] at h'; exact absurd h' (by decide)
        · rw [if_neg h2] at h'
          obtain ⟨c, hc, ec⟩ := sHas_j rfl h7 h1
          rw [ec] at h' h2
          obtain ⟨o1, o2⟩ := or_n u hu c (by omega)
          rw [o1] at h'
          obtain ⟨g1, g2⟩ := ih _ _ o2 h'
          have g3 : ∀ k, k < dg m (x / 10) → ∃ j : Nat, j < n ∧ sDivN (x / 10) k - sDivN (x / 10) k / 10 * 10 - 1 = nI j ∧ sBit (nI u) (nI j) = false ∧ ¬ j = c := by
            intro k hk
            obtain ⟨j, hj, ej, bj⟩ := g1 k hk
            rw [← o1, bit_or u hu c (by omega) j (by omega), Bool.or_eq_false_iff] at bj
            exact ⟨j, hj, ej, bj.1, of_decide_eq_false bj.2⟩
          refine ⟨fun k hk => ?_, fun k l hkl hl => ?_⟩
          · cases k with
            | zero => exact ⟨c, hc, ec, by simpa using h2⟩
            | succ k =>
              rw [sDivN_s]
              obtain ⟨j, hj, ej, bj, -⟩ := g3 k (by omega)
              exact ⟨j, hj, ej, bj⟩
          · obtain ⟨l, rfl⟩ : ∃ l', l = l' + 1 := ⟨l - 1, by omega⟩
            rw [sDivN_s x l]
            cases k with
            | zero =>
              obtain ⟨j, hj, ej, -, nj⟩ := g3 l (by omega)
              rw [ej, show sDivN x 0 = x from rfl, ec]
              intro w
              exact nj ((nI_eq (by omega) (by omega)).mp w).symm
            | succ k =>
              rw [sDivN_s x k]
              exact g2 k l (by omega) (by omega)
      · rw [if_neg h1] at h'; exact absurd h' (by decide)
theorem way_all {n : Nat} {way : Int32} (h7 : n ≤ 7) (h : sIsWay (nI n) way = true) : ∃ w : Nat, way = nI w ∧ w < 2147483648 ∧ 0 < w ∧ sFE way 9 0 + 1 = dg 10 way ∧ (∀ i, i < dg 10 way → mStopOf way i = sFig way (dg 10 way - 1 - i)) ∧ ∀ i l, i < l → l < dg 10 way → ¬ mStopOf way i = mStopOf way l := by
  have hd := way_dist h7 10 way 0 (by decide) h
  have hp : ¬ way ≤ 0 := by
    intro q
    unfold sIsWay at h
    rw [sWay, if_pos q] at h
    exact absurd h (by decide)
  rcases way_ok way with q | ⟨w, rfl, -, hw⟩
  · exact absurd q hp
  · have h0 : 0 < w := by
      rcases Nat.eq_zero_or_pos w with q | q
      · subst q; exact absurd (by decide) hp
      · exact q
    have hle := dg_le 10 (nI w)
    have e := fe_dg hw 9 0 rfl (by rw [Nat.pow_zero, Nat.div_one]; exact h0)
    rw [Nat.pow_zero, Nat.div_one, Nat.zero_add] at e
    refine ⟨w, rfl, hw, h0, e, fun i hi => ?_, fun i l hil hl => ?_⟩
    · rw [fig_div hw (by omega)]; rfl
    · intro q
      exact hd.2 (dg 10 (nI w) - 1 - l) (dg 10 (nI w) - 1 - i) (by omega) (by omega) q.symm
