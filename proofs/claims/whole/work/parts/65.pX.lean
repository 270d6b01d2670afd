theorem clause_eq {l p n dn : Nat} {Y Z : Me} {c : Int32} (h : TX l p Y Z) (hp : p < l) (hd : dD n dn Y Z) (hc : mHere Z = (c, Z)) : CO l (p + 1) (sClause Y c) (mStrS Z) := by
  have e9 : mInc Z 136 9 = nI n := (mu_nj (by decide)).trans hd.1.2.2.2.1
  have e12 : mInc Z 136 12 = nI dn := (mu_nj (by decide)).trans hd.1.2.2.2.2.2
  have e139 : mInc Z 139 3 = Z 139 3 := by unfold mInc; rw [mu_ne (by decide)]
  have z17 : mInc Z 136 17 = 0 := (mu_nj (by decide)).trans h.2.2.2.1
  have ew : Y 1 4 = Z 136 15 := h.2.1.1.trans h.2.1.2.1.symm
  have eS : mStrS Z = mFin (mClause Z) := rfl
  have eA : mClA Z = mWant (mInc Z) (decide (c = 118) || !decide (mInc Z 139 3 ≤ 0)) 1 (Z 136 15) := by unfold mClA; rw [hc]
  have eC : mClause Z = if mOkB (mClA Z) then mClauseB (mClA Z) c (Z 136 15) else mClA Z := by unfold mClause; rw [hc]
  obtain ⟨r0, r1, r2, ⟨i1, i2, i3⟩, -⟩ := hd.2.1
  have hz0 : mInc Z 139 3 = Y 3 0 := by rw [e139, i1, i2]
  have f1 : FR (sFail Y 1 (Y 1 4)) (mFail (mInc Z) 1 (Z 136 15)) := FR.fail 1 (by omega) (by omega) h.2.2.1 z17 ew
  have f3 : FR (sFail Y 3 (Y 1 4)) (mFail (mInc Z) 3 (Z 136 15)) := FR.fail 3 (by omega) (by omega) h.2.2.1 z17 ew
  rw [eS, eC, eA]
  unfold sClause
  by_cases c0 : Y 3 0 ≤ 0
  · have c0' : mInc Z 139 3 ≤ 0 := by rw [hz0]; exact c0
    rw [if_pos c0, decide_eq_true c0', show (!true) = false from rfl, Bool.or_false]
    by_cases cv : c = 118
    · have z0 : mInc Z 139 3 = 0 := by
        rw [hz0, i1]
        rw [i1] at c0
        have : r0 = 0 := by
          apply Nat.eq_zero_of_not_pos
          intro q
          exact nI_nle q (by omega) c0
        rw [this]; rfl
      rw [if_pos cv, decide_eq_true cv, mWant_t, okB_t z17, if_pos rfl]
      unfold sVan mClauseB mRule
      rw [if_pos cv, if_neg (by decide), decide_eq_true z0, mWant_t, okB_t z17, if_pos rfl]
      exact van_eq h hp hd
    · rw [if_neg cv, decide_eq_false cv, mWant_f, okB_f f1.nz.2.2, if_neg (by decide)]
      exact Or.inr f1.fin
  · have c0' : ¬ mInc Z 139 3 ≤ 0 := by rw [hz0]; exact c0
    have c0'' : ¬ mInc Z 139 3 = 0 := fun q => c0' (by rw [q]; decide)
    rw [if_neg c0, decide_eq_false c0', show (!false) = true from rfl, Bool.or_true, mWant_t, okB_t z17, if_pos rfl]
    unfold mClauseB
    by_cases cv : c = 118
    · rw [if_pos cv, if_pos cv]
      unfold sVan mRule
      rw [if_pos rfl, decide_eq_false c0'', mWant_f, okB_f f3.nz.2.2, if_neg (by decide)]
      exact Or.inr (FR.fin (f3.keep kF.vanB (kM.rfl' _)))
    · rw [if_neg cv, if_neg cv]
      by_cases cs : c = 115
      · rw [if_pos cs, if_pos cs]
        unfold sStop mStop
        rw [hd.1.2.2.1]
        by_cases cn : n < 7
        · have q1 : ¬ 7 ≤ mInc Z 136 9 := by rw [e9]; exact fun w => absurd ((nI_leI (a := 7) (b := n) (by omega) (by omega)).mp w) (by omega)
          have q2 : mnOf (mInc Z) = n := by unfold mnOf; rw [e9, cl_nI (by omega)]
          rw [if_pos (show nI n < 7 from nI_lt (b := 7) cn (by decide)), decide_eq_false q1, show (!false) = true from rfl, mWant_t, okB_t z17, if_pos rfl, q2]
          exact stop_eq h hp hd cn
        · have q1 : 7 ≤ mInc Z 136 9 := by rw [e9]; exact nI_le (a := 7) (by omega) (by have := hd.1.1; omega)
          rw [if_neg (show ¬ nI n < 7 from nI_nlt (b := 7) (by omega) (by have := hd.1.1; omega)), decide_eq_true q1, show (!true) = false from rfl, mWant_f, okB_f f3.nz.2.2, if_neg (by decide)]
          exact Or.inr (FR.fin (f3.keep kF.stopB (kM.rfl' _)))
      · rw [if_neg cs, if_neg cs]
        by_cases cd : c = 100
        · rw [if_pos cd, if_pos cd]
          unfold sDin mDins
          rw [hd.1.2.2.2.2.1]
          by_cases cn : dn = 0
          · subst cn
            have q1 : mInc Z 136 12 = 0 := e12
            rw [if_pos (show (nI 0 : Int32) ≤ 0 by decide), decide_eq_true q1, mWant_t, okB_t z17, if_pos rfl]
            exact dinL_eq 12 0 p Y Z (by omega) (by omega) h hp hd
          · have q1 : ¬ mInc Z 136 12 = 0 := by rw [e12]; exact nI_ne0 (by omega) (by have := hd.1.2.1; omega)
            rw [if_neg (nI_nle (by omega) (by have := hd.1.2.1; omega)), decide_eq_false q1, mWant_f, okB_f f3.nz.2.2, if_neg (by decide)]
            exact Or.inr (FR.fin (f3.keep (kF.dinA.trans (kF.dinL _ _ _)) (kM.rfl' _)))
        · rw [if_neg cd, if_neg cd]
          by_cases cn : c = 110
          · rw [if_pos cn, decide_eq_true cn, mWant_t, okB_t z17, if_pos rfl]
            exact nei_eq h hp hd
          · rw [if_neg cn, decide_eq_false cn, mWant_f, okB_f f1.nz.2.2, if_neg (by decide)]
            exact Or.inr f1.fin
def FI (μ ν : Me) : Prop := (μ 1 2 = 0 ∧ ν 136 17 = 0 ∧ μ 1 3 = ν 136 18 ∧ ∃ n dn : Nat, dD n dn μ ν) ∨ FR μ ν
theorem read_f {μ : Me} (h : ¬ μ 1 2 = 0) : ∀ m, sRead m μ = μ := by
  intro m
  cases m with
  | zero => rfl
  | succ m => rw [sRead, if_neg h]
theorem strL_f {ν : Me} (h : ¬ ν 136 17 = 0) : ∀ m, mStrL m ν = ν := by
  intro m
  cases m with
  | zero => rfl
  | succ m => rw [mStrL, if_neg h]
theorem read_eq {l : Nat} : ∀ (m t n dn : Nat) (μ ν : Me), TX l t μ ν → dD n dn μ ν → l ≤ t + m → FI (sRead m μ) (mStrL (m + 1) ν) := by
  intro m
  induction m with
  | zero =>
    intro t n dn μ ν h hd hl
    obtain ⟨p, hp1, hp2, e1, e2, hT, -, -⟩ := peek_eq h
    have hc : (mHere ν).1 < 0 := by rw [e2, if_neg (by omega)]; decide
    rw [mStrL, if_pos h.2.2.2.1, if_pos hc]
    refine Or.inl ⟨h.2.2.1, hT.2.2.2.1, ?_, n, dn, hd.fr (fun a q1 q2 => rfl) (mHere_j (by decide)) (mHere_j (by decide)) (fun a q1 q2 => mHere_ne (by omega))⟩
    rw [mHere_j (by decide)]
    exact h.2.2.2.2
  | succ m ih =>
    intro t n dn μ ν h hd hl
    obtain ⟨p, hp1, hp2, e1, e2, hT, -, id2⟩ := peek_eq h
    have hdp : dD n dn (sPeek μ).2 (mHere ν).2 := hd.fr (fun a q1 q2 => sPeek_ne (by omega)) (mHere_j (by decide)) (mHere_j (by decide)) (fun a q1 q2 => mHere_ne (by omega))
    rw [sRead, mStrL, if_pos h.2.2.1, if_pos h.2.2.2.1, e1]
    by_cases hp : p < l
    · rw [if_pos hp] at e2
      have nn := (h.1.2.2.2 p hp).2
      have c1 : ¬ (mHere ν).1 = -1 := fun w => nn (by rw [← e2, w]; decide)
      have c2 : ¬ (mHere ν).1 < 0 := by rw [e2]; exact nn
      rw [if_neg c1, if_neg c2]
      rcases clause_eq (c := (mHere ν).1) hT hp hdp id2 with ⟨t', n', dn', q1, q2, q3⟩ | f
      · exact ih t' n' dn' _ _ q2 q3 (by omega)
      · rw [read_f f.nz.1, strL_f f.nz.2.2]
        exact Or.inr f
    · rw [if_neg hp] at e2
      rw [e2, if_pos rfl, if_pos (by decide)]
      exact Or.inl ⟨hT.2.2.1, hT.2.2.2.1, hT.2.2.2.2, n, dn, hdp⟩
