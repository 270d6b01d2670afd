theorem mWant_f (ν : Me) (k w : Int32) : mWant ν false k w = mFail ν k w := rfl
theorem FR.fail {μ ν : Me} {w w' : Int32} (k : Nat) (hk1 : 1 ≤ k) (hk : k ≤ 4) (h1 : μ 1 2 = 0) (h2 : ν 136 17 = 0) (hw : w = w') : FR (sFail μ (nI k) w) (mFail ν (nI k) w') := by
  subst hw
  unfold sFail mFail
  rw [if_pos h1, if_pos h2]
  refine ⟨k, hk1, hk, ?_, ?_, ?_⟩
  · rw [mu_nj (by decide), mu_same]
  · rw [mu_nj (by decide), mu_same]
  · rw [mu_same, mu_same]
theorem FR.nz {μ ν : Me} (h : FR μ ν) : ¬ μ 1 2 = 0 ∧ ¬ ν 136 17 ≤ 0 ∧ ¬ ν 136 17 = 0 := by
  obtain ⟨k, k1, k4, e1, e2, -⟩ := h
  rw [e1, e2]
  exact ⟨nI_ne0 k1 (by omega), nI_nle k1 (by omega), nI_ne0 k1 (by omega)⟩
theorem okB_f {ν : Me} (h : ¬ ν 136 17 = 0) : mOkB ν = false := by unfold mOkB; exact decide_eq_false h
theorem okB_t {ν : Me} (h : ν 136 17 = 0) : mOkB ν = true := by unfold mOkB; exact decide_eq_true h
def kF (μ μ' : Me) : Prop := ¬ μ 1 2 = 0 → μ' 1 2 = μ 1 2 ∧ μ' 1 3 = μ 1 3
def kM (ν ν' : Me) : Prop := ¬ ν 136 17 ≤ 0 → ν' 136 17 = ν 136 17 ∧ ν' 136 18 = ν 136 18
theorem FR.keep {μ μ' ν ν' : Me} (h : FR μ ν) (h1 : kF μ μ') (h2 : kM ν ν') : FR μ' ν' := by
  obtain ⟨z1, z2, -⟩ := h.nz
  obtain ⟨a1, a2⟩ := h1 z1
  obtain ⟨b1, b2⟩ := h2 z2
  obtain ⟨k, k1, k4, e1, e2, e3⟩ := h
  exact ⟨k, k1, k4, a1.trans e1, b1.trans e2, by rw [a2, b2]; exact e3⟩
theorem kF.rfl' (μ : Me) : kF μ μ := fun _ => ⟨rfl, rfl⟩
theorem kM.rfl' (ν : Me) : kM ν ν := fun _ => ⟨rfl, rfl⟩
theorem kF.trans {a b c : Me} (h1 : kF a b) (h2 : kF b c) : kF a c := fun q => by
  obtain ⟨e1, e2⟩ := h1 q
  obtain ⟨f1, f2⟩ := h2 (by rw [e1]; exact q)
  exact ⟨f1.trans e1, f2.trans e2⟩
theorem kM.trans {a b c : Me} (h1 : kM a b) (h2 : kM b c) : kM a c := fun q => by
  obtain ⟨e1, e2⟩ := h1 q
  obtain ⟨f1, f2⟩ := h2 (by rw [e1]; exact q)
  exact ⟨f1.trans e1, f2.trans e2⟩
theorem kF.set {μ : Me} {a j : Nat} {x : Int32} (h : a = 1 → j ≠ 2 ∧ j ≠ 3) : kF μ (mu μ a j x) := fun _ => ⟨mu_oth (fun q => by have := h q.symm; omega), mu_oth (fun q => by have := h q.symm; omega)⟩
theorem kM.set {ν : Me} {a j : Nat} {x : Int32} (h : a = 136 → j ≠ 17 ∧ j ≠ 18) : kM ν (mu ν a j x) := fun _ => ⟨mu_oth (fun q => by have := h q.symm; omega), mu_oth (fun q => by have := h q.symm; omega)⟩
theorem kF.fail {μ : Me} {k w : Int32} : kF μ (sFail μ k w) := fun q => by unfold sFail; rw [if_neg q]; exact ⟨rfl, rfl⟩
theorem kM.fail {ν : Me} {k w : Int32} : kM ν (mFail ν k w) := fun q => by
  unfold mFail
  rw [if_neg (fun w => q (by rw [w]; decide))]; exact ⟨rfl, rfl⟩
theorem kM.want {ν : Me} {g : Bool} {k w : Int32} : kM ν (mWant ν g k w) := by
  cases g with
  | true => exact kM.rfl' ν
  | false => exact kM.fail
theorem kF.peek {μ : Me} : kF μ (sPeek μ).2 := kF.set (fun _ => ⟨by decide, by decide⟩)
theorem kM.here {ν : Me} : kM ν (mHere ν).2 := kM.set (fun _ => ⟨by decide, by decide⟩)
theorem kF.numB {μ : Me} {lo hi : Int32} : kF μ (sNumB μ lo hi).2 := fun q => by unfold sNumB; rw [if_neg q]; exact ⟨rfl, rfl⟩
theorem kF.num {μ : Me} {lo hi : Int32} : kF μ (sNum μ lo hi).2 := by
  unfold sNum
  split
  · exact kF.peek.trans kF.numB
  · exact (kF.peek.trans kF.fail).trans kF.numB
theorem kF.inc {μ : Me} : kF μ (sInc μ) := kF.set (fun _ => ⟨by decide, by decide⟩)
theorem kM.inc {ν : Me} : kM ν (mInc ν) := kM.set (fun _ => ⟨by decide, by decide⟩)
theorem kF.endc {μ : Me} : kF μ (sEnd μ) := by
  unfold sEnd
  dsimp only
  split
  · exact kF.peek.trans (kF.set (fun _ => ⟨by decide, by decide⟩))
  · exact (kF.peek.trans kF.fail).trans (kF.set (fun _ => ⟨by decide, by decide⟩))
theorem kM.num {ν : Me} : kM ν (mNum ν).2 := fun q => by unfold mNum; rw [if_neg q]; exact ⟨rfl, rfl⟩
theorem kM.inn {ν : Me} {lo hi : Int32} : kM ν (mIn ν lo hi).2 := kM.num.trans kM.want
theorem inM_f {ν : Me} {v lo hi : Int32} (h : ¬ ν 136 17 ≤ 0) : mInM ν v lo hi = ν := by unfold mInM; rw [if_neg h]; rfl
theorem num_eq {l t : Nat} {μ ν : Me} {lo hi : Int32} (h : TX l t μ ν) : ((sNum μ lo hi).1 = (mIn ν lo hi).1 ∧ sWithin (mIn ν lo hi).1 lo hi = true ∧ (sNum μ lo hi).2 1 5 = (mIn ν lo hi).2 136 16 ∧ ∃ t', t ≤ t' ∧ TX l t' (sNum μ lo hi).2 (mIn ν lo hi).2) ∨ ((sNum μ lo hi).1 = -1 ∧ FR (sNum μ lo hi).2 (mIn ν lo hi).2) := by
  obtain ⟨p, hp1, hp2, e1, -, hT, -, -⟩ := peek_eq h
  have hz : ν 136 17 ≤ 0 := by rw [h.2.2.2.1]; decide
  unfold sNum mIn mNum mNumA
  rw [if_pos hz, e1]
  generalize (mHere ν).1 = c
  generalize (sPeek μ).2 = M at hT ⊢
  generalize (mHere ν).2 = N at hT ⊢
  have hl := hT.1.1
  have m4 := hT.2.1.1
  have n15 := hT.2.1.2.1
  have m2 := hT.2.2.1
  have n17 := hT.2.2.2.1
  have hA : TX l p M (mu N 136 16 (N 136 15)) := hT.m (by decide) (fun _ => Or.inl rfl)
  have a15 : mu N 136 16 (N 136 15) 136 15 = nI p := by rw [mu_nj (by decide)]; exact n15
  have a16 : mu N 136 16 (N 136 15) 136 16 = nI p := by rw [mu_same]; exact n15
  generalize mu N 136 16 (N 136 15) = A at hA a15 a16 ⊢
  have a17 := hA.2.2.2.1
  cases hc : sIsFig c with
  | false =>
    right
    rw [if_neg (by decide), mWant_f]
    have f := FR.fail 1 (Nat.le_refl _) (by omega) m2 a17 (m4.trans a15.symm)
    have f' : FR (sFail M 1 (M 1 4)) (mFail A 1 (A 136 15)) := f
    obtain ⟨z1, z2, z3⟩ := f'.nz
    have eN : mNumB (mFail A 1 (A 136 15)) = (0, mFail A 1 (A 136 15)) := by unfold mNumB; rw [okB_f z3]; rfl
    rw [eN]
    dsimp only
    rw [inM_f z2]
    unfold sNumB
    rw [if_neg z1]
    exact ⟨rfl, f'⟩
  | true =>
    rw [if_pos rfl, mWant_t]
    obtain ⟨l1, l2, l3, l4⟩ := hA.len
    have hD := dig_eq (fun i q => (hA.1.2.2.2 i q).1) hl (l - p) p 0 0 0 (by omega) (by omega) (fun _ => ⟨rfl, 0, rfl, by decide⟩)
    have hge := sDigm_ge (A 146) (l - p) p 0
    have hle := mDig_le (A 146) (l - p) p 0
    have eB : mNumB A = mNumE A (mDig (A 146) (l - p) p 0) := by unfold mNumB; rw [okB_t a17, l3, l4]; rfl
    have eS : sNumB M lo hi = sNumE (mu M 1 5 (nI p)) lo hi (sDig (M 2) (l - p) p 0 (nI 0)) := by unfold sNumB; rw [if_pos m2, l1, l2, m4]; rfl
    rw [eB, eS]
    generalize mDig (A 146) (l - p) p 0 = r at hD hge hle ⊢
    generalize sDig (M 2) (l - p) p 0 (nI 0) = R at hD ⊢
    obtain ⟨d1, d2, d3⟩ := hD
    rw [Nat.zero_add] at d2 d3
    unfold sNumE mNumE
    rw [d2, d1, a16, pk_sub hge]
    have hT2 : TX l r.1 (mu (mu M 1 5 (nI p)) 1 4 (nI r.1)) (mu A 136 15 (nI r.1)) := (hA.c (by decide) (fun _ => rfl)).at (by omega)
    have s5 : mu M 1 5 (nI p) 1 5 = nI p := mu_same _ _ _ _
    have t5 : mu (mu M 1 5 (nI p)) 1 4 (nI r.1) 1 5 = mu A 136 15 (nI r.1) 136 16 := by rw [mu_nj (by decide), mu_same, mu_nj (by decide), a16]
    have t16 : mu A 136 15 (nI r.1) 136 16 = nI p := by rw [mu_nj (by decide), a16]
    rw [s5]
    generalize mu (mu M 1 5 (nI p)) 1 4 (nI r.1) = M' at hT2 t5 ⊢
    generalize mu A 136 15 (nI r.1) = N' at hT2 t5 t16 ⊢
    have m2' := hT2.2.2.1
    have n17' := hT2.2.2.2.1
    have nz' : N' 136 17 ≤ 0 := by rw [n17']; decide
    have f : FR (sFail M' 2 (nI p)) (mFail N' 2 (nI p)) := FR.fail 2 (by omega) (by omega) m2' n17' rfl
    obtain ⟨z1, z2, z3⟩ := f.nz
    by_cases big : 5 ≤ r.1 - p
    · right
      rw [if_pos (show (4 : Int32) < nI (r.1 - p) from nI_lt (a := 4) (by omega) (by omega)), decide_eq_true (show (5 : Int32) ≤ nI (r.1 - p) from nI_le (a := 5) big (by omega))]
      dsimp only
      rw [show (!true) = false from rfl, mWant_f, inM_f z2]
      exact ⟨rfl, f⟩
    · rw [if_neg (show ¬ (4 : Int32) < nI (r.1 - p) from fun w => by
          have := (nI_ltI (a := 4) (b := r.1 - p) (by omega) (by omega)).mp w
          omega), decide_eq_false (show ¬ (5 : Int32) ≤ nI (r.1 - p) from fun w => by
          have := (nI_leI (a := 5) (b := r.1 - p) (by omega) (by omega)).mp w
          omega)]
      dsimp only
      rw [show (!false) = true from rfl, mWant_t, d3 (by omega)]
      have eI : mInM N' r.2 lo hi = mWant N' (sWithin r.2 lo hi) 2 (nI p) := by unfold mInM; rw [if_pos nz', t16]
      rw [eI]
      cases hwi : sWithin r.2 lo hi with
      | true =>
        left
        rw [if_pos rfl, mWant_t, if_pos nz']
        exact ⟨rfl, hwi, t5, r.1, by omega, hT2⟩
      | false =>
        right
        rw [if_neg (by decide), mWant_f]
        exact ⟨rfl, f⟩
def mEndC (ν : Me) : Me := if mOkB (mWant (mHere ν).2 (decide ((mHere ν).1 = 59)) 1 ((mHere ν).2 136 15)) then mInc (mWant (mHere ν).2 (decide ((mHere ν).1 = 59)) 1 ((mHere ν).2 136 15)) else mWant (mHere ν).2 (decide ((mHere ν).1 = 59)) 1 ((mHere ν).2 136 15)
theorem end_eq {l t : Nat} {μ ν : Me} (h : TX l t μ ν) : (∃ t', t < t' ∧ TX l t' (sEnd μ) (mEndC ν)) ∨ FR (sEnd μ) (mEndC ν) := by
  obtain ⟨p, hp1, hp2, e1, e2, hT, -, -⟩ := peek_eq h
  unfold sEnd mEndC
  rw [e1]
  by_cases c : (mHere ν).1 = 59
  · left
    rw [if_pos c, decide_eq_true c, mWant_t, okB_t hT.2.2.2.1, if_pos rfl]
    have hp : p < l := by
      apply Nat.lt_of_not_le
      intro w
      rw [if_neg (by omega)] at e2
      rw [e2] at c
      exact absurd c (by decide)
    exact ⟨p + 1, by omega, hT.inc hp⟩
  · right
    rw [if_neg c, decide_eq_false c, mWant_f]
    have f : FR (sFail (sPeek μ).2 1 ((sPeek μ).2 1 4)) (mFail (mHere ν).2 1 ((mHere ν).2 136 15)) := FR.fail 1 (by omega) (by omega) hT.2.2.1 hT.2.2.2.1 (hT.2.1.1.trans hT.2.1.2.1.symm)
    obtain ⟨z1, z2, z3⟩ := f.nz
    rw [okB_f z3, if_neg (by decide)]
    exact f.keep (kF.set (fun _ => ⟨by decide, by decide⟩)) (kM.rfl' _)
