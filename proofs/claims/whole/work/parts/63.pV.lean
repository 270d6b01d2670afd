def dD (n dn : Nat) (μ ν : Me) : Prop := (n ≤ 7 ∧ dn ≤ 12 ∧ μ 3 3 = nI n ∧ ν 136 9 = nI n ∧ μ 3 4 = nI dn ∧ ν 136 12 = nI dn) ∧ (∃ r0 r1 r2 : Nat, (μ 3 0 = nI r0 ∧ ν 139 3 = nI r0 ∧ r0 ≤ 90) ∧ (μ 3 1 = nI r1 ∧ ν 139 4 = nI r1 ∧ r1 ≤ 99) ∧ (μ 3 2 = nI r2 ∧ ν 139 5 = nI r2 ∧ r2 ≤ 30)) ∧ (∀ s, s < n → (μ 4 s = ν 140 (7 + s) ∧ μ 5 s = ν 141 (7 + s) ∧ μ 6 s = ν 142 (7 + s) ∧ μ 7 s = ν 143 (7 + s) ∧ μ 8 s = ν 144 (7 + s)) ∧ (∃ y : Nat, y ≤ 99 ∧ ν 140 (7 + s) = nI y) ∧ ((ν 143 (7 + s) = -1 ∧ ν 144 (7 + s) = 0) ∨ ∃ j : Nat, j < n ∧ ν 143 (7 + s) = nI j)) ∧ (∀ h, h < dn → μ 9 h = ν 145 (12 + h))
theorem dD.fr {n dn : Nat} {μ μ' ν ν' : Me} (h : dD n dn μ ν) (hμ : ∀ a, 3 ≤ a → a ≤ 9 → μ' a = μ a) (e9 : ν' 136 9 = ν 136 9) (e12 : ν' 136 12 = ν 136 12) (hν : ∀ a, 139 ≤ a → a ≤ 145 → ν' a = ν a) : dD n dn μ' ν' := by
  unfold dD
  rw [hμ 3 (by omega) (by omega), hμ 4 (by omega) (by omega), hμ 5 (by omega) (by omega), hμ 6 (by omega) (by omega), hμ 7 (by omega) (by omega), hμ 8 (by omega) (by omega), hμ 9 (by omega) (by omega), e9, e12, hν 139 (by omega) (by omega), hν 140 (by omega) (by omega), hν 141 (by omega) (by omega), hν 142 (by omega) (by omega), hν 143 (by omega) (by omega), hν 144 (by omega) (by omega), hν 145 (by omega) (by omega)]
  exact h
def CO (l t : Nat) (μ ν : Me) : Prop := (∃ t' n dn : Nat, t ≤ t' ∧ TX l t' μ ν ∧ dD n dn μ ν) ∨ FR μ ν
theorem CO.mono {l t t0 : Nat} {μ ν : Me} (h : CO l t μ ν) (ht : t0 ≤ t) : CO l t0 μ ν := by
  rcases h with ⟨t', n, dn, q, r⟩ | f
  · exact Or.inl ⟨t', n, dn, by omega, r⟩
  · exact Or.inr f
def mFin (ν : Me) : Me := if ν 136 17 = 0 then mEndC ν else ν
theorem kM.fin {ν : Me} (h : ¬ ν 136 17 ≤ 0) : mFin ν = ν := by unfold mFin; rw [if_neg (fun w => h (by rw [w]; decide))]
theorem FR.fin {μ ν : Me} (h : FR μ ν) : FR μ (mFin ν) := by rw [kM.fin h.nz.2.1]; exact h
theorem mEndC_ne {ν : Me} {i : Nat} (h : i ≠ 136) : mEndC ν i = ν i := by
  unfold mEndC
  split
  · unfold mInc; rw [mu_ne h, mWant_ne h, mHere_ne h]
  · rw [mWant_ne h, mHere_ne h]
theorem mEndC_j {ν : Me} {j : Nat} (h1 : j ≠ 15) (h2 : j ≠ 17) (h3 : j ≠ 18) : mEndC ν 136 j = ν 136 j := by
  unfold mEndC
  split
  · unfold mInc; rw [mu_nj h1, mWant_j h2 h3, mHere_j h1]
  · rw [mWant_j h2 h3, mHere_j h1]
theorem CO.fin {l t n dn : Nat} {μ ν : Me} (h : TX l t μ ν) (hd : dD n dn μ ν) : CO l (t + 1) (sEnd μ) (mFin ν) := by
  unfold mFin
  rw [if_pos h.2.2.2.1]
  rcases end_eq h with ⟨t', q, hT⟩ | f
  · exact Or.inl ⟨t', n, dn, q, hT, hd.fr (fun a q1 q2 => sEnd_ne (by omega)) (mEndC_j (by decide) (by decide) (by decide)) (mEndC_j (by decide) (by decide) (by decide)) (fun a q1 q2 => mEndC_ne (by omega))⟩
  · exact Or.inr f
theorem kF.numTo {μ : Me} {j : Nat} {lo hi : Int32} : kF μ (sNumTo μ j lo hi) := kF.num.trans (kF.set (fun q => absurd q (by decide)))
theorem kM.inTo {ν : Me} {a j : Nat} {lo hi : Int32} (h : a ≠ 136) : kM ν (mInTo ν a j lo hi) := kM.inn.trans (kM.set (fun q => absurd q h))
theorem mu_cg {μ μ' : Me} {a j s : Nat} {x : Int32} (h : μ a s = μ' a s) : mu μ a j x a s = mu μ' a j x a s := by rw [mu_at μ, mu_at μ', h]
theorem num_st {l t : Nat} {μ ν : Me} {lo hi : Int32} (h : TX l t μ ν) : ∃ (v v' : Int32) (M N : Me), sNum μ lo hi = (v, M) ∧ mIn ν lo hi = (v', N) ∧ (∀ a, a ≠ 1 → M a = μ a) ∧ (∀ a, a ≠ 136 → N a = ν a) ∧ (∀ j, j ≠ 17 → j ≠ 18 → j ≠ 15 → j ≠ 16 → N 136 j = ν 136 j) ∧ ((v' = v ∧ sWithin v lo hi = true ∧ M 1 5 = N 136 16 ∧ ∃ t', t ≤ t' ∧ TX l t' M N) ∨ (v = -1 ∧ FR M N)) := by
  refine ⟨(sNum μ lo hi).1, (mIn ν lo hi).1, (sNum μ lo hi).2, (mIn ν lo hi).2, rfl, rfl, fun a q => sNum_ne q, fun a q => mIn_ne q, fun j q1 q2 q3 q4 => mIn_j q1 q2 q3 q4, ?_⟩
  rcases num_eq (lo := lo) (hi := hi) h with ⟨q1, q2, q3, q4⟩ | q
  · exact Or.inl ⟨q1.symm, by rw [q1]; exact q2, q3, q4⟩
  · exact Or.inr q
theorem van_eq {l t n dn : Nat} {μ ν : Me} (h : TX l t μ ν) (ht : t < l) (hd : dD n dn μ ν) : CO l (t + 1) (sVanB μ) (mFin (mRuleB (mInc ν))) := by
  have hT1 := h.inc ht
  have m1 : ∀ a, a ≠ 1 → sInc μ a = μ a := fun a q => sInc_ne q
  have k1 : ∀ a, a ≠ 136 → mInc ν a = ν a := fun a q => mu_ne q
  have k2 : ∀ j, j ≠ 15 → mInc ν 136 j = ν 136 j := fun j q => mu_nj q
  unfold sVanB mRuleB sNumTo
  generalize sInc μ = A at hT1 m1 ⊢
  generalize mInc ν = B at hT1 k1 k2 ⊢
  obtain ⟨v1, v1', M1, N1, e1, e1', a1, b1, c1, H1⟩ := num_st (lo := 1) (hi := 90) hT1
  rw [e1, e1']
  dsimp only
  rcases H1 with ⟨ev, w1, -, t1, ht1, T1⟩ | ⟨-, f⟩
  · subst ev
    have T1' : TX l t1 (mu M1 3 0 v1') N1 := T1.c (by decide) (fun q => absurd q (by decide))
    obtain ⟨v2, v2', M2, N2, e2, e2', a2, b2, c2, H2⟩ := num_st (lo := 0) (hi := 99) T1'
    rw [e2, e2']
    dsimp only
    rcases H2 with ⟨ev, w2, -, t2, ht2, T2⟩ | ⟨-, f⟩
    · subst ev
      have T2' : TX l t2 (mu M2 3 1 v2') (mu N2 139 4 v2') := (T2.c (by decide) (fun q => absurd q (by decide))).m (by decide) (fun q => absurd q (by decide))
      obtain ⟨v3, v3', M3, N3, e3, e3', a3, b3, c3, H3⟩ := num_st (lo := 1) (hi := 30) T2'
      rw [e3, e3']
      dsimp only
      rcases H3 with ⟨ev, w3, -, t3, ht3, T3⟩ | ⟨-, f⟩
      · subst ev
        have T3' : TX l t3 (mu M3 3 2 v3') (mu (mu N3 139 5 v3') 139 3 v1') := ((T3.c (by decide) (fun q => absurd q (by decide))).m (by decide) (fun q => absurd q (by decide))).m (by decide) (fun q => absurd q (by decide))
        refine (CO.fin (n := n) (dn := dn) T3' ?_).mono (by omega)
        obtain ⟨x1, -, hx1, rfl⟩ := win_j (a := 1) (b := 90) (by omega) w1 (by omega)
        obtain ⟨x2, -, hx2, rfl⟩ := win_j (a := 0) (b := 99) (by omega) w2 (by omega)
        obtain ⟨x3, -, hx3, rfl⟩ := win_j (a := 1) (b := 30) (by omega) w3 (by omega)
        have R : ∀ j, j ≠ 0 → j ≠ 1 → j ≠ 2 → mu M3 3 2 (nI x3) 3 j = μ 3 j := fun j q0 q1 q2 => by rw [mu_nj q2, a3 3 (by decide), mu_nj q1, a2 3 (by decide), mu_nj q0, a1 3 (by decide), m1 3 (by decide)]
        have R' : ∀ a, a ≠ 1 → a ≠ 3 → mu M3 3 2 (nI x3) a = μ a := fun a q1 q3 => by rw [mu_ne q3, a3 a q1, mu_ne q3, a2 a q1, mu_ne q3, a1 a q1, m1 a q1]
        have S : ∀ a, a ≠ 136 → a ≠ 139 → mu (mu N3 139 5 (nI x3)) 139 3 (nI x1) a = ν a := fun a q1 q3 => by rw [mu_ne q3, mu_ne q3, b3 a q1, mu_ne q3, b2 a q1, b1 a q1, k1 a q1]
        have S' : ∀ j, j ≠ 17 → j ≠ 18 → j ≠ 15 → j ≠ 16 → mu (mu N3 139 5 (nI x3)) 139 3 (nI x1) 136 j = ν 136 j := fun j q1 q2 q3 q4 => by rw [mu_ne (by decide), mu_ne (by decide), c3 j q1 q2 q3 q4, mu_ne (by decide), c2 j q1 q2 q3 q4, c1 j q1 q2 q3 q4, k2 j q3]
        obtain ⟨⟨g1, g2, g3, g4, g5, g6⟩, -, g8, g9⟩ := hd
        refine ⟨⟨g1, g2, ?_, ?_, ?_, ?_⟩, ⟨x1, x2, x3, ⟨?_, mu_same _ _ _ _, hx1⟩, ⟨?_, ?_, hx2⟩, mu_same _ _ _ _, ?_, hx3⟩, ?_, ?_⟩
        · rw [R 3 (by decide) (by decide) (by decide)]; exact g3
        · rw [S' 9 (by decide) (by decide) (by decide) (by decide)]; exact g4
        · rw [R 4 (by decide) (by decide) (by decide)]; exact g5
        · rw [S' 12 (by decide) (by decide) (by decide) (by decide)]; exact g6
        · rw [mu_nj (by decide), a3 3 (by decide), mu_nj (by decide), a2 3 (by decide), mu_same]
        · rw [mu_nj (by decide), a3 3 (by decide), mu_same]
        · rw [mu_nj (by decide), mu_nj (by decide), b3 139 (by decide), mu_same]
        · rw [mu_nj (by decide), mu_same]
        · rw [R' 4 (by decide) (by decide), R' 5 (by decide) (by decide), R' 6 (by decide) (by decide), R' 7 (by decide) (by decide), R' 8 (by decide) (by decide), S 140 (by decide) (by decide), S 141 (by decide) (by decide), S 142 (by decide) (by decide), S 143 (by decide) (by decide), S 144 (by decide) (by decide)]; exact g8
        · rw [R' 9 (by decide) (by decide), S 145 (by decide) (by decide)]; exact g9
      · refine Or.inr (FR.fin (f.keep ?_ ?_))
        · exact (kF.set (fun q => absurd q (by decide))).trans kF.endc
        · exact (kM.set (fun q => absurd q (by decide))).trans (kM.set (fun q => absurd q (by decide)))
    · refine Or.inr (FR.fin (f.keep ?_ ?_))
      · exact ((kF.set (fun q => absurd q (by decide))).trans kF.numTo).trans kF.endc
      · exact (((kM.set (fun q => absurd q (by decide))).trans kM.inn).trans (kM.set (fun q => absurd q (by decide)))).trans (kM.set (fun q => absurd q (by decide)))
  · refine Or.inr (FR.fin (f.keep ?_ ?_))
    · exact (((kF.set (fun q => absurd q (by decide))).trans kF.numTo).trans kF.numTo).trans kF.endc
    · exact ((((kM.inn).trans (kM.set (fun q => absurd q (by decide)))).trans kM.inn).trans (kM.set (fun q => absurd q (by decide)))).trans (kM.set (fun q => absurd q (by decide)))
theorem kF.addStop {μ : Me} {n : Nat} {x i b : Int32} : kF μ (sAddStop μ 3 n x i b) := by
  unfold sAddStop
  split
  · exact (((((kF.set (fun q => absurd q (by decide))).trans (kF.set (fun q => absurd q (by decide)))).trans (kF.set (fun q => absurd q (by decide)))).trans (kF.set (fun q => absurd q (by decide)))).trans (kF.set (fun q => absurd q (by decide)))).trans (kF.set (fun q => absurd q (by decide)))
  · exact kF.rfl' _
theorem kF.addDin {μ : Me} {n : Nat} {x : Int32} : kF μ (sAddDin μ 3 n x) := by
  unfold sAddDin
  split
  · exact (kF.set (fun q => absurd q (by decide))).trans (kF.set (fun q => absurd q (by decide)))
  · exact kF.rfl' _
theorem kF.stopB {μ : Me} : kF μ (sStopB μ) := by
  unfold sStopB
  dsimp only
  exact ((((kF.inc.trans kF.num).trans kF.num).trans kF.num).trans kF.endc).trans kF.addStop
theorem kF.vanB {μ : Me} : kF μ (sVanB μ) := (((kF.inc.trans kF.numTo).trans kF.numTo).trans kF.numTo).trans kF.endc
theorem stop_eq {l t n dn : Nat} {μ ν : Me} (h : TX l t μ ν) (ht : t < l) (hd : dD n dn μ ν) (hn : n < 7) : CO l (t + 1) (sStopB μ) (mFin (mStopB (mInc ν) n)) := by
  have hT1 := h.inc ht
  have m1 : ∀ a, a ≠ 1 → sInc μ a = μ a := fun a q => sInc_ne q
  have k1 : ∀ a, a ≠ 136 → mInc ν a = ν a := fun a q => mu_ne q
  have k2 : ∀ j, j ≠ 15 → mInc ν 136 j = ν 136 j := fun j q => mu_nj q
  have hnO : nOf μ = n := by unfold nOf; rw [hd.1.2.2.1, cl_nI (by omega)]
  unfold sStopB mStopB mInTo
  dsimp only
  rw [hnO]
  generalize sInc μ = A at hT1 m1 ⊢
  generalize mInc ν = B at hT1 k1 k2 ⊢
  obtain ⟨v1, v1', M1, N1, e1, e1', a1, b1, c1, H1⟩ := num_st (lo := 0) (hi := 99) hT1
  rw [e1, e1']
  dsimp only
  rcases H1 with ⟨ev, w1, -, t1, ht1, T1⟩ | ⟨-, f⟩
  · subst ev
    have T1' : TX l t1 M1 (mu N1 140 (7 + n) v1') := T1.m (by decide) (fun q => absurd q (by decide))
    obtain ⟨v2, v2', M2, N2, e2, e2', a2, b2, c2, H2⟩ := num_st (lo := 0) (hi := 4095) T1'
    rw [e2, e2']
    dsimp only
    rcases H2 with ⟨ev, w2, -, t2, ht2, T2⟩ | ⟨-, f⟩
    · subst ev
      have T2' : TX l t2 M2 (mu N2 141 (7 + n) v2') := T2.m (by decide) (fun q => absurd q (by decide))
      obtain ⟨v3, v3', M3, N3, e3, e3', a3, b3, c3, H3⟩ := num_st (lo := 0) (hi := 9) T2'
      rw [e3, e3']
      dsimp only
      rcases H3 with ⟨ev, w3, -, t3, ht3, T3⟩ | ⟨-, f⟩
      · subst ev
        have T3' : TX l t3 M3 (mu (mu (mu (mu N3 142 (7 + n) v3') 143 (7 + n) (-1)) 144 (7 + n) 0) 136 9 (nI (n + 1))) := (((T3.m (by decide) (fun q => absurd q (by decide))).m (by decide) (fun q => absurd q (by decide))).m (by decide) (fun q => absurd q (by decide))).m (by decide) (fun _ => Or.inr (Or.inl rfl))
        unfold mFin
        rw [if_pos T3'.2.2.2.1]
        obtain ⟨x1, -, hx1, ex1⟩ := win_j (a := 0) (b := 99) (by omega) w1 (by omega)
        have R : ∀ a, a ≠ 1 → sEnd M3 a = μ a := fun a q => by rw [sEnd_ne q, a3 a q, a2 a q, a1 a q, m1 a q]
        have S : ∀ a, a ≠ 136 → (a < 140 ∨ 144 < a) → mEndC (mu (mu (mu (mu N3 142 (7 + n) v3') 143 (7 + n) (-1)) 144 (7 + n) 0) 136 9 (nI (n + 1))) a = ν a := fun a q1 q2 => by rw [mEndC_ne q1, mu_ne q1, mu_ne (by omega), mu_ne (by omega), mu_ne (by omega), b3 a q1, mu_ne (by omega), b2 a q1, mu_ne (by omega), b1 a q1, k1 a q1]
        have s140 : ∀ s, mEndC (mu (mu (mu (mu N3 142 (7 + n) v3') 143 (7 + n) (-1)) 144 (7 + n) 0) 136 9 (nI (n + 1))) 140 s = mu ν 140 (7 + n) v1' 140 s := fun s => by
          rw [mEndC_ne (by decide), mu_ne (by decide), mu_ne (by decide), mu_ne (by decide), mu_ne (by decide), b3 140 (by decide), mu_ne (by decide), b2 140 (by decide), mu_at, mu_at, b1 140 (by decide), k1 140 (by decide)]
        have s141 : ∀ s, mEndC (mu (mu (mu (mu N3 142 (7 + n) v3') 143 (7 + n) (-1)) 144 (7 + n) 0) 136 9 (nI (n + 1))) 141 s = mu ν 141 (7 + n) v2' 141 s := fun s => by
          rw [mEndC_ne (by decide), mu_ne (by decide), mu_ne (by decide), mu_ne (by decide), mu_ne (by decide), b3 141 (by decide), mu_at, mu_at, b2 141 (by decide), mu_ne (by decide), b1 141 (by decide), k1 141 (by decide)]
        have s142 : ∀ s, mEndC (mu (mu (mu (mu N3 142 (7 + n) v3') 143 (7 + n) (-1)) 144 (7 + n) 0) 136 9 (nI (n + 1))) 142 s = mu ν 142 (7 + n) v3' 142 s := fun s => by
          rw [mEndC_ne (by decide), mu_ne (by decide), mu_ne (by decide), mu_ne (by decide), mu_at, mu_at, b3 142 (by decide), mu_ne (by decide), b2 142 (by decide), mu_ne (by decide), b1 142 (by decide), k1 142 (by decide)]
        have s143 : ∀ s, mEndC (mu (mu (mu (mu N3 142 (7 + n) v3') 143 (7 + n) (-1)) 144 (7 + n) 0) 136 9 (nI (n + 1))) 143 s = mu ν 143 (7 + n) (-1) 143 s := fun s => by
          rw [mEndC_ne (by decide), mu_ne (by decide), mu_ne (by decide)]
          exact mu_cg (by rw [mu_ne (by decide), b3 143 (by decide), mu_ne (by decide), b2 143 (by decide), mu_ne (by decide), b1 143 (by decide), k1 143 (by decide)])
        have s144 : ∀ s, mEndC (mu (mu (mu (mu N3 142 (7 + n) v3') 143 (7 + n) (-1)) 144 (7 + n) 0) 136 9 (nI (n + 1))) 144 s = mu ν 144 (7 + n) 0 144 s := fun s => by
          rw [mEndC_ne (by decide), mu_ne (by decide)]
          exact mu_cg (by rw [mu_ne (by decide), mu_ne (by decide), b3 144 (by decide), mu_ne (by decide), b2 144 (by decide), mu_ne (by decide), b1 144 (by decide), k1 144 (by decide)])
        have s9 : mEndC (mu (mu (mu (mu N3 142 (7 + n) v3') 143 (7 + n) (-1)) 144 (7 + n) 0) 136 9 (nI (n + 1))) 136 9 = nI (n + 1) := by rw [mEndC_j (by decide) (by decide) (by decide), mu_same]
        have s12 : mEndC (mu (mu (mu (mu N3 142 (7 + n) v3') 143 (7 + n) (-1)) 144 (7 + n) 0) 136 9 (nI (n + 1))) 136 12 = ν 136 12 := by rw [mEndC_j (by decide) (by decide) (by decide), mu_nj (by decide), mu_ne (by decide), mu_ne (by decide), mu_ne (by decide), c3 12 (by decide) (by decide) (by decide) (by decide), mu_ne (by decide), c2 12 (by decide) (by decide) (by decide) (by decide), mu_ne (by decide), c1 12 (by decide) (by decide) (by decide) (by decide), k2 12 (by decide)]
        rcases end_eq T3' with ⟨t', q, hT⟩ | f
        · left
          generalize mEndC (mu (mu (mu (mu N3 142 (7 + n) v3') 143 (7 + n) (-1)) 144 (7 + n) 0) 136 9 (nI (n + 1))) = Z at S s140 s141 s142 s143 s144 s9 s12 hT ⊢
          generalize sEnd M3 = Y at R hT ⊢
          unfold sAddStop
          rw [if_pos hn]
          refine ⟨t', n + 1, dn, by omega, (((((hT.c (by decide) (fun q => absurd q (by decide))).c (by decide) (fun q => absurd q (by decide))).c (by decide) (fun q => absurd q (by decide))).c (by decide) (fun q => absurd q (by decide))).c (by decide) (fun q => absurd q (by decide))).c (by decide) (fun q => absurd q (by decide)), ?_⟩
          obtain ⟨⟨g1, g2, g3, g4, g5, g6⟩, ⟨r0, r1, r2, ⟨i1, i2, i3⟩, ⟨i4, i5, i6⟩, i7, i8, i9⟩, g8, g9⟩ := hd
          have y3 : ∀ j, j ≠ 3 → mu (mu (mu (mu (mu (mu Y (3 + 1) n v1') (3 + 2) n v2') (3 + 3) n v3') (3 + 4) n (-1)) (3 + 5) n 0) 3 3 (nI (n + 1)) 3 j = μ 3 j := fun j q => by rw [mu_nj q, mu_ne (by decide), mu_ne (by decide), mu_ne (by decide), mu_ne (by decide), mu_ne (by decide), R 3 (by decide)]
          refine ⟨⟨by omega, g2, mu_same _ _ _ _, s9, ?_, ?_⟩, ⟨r0, r1, r2, ⟨?_, ?_, i3⟩, ⟨?_, ?_, i6⟩, ?_, ?_, i9⟩, ?_, ?_⟩
          · rw [y3 4 (by decide)]; exact g5
          · rw [s12]; exact g6
          · rw [y3 0 (by decide)]; exact i1
          · rw [S 139 (by decide) (by omega)]; exact i2
          · rw [y3 1 (by decide)]; exact i4
          · rw [S 139 (by decide) (by omega)]; exact i5
          · rw [y3 2 (by decide)]; exact i7
          · rw [S 139 (by decide) (by omega)]; exact i8
          · intro s hs
            have y4 : mu (mu (mu (mu (mu (mu Y (3 + 1) n v1') (3 + 2) n v2') (3 + 3) n v3') (3 + 4) n (-1)) (3 + 5) n 0) 3 3 (nI (n + 1)) 4 s = mu μ 4 n v1' 4 s := by
              rw [mu_ne (by decide), mu_ne (by decide), mu_ne (by decide), mu_ne (by decide), mu_ne (by decide), mu_at, mu_at, R 4 (by decide)]
            have y5 : mu (mu (mu (mu (mu (mu Y (3 + 1) n v1') (3 + 2) n v2') (3 + 3) n v3') (3 + 4) n (-1)) (3 + 5) n 0) 3 3 (nI (n + 1)) 5 s = mu μ 5 n v2' 5 s := by
              rw [mu_ne (by decide), mu_ne (by decide), mu_ne (by decide), mu_ne (by decide)]
              exact mu_cg (by rw [mu_ne (by decide), R 5 (by decide)])
            have y6 : mu (mu (mu (mu (mu (mu Y (3 + 1) n v1') (3 + 2) n v2') (3 + 3) n v3') (3 + 4) n (-1)) (3 + 5) n 0) 3 3 (nI (n + 1)) 6 s = mu μ 6 n v3' 6 s := by
              rw [mu_ne (by decide), mu_ne (by decide), mu_ne (by decide)]
              exact mu_cg (by rw [mu_ne (by decide), mu_ne (by decide), R 6 (by decide)])
            have y7 : mu (mu (mu (mu (mu (mu Y (3 + 1) n v1') (3 + 2) n v2') (3 + 3) n v3') (3 + 4) n (-1)) (3 + 5) n 0) 3 3 (nI (n + 1)) 7 s = mu μ 7 n (-1) 7 s := by
              rw [mu_ne (by decide), mu_ne (by decide)]
              exact mu_cg (by rw [mu_ne (by decide), mu_ne (by decide), mu_ne (by decide), R 7 (by decide)])
            have y8 : mu (mu (mu (mu (mu (mu Y (3 + 1) n v1') (3 + 2) n v2') (3 + 3) n v3') (3 + 4) n (-1)) (3 + 5) n 0) 3 3 (nI (n + 1)) 8 s = mu μ 8 n 0 8 s := by
              rw [mu_ne (by decide)]
              exact mu_cg (by rw [mu_ne (by decide), mu_ne (by decide), mu_ne (by decide), mu_ne (by decide), R 8 (by decide)])
            rw [y4, y5, y6, y7, y8, s140, s141, s142, s143, s144]
            by_cases e : s = n
            · subst e
              rw [mu_same, mu_same, mu_same, mu_same, mu_same, mu_same, mu_same, mu_same, mu_same, mu_same]
              exact ⟨⟨rfl, rfl, rfl, rfl, rfl⟩, ⟨x1, hx1, ex1⟩, Or.inl ⟨rfl, rfl⟩⟩
            · rw [mu_nj e, mu_nj e, mu_nj e, mu_nj e, mu_nj e, mu_nj (by omega), mu_nj (by omega), mu_nj (by omega), mu_nj (by omega), mu_nj (by omega)]
              obtain ⟨j1, j2, j3⟩ := g8 s (by omega)
              refine ⟨j1, j2, ?_⟩
              rcases j3 with j3 | ⟨j, hj, j3⟩
              · exact Or.inl j3
              · exact Or.inr ⟨j, by omega, j3⟩
          · intro h hh
            rw [S 145 (by decide) (by omega), mu_ne (by decide), mu_ne (by decide), mu_ne (by decide), mu_ne (by decide), mu_ne (by decide), mu_ne (by decide), R 9 (by decide)]
            exact g9 h hh
        · exact Or.inr (f.keep kF.addStop (kM.rfl' _))
      · refine Or.inr (FR.fin (f.keep ?_ ?_))
        · exact kF.endc.trans kF.addStop
        · exact (((kM.set (fun q => absurd q (by decide))).trans (kM.set (fun q => absurd q (by decide)))).trans (kM.set (fun q => absurd q (by decide)))).trans (kM.set (fun _ => ⟨by decide, by decide⟩))
    · refine Or.inr (FR.fin (f.keep ?_ ?_))
      · exact (kF.num.trans kF.endc).trans kF.addStop
      · exact (((((kM.set (fun q => absurd q (by decide))).trans kM.inn).trans (kM.set (fun q => absurd q (by decide)))).trans (kM.set (fun q => absurd q (by decide)))).trans (kM.set (fun q => absurd q (by decide)))).trans (kM.set (fun _ => ⟨by decide, by decide⟩))
  · refine Or.inr (FR.fin (f.keep ?_ ?_))
    · exact ((kF.num.trans kF.num).trans kF.endc).trans kF.addStop
    · exact (((((((kM.set (fun q => absurd q (by decide))).trans kM.inn).trans (kM.set (fun q => absurd q (by decide)))).trans kM.inn).trans (kM.set (fun q => absurd q (by decide)))).trans (kM.set (fun q => absurd q (by decide)))).trans (kM.set (fun q => absurd q (by decide)))).trans (kM.set (fun _ => ⟨by decide, by decide⟩))
