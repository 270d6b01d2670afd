theorem kF.dinA {μ : Me} : kF μ (sDinA μ) := (kF.inc.trans kF.num).trans kF.addDin
theorem kF.dinS {μ : Me} {m : Nat} : kF μ (sDinS m μ) := by
  unfold sDinS
  split
  · exact kF.fail.trans kF.dinA
  · exact kF.dinA
theorem kF.dinL : ∀ (m k : Nat) (μ : Me), kF μ (sDinL m k μ) := by
  intro m
  induction m with
  | zero => intro k μ; exact kF.endc
  | succ m ih =>
    intro k μ
    rw [sDinL]
    split
    · exact kF.endc
    · split
      · exact (kF.peek.trans kF.dinS).trans (ih _ _)
      · exact kF.peek.trans kF.endc
theorem kF.neiC {μ : Me} {s t o : Int32} : kF μ (sNeiC μ s t o) := fun q => by unfold sNeiC; rw [if_neg q]; exact ⟨rfl, rfl⟩
theorem kF.neiB {μ : Me} {s t : Int32} : kF μ (sNeiB μ s t) := (kF.num.trans kF.endc).trans kF.neiC
theorem kF.neiA {μ : Me} {s : Int32} : kF μ (sNeiA μ s) := by
  unfold sNeiA
  dsimp only
  split
  · exact (kF.num.trans kF.fail).trans kF.neiB
  · exact kF.num.trans kF.neiB
theorem dinL_eq {l n : Nat} : ∀ (m k t : Nat) (μ ν : Me), k + m = 12 → 0 < m → TX l t μ ν → t < l → dD n k μ ν → CO l (t + 1) (sDinL m (k + 1) (sDinA μ)) (mFin (mDinL m k (mInc ν))) := by
  intro m
  induction m with
  | zero => intro k t μ ν _ h0; exact absurd h0 (Nat.lt_irrefl _)
  | succ m ih =>
    intro k t μ ν hk _ h ht hd
    have hT1 := h.inc ht
    have hdn : dnOf μ = k := by unfold dnOf; rw [hd.1.2.2.2.2.1, cl_nI (by omega)]
    have m1 : ∀ a, a ≠ 1 → sInc μ a = μ a := fun a q => sInc_ne q
    have k1 : ∀ a, a ≠ 136 → mInc ν a = ν a := fun a q => mu_ne q
    have k2 : ∀ j, j ≠ 15 → mInc ν 136 j = ν 136 j := fun j q => mu_nj q
    obtain ⟨v, v', M, N, e1, e1', a1, b1, c1, H1⟩ := num_st (lo := 0) (hi := 9) hT1
    have eX : sDinA μ = mu (mu M 9 k v) 3 4 (nI (k + 1)) := by
      unfold sDinA sAddDin
      rw [hdn, e1, if_pos (by omega)]
    have eD : mDinM (mInc ν) k = mu (mu N 145 (12 + k) v') 136 12 (nI (k + 1)) := by
      unfold mDinM mInTo
      rw [e1']
    rw [mDinL, eX, eD]
    rcases H1 with ⟨ev, w1, -, t1, ht1, T1⟩ | ⟨-, f⟩
    · subst ev
      have hTX : TX l t1 (mu (mu M 9 k v') 3 4 (nI (k + 1))) (mu (mu N 145 (12 + k) v') 136 12 (nI (k + 1))) := (((T1.c (by decide) (fun q => absurd q (by decide))).c (by decide) (fun q => absurd q (by decide))).m (by decide) (fun q => absurd q (by decide))).m (by decide) (fun _ => Or.inr (Or.inr rfl))
      have hdD : dD n (k + 1) (mu (mu M 9 k v') 3 4 (nI (k + 1))) (mu (mu N 145 (12 + k) v') 136 12 (nI (k + 1))) := by
        obtain ⟨⟨g1, g2, g3, g4, g5, g6⟩, ⟨r0, r1, r2, ⟨i1, i2, i3⟩, ⟨i4, i5, i6⟩, i7, i8, i9⟩, g8, g9⟩ := hd
        have R : ∀ a, a ≠ 1 → a ≠ 3 → a ≠ 9 → mu (mu M 9 k v') 3 4 (nI (k + 1)) a = μ a := fun a q1 q2 q3 => by rw [mu_ne q2, mu_ne q3, a1 a q1, m1 a q1]
        have R3 : ∀ j, j ≠ 4 → mu (mu M 9 k v') 3 4 (nI (k + 1)) 3 j = μ 3 j := fun j q => by rw [mu_nj q, mu_ne (by decide), a1 3 (by decide), m1 3 (by decide)]
        have S : ∀ a, a ≠ 136 → a ≠ 145 → mu (mu N 145 (12 + k) v') 136 12 (nI (k + 1)) a = ν a := fun a q1 q2 => by rw [mu_ne q1, mu_ne q2, b1 a q1, k1 a q1]
        refine ⟨⟨g1, by omega, ?_, ?_, mu_same _ _ _ _, mu_same _ _ _ _⟩, ⟨r0, r1, r2, ⟨?_, ?_, i3⟩, ⟨?_, ?_, i6⟩, ?_, ?_, i9⟩, ?_, ?_⟩
        · rw [R3 3 (by decide)]; exact g3
        · rw [mu_nj (by decide), mu_ne (by decide), c1 9 (by decide) (by decide) (by decide) (by decide), k2 9 (by decide)]; exact g4
        · rw [R3 0 (by decide)]; exact i1
        · rw [S 139 (by decide) (by decide)]; exact i2
        · rw [R3 1 (by decide)]; exact i4
        · rw [S 139 (by decide) (by decide)]; exact i5
        · rw [R3 2 (by decide)]; exact i7
        · rw [S 139 (by decide) (by decide)]; exact i8
        · rw [R 4 (by decide) (by decide) (by decide), R 5 (by decide) (by decide) (by decide), R 6 (by decide) (by decide) (by decide), R 7 (by decide) (by decide) (by decide), R 8 (by decide) (by decide) (by decide), S 140 (by decide) (by decide), S 141 (by decide) (by decide), S 142 (by decide) (by decide), S 143 (by decide) (by decide), S 144 (by decide) (by decide)]; exact g8
        · intro h hh
          rw [mu_ne (show 9 ≠ 3 by decide), mu_ne (show 145 ≠ 136 by decide)]
          by_cases e : h = k
          · subst e; rw [mu_same, mu_same]
          · rw [mu_nj e, mu_nj (by omega), a1 9 (by decide), m1 9 (by decide), b1 145 (by decide), k1 145 (by decide)]; exact g9 h (by omega)
      generalize mu (mu M 9 k v') 3 4 (nI (k + 1)) = X at hTX hdD ⊢
      generalize mu (mu N 145 (12 + k) v') 136 12 (nI (k + 1)) = D at hTX hdD ⊢
      rw [okB_t hTX.2.2.2.1, if_pos rfl, sDinL, if_neg (by omega)]
      obtain ⟨p, hp1, hp2, f1, f2, hTp, -, -⟩ := peek_eq hTX
      have hdp : dD n (k + 1) (sPeek X).2 (mHere D).2 := hdD.fr (fun a q1 q2 => sPeek_ne (by omega)) (mHere_j (by decide)) (mHere_j (by decide)) (fun a q1 q2 => mHere_ne (by omega))
      rw [f1]
      by_cases c : (mHere D).1 = 44
      · rw [if_pos c, if_pos c]
        have hp : p < l := by
          apply Nat.lt_of_not_le
          intro w
          rw [if_neg (by omega)] at f2
          rw [f2] at c
          exact absurd c (by decide)
        generalize (sPeek X).2 = Y at hTp hdp ⊢
        generalize (mHere D).2 = Z at hTp hdp ⊢
        by_cases last : k + 1 = 12
        · have f : FR (sFail Y 1 (Y 1 4)) (mFail Z 1 (Z 136 15)) := FR.fail 1 (by omega) (by omega) hTp.2.2.1 hTp.2.2.2.1 (hTp.2.1.1.trans hTp.2.1.2.1.symm)
          rw [decide_eq_false (show ¬ k + 1 < 12 by omega), mWant_f, okB_f f.nz.2.2, if_neg (by decide)]
          unfold sDinS
          rw [if_pos last]
          exact Or.inr (FR.fin (f.keep (kF.dinA.trans (kF.dinL _ _ _)) (kM.rfl' _)))
        · rw [decide_eq_true (show k + 1 < 12 by omega), mWant_t, okB_t hTp.2.2.2.1, if_pos rfl]
          unfold sDinS
          rw [if_neg last]
          exact (ih (k + 1) p Y Z (by omega) (by omega) hTp hp hdp).mono (by omega)
      · rw [if_neg c, if_neg c]
        exact (CO.fin hTp hdp).mono (by omega)
    · have f' : FR (mu (mu M 9 k v) 3 4 (nI (k + 1))) (mu (mu N 145 (12 + k) v') 136 12 (nI (k + 1))) := f.keep ((kF.set (fun q => absurd q (by decide))).trans (kF.set (fun q => absurd q (by decide)))) ((kM.set (fun q => absurd q (by decide))).trans (kM.set (fun _ => ⟨by decide, by decide⟩)))
      rw [okB_f f'.nz.2.2, if_neg (by decide)]
      exact Or.inr (FR.fin (f'.keep (kF.dinL _ _ _) (kM.rfl' _)))
theorem nei_eq {l t n dn : Nat} {μ ν : Me} (h : TX l t μ ν) (ht : t < l) (hd : dD n dn μ ν) : CO l (t + 1) (sNei μ) (mFin (mNei (mInc ν))) := by
  have hT1 := h.inc ht
  have h7 := hd.1.1
  have m1 : ∀ a, a ≠ 1 → sInc μ a = μ a := fun a q => sInc_ne q
  have k1 : ∀ a, a ≠ 136 → mInc ν a = ν a := fun a q => mu_ne q
  have k2 : ∀ j, j ≠ 15 → mInc ν 136 j = ν 136 j := fun j q => mu_nj q
  have e9 : mInc ν 136 9 = nI n := by rw [k2 9 (by decide)]; exact hd.1.2.2.2.1
  unfold sNei mNei
  rw [hd.1.2.2.1, e9]
  dsimp only
  generalize sInc μ = A at hT1 m1 ⊢
  generalize mInc ν = B at hT1 k1 k2 e9 ⊢
  obtain ⟨v1, v1', M1, N1, e1, e1', a1, b1, c1, H1⟩ := num_st (lo := 0) (hi := nI n - 1) hT1
  rw [e1, e1']
  dsimp only
  rcases H1 with ⟨ev, w1, i1, t1, ht1, T1⟩ | ⟨ev, f⟩
  · subst ev
    obtain ⟨j, hj, rfl⟩ := win_n h7 w1
    obtain ⟨⟨s4, s5, s6, s7, s8⟩, sy, sn⟩ := hd.2.2.1 j hj
    have nz1 : N1 136 17 ≤ 0 := by rw [T1.2.2.2.1]; decide
    have eN : N1 143 (7 + j) = ν 143 (7 + j) := by rw [b1 143 (by decide), k1 143 (by decide)]
    rw [has_n h7 hj, if_pos rfl, cl_nI (by omega), if_pos nz1, s7]
    by_cases c : N1 143 (7 + j) = -1
    · rw [if_pos (eN.symm.trans c), decide_eq_true c, mWant_t, okB_t T1.2.2.2.1, if_pos rfl]
      have m33 : M1 3 3 = nI n := by rw [a1 3 (by decide), m1 3 (by decide)]; exact hd.1.2.2.1
      have n9 : N1 136 9 = nI n := by rw [c1 9 (by decide) (by decide) (by decide) (by decide)]; exact e9
      unfold sNeiA mNeiB
      rw [m33, n9]
      dsimp only
      obtain ⟨v2, v2', M2, N2, e2, e2', a2, b2, c2, H2⟩ := num_st (lo := 0) (hi := nI n - 1) T1
      rw [e2, e2']
      dsimp only
      rcases H2 with ⟨ev, w2, i2, t2, ht2, T2⟩ | ⟨ev, f⟩
      · subst ev
        obtain ⟨j2, hj2, rfl⟩ := win_n h7 w2
        have nz2 : N2 136 17 ≤ 0 := by rw [T2.2.2.2.1]; decide
        rw [if_pos nz2]
        by_cases cj : (nI j2 : Int32) = nI j
        · have f : FR (sFail M2 4 (M2 1 5)) (mFail N2 4 (N2 136 16)) := FR.fail 4 (by omega) (by omega) T2.2.2.1 T2.2.2.2.1 i2
          rw [if_pos cj, decide_eq_true cj, show (!true) = false from rfl, mWant_f, okB_f f.nz.2.2, if_neg (by decide)]
          exact Or.inr (FR.fin (f.keep kF.neiB (kM.rfl' _)))
        · rw [if_neg cj, decide_eq_false cj, show (!false) = true from rfl, mWant_t, okB_t T2.2.2.2.1, if_pos rfl]
          unfold sNeiB mNeiC mInTo
          obtain ⟨v3, v3', M3, N3, e3, e3', a3, b3, c3, H3⟩ := num_st (lo := 1) (hi := 9) T2
          rw [e3, e3', cl_nI (by omega)]
          dsimp only
          rcases H3 with ⟨ev, w3, -, t3, ht3, T3⟩ | ⟨ev, f⟩
          · subst ev
            have T3' : TX l t3 M3 (mu (mu N3 144 (7 + j) v3') 143 (7 + j) (nI j2)) := (T3.m (by decide) (fun q => absurd q (by decide))).m (by decide) (fun q => absurd q (by decide))
            unfold mFin
            rw [if_pos T3'.2.2.2.1]
            have R : ∀ a, a ≠ 1 → sEnd M3 a = μ a := fun a q => by rw [sEnd_ne q, a3 a q, a2 a q, a1 a q, m1 a q]
            have S : ∀ a, a ≠ 136 → a ≠ 143 → a ≠ 144 → mEndC (mu (mu N3 144 (7 + j) v3') 143 (7 + j) (nI j2)) a = ν a := fun a q1 q2 q3 => by rw [mEndC_ne q1, mu_ne q2, mu_ne q3, b3 a q1, b2 a q1, b1 a q1, k1 a q1]
            have s143 : ∀ s, mEndC (mu (mu N3 144 (7 + j) v3') 143 (7 + j) (nI j2)) 143 s = mu ν 143 (7 + j) (nI j2) 143 s := fun s => by
              rw [mEndC_ne (by decide)]
              exact mu_cg (by rw [mu_ne (by decide), b3 143 (by decide), b2 143 (by decide), b1 143 (by decide), k1 143 (by decide)])
            have s144 : ∀ s, mEndC (mu (mu N3 144 (7 + j) v3') 143 (7 + j) (nI j2)) 144 s = mu ν 144 (7 + j) v3' 144 s := fun s => by
              rw [mEndC_ne (by decide), mu_ne (by decide)]
              exact mu_cg (by rw [b3 144 (by decide), b2 144 (by decide), b1 144 (by decide), k1 144 (by decide)])
            have z9 : ∀ i, i ≠ 17 → i ≠ 18 → i ≠ 15 → i ≠ 16 → mEndC (mu (mu N3 144 (7 + j) v3') 143 (7 + j) (nI j2)) 136 i = ν 136 i := fun i q1 q2 q3 q4 => by rw [mEndC_j q3 q1 q2, mu_ne (by decide), mu_ne (by decide), c3 i q1 q2 q3 q4, c2 i q1 q2 q3 q4, c1 i q1 q2 q3 q4, k2 i q3]
            rcases end_eq T3' with ⟨t', q, hT⟩ | f
            · left
              generalize mEndC (mu (mu N3 144 (7 + j) v3') 143 (7 + j) (nI j2)) = Z at S s143 s144 z9 hT ⊢
              generalize sEnd M3 = Y at R hT ⊢
              have y33 : Y 3 3 = nI n := by rw [R 3 (by decide)]; exact hd.1.2.2.1
              unfold sNeiC
              rw [if_pos hT.2.2.1, y33, has_n h7 hj, if_pos rfl, cl_nI (by omega)]
              refine ⟨t', n, dn, by omega, (hT.c (by decide) (fun q => absurd q (by decide))).c (by decide) (fun q => absurd q (by decide)), ?_⟩
              obtain ⟨⟨g1, g2, g3, g4, g5, g6⟩, ⟨r0, r1, r2, ⟨i1, i2, i3⟩, ⟨i4, i5, i6⟩, i7, i8, i9⟩, g8, g9⟩ := hd
              have R' : ∀ a, a ≠ 1 → a ≠ 7 → a ≠ 8 → mu (mu Y 7 j (nI j2)) 8 j v3' a = μ a := fun a q1 q2 q3 => by rw [mu_ne q3, mu_ne q2, R a q1]
              refine ⟨⟨g1, g2, ?_, ?_, ?_, ?_⟩, ⟨r0, r1, r2, ⟨?_, ?_, i3⟩, ⟨?_, ?_, i6⟩, ?_, ?_, i9⟩, ?_, ?_⟩
              · rw [R' 3 (by decide) (by decide) (by decide)]; exact g3
              · rw [z9 9 (by decide) (by decide) (by decide) (by decide)]; exact g4
              · rw [R' 3 (by decide) (by decide) (by decide)]; exact g5
              · rw [z9 12 (by decide) (by decide) (by decide) (by decide)]; exact g6
              · rw [R' 3 (by decide) (by decide) (by decide)]; exact i1
              · rw [S 139 (by decide) (by decide) (by decide)]; exact i2
              · rw [R' 3 (by decide) (by decide) (by decide)]; exact i4
              · rw [S 139 (by decide) (by decide) (by decide)]; exact i5
              · rw [R' 3 (by decide) (by decide) (by decide)]; exact i7
              · rw [S 139 (by decide) (by decide) (by decide)]; exact i8
              · intro s hs
                obtain ⟨⟨p4, p5, p6, p7, p8⟩, py, pn⟩ := g8 s hs
                have y7 : mu (mu Y 7 j (nI j2)) 8 j v3' 7 s = mu μ 7 j (nI j2) 7 s := by
                  rw [mu_ne (by decide)]
                  exact mu_cg (by rw [R 7 (by decide)])
                have y8 : mu (mu Y 7 j (nI j2)) 8 j v3' 8 s = mu μ 8 j v3' 8 s := mu_cg (by rw [mu_ne (by decide), R 8 (by decide)])
                rw [R' 4 (by decide) (by decide) (by decide), R' 5 (by decide) (by decide) (by decide), R' 6 (by decide) (by decide) (by decide), y7, y8, S 140 (by decide) (by decide) (by decide), S 141 (by decide) (by decide) (by decide), S 142 (by decide) (by decide) (by decide), s143, s144]
                by_cases e : s = j
                · subst e
                  rw [mu_same, mu_same, mu_same, mu_same]
                  exact ⟨⟨p4, p5, p6, rfl, rfl⟩, py, Or.inr ⟨j2, hj2, rfl⟩⟩
                · rw [mu_nj e, mu_nj e, mu_nj (by omega), mu_nj (by omega)]
                  exact ⟨⟨p4, p5, p6, p7, p8⟩, py, pn⟩
              · rw [R' 9 (by decide) (by decide) (by decide), S 145 (by decide) (by decide) (by decide)]; exact g9
            · exact Or.inr (f.keep kF.neiC (kM.rfl' _))
          · exact Or.inr (FR.fin (f.keep (kF.endc.trans kF.neiC) ((kM.set (fun q => absurd q (by decide))).trans (kM.set (fun q => absurd q (by decide))))))
      · subst ev
        have cj : ¬ (-1 : Int32) = nI j := fun w => nI_pos (n := j) (by omega) (by rw [← w]; decide)
        rw [if_neg cj, if_neg f.nz.2.1]
        exact Or.inr (FR.fin (f.keep kF.neiB (kM.rfl' _)))
    · have f : FR (sFail M1 4 (M1 1 5)) (mFail N1 4 (N1 136 16)) := FR.fail 4 (by omega) (by omega) T1.2.2.1 T1.2.2.2.1 i1
      rw [if_neg (fun w => c (eN.trans w)), decide_eq_false c, mWant_f, okB_f f.nz.2.2, if_neg (by decide)]
      exact Or.inr (FR.fin (f.keep kF.neiA (kM.rfl' _)))
  · subst ev
    have hh : ¬ sHas (nI n) (-1) = true := by simp [sHas]
    rw [if_neg hh, if_neg f.nz.2.1]
    exact Or.inr (FR.fin (f.keep kF.neiA (kM.rfl' _)))
