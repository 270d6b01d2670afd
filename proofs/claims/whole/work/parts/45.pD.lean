set_option maxHeartbeats 4000000 in
theorem TR.step {b n d i j : Nat} {o2 o3 o4 way haste : Int32} {μ : Me} {q : mQ} (h : TR o2 o3 o4 b n d way i μ q) (hj : j < n) (hs : mStopOf way i = nI j) (hh : sWithin haste 0 3 = true) (hi : i < 10) (hd : ∀ i', i' < i → ¬ mStopOf way i' = nI j) : TR o2 o3 o4 b n d way (i + 1) (sCall μ j haste) (mSt b way haste i q) := by
  obtain ⟨tm, yd, tn, ν⟩ := q
  obtain ⟨hR, ⟨c6, c7, c5, c3, c4⟩, hday, ⟨f2, f3, f4⟩, ⟨m, hm, em, hb⟩, t, y, et, ht, ey, hy⟩ := h
  dsimp only at hR c6 c7 c5 c3 c4 hday f2 f3 f4 et ey
  have h7 := hR.1.2.1
  obtain ⟨⟨t1, ht1, ht19⟩, y1, ey1, hy1⟩ := hR.1.st hj et ht ey hy
  have e11 : μ 11 j = ν 140 j := (hR.2.2.1 j hj).1
  have eT : μ 23 6 + sBetw μ 10 (μ 23 7) (μ 11 j) = nI t1 := by
    unfold sBetw
    rw [c6, c7, e11, ey, ey1, abs_far hy hy1, hR.2.1.2.2.2.1, ← ey, ← ey1]
    exact ht1
  have eM := callM_eq (Y := nI y1) eT (e11.trans ey1)
  have ec : sCallM μ j 25 j = mu ν 147 j (nI t1) 137 (b + j) := by rw [sCallM_ne (by decide) (by decide), mu_ne (by decide), (hday j (by omega)).2.1]
  have hnb : m.testBit j = false := by
    cases w : m.testBit j with
    | false => rfl
    | true =>
      obtain ⟨i', hi', e'⟩ := hb j w
      exact absurd e' (hd i' hi')
  by_cases hc : sCounts (mu ν 147 j (nI t1) 137 (b + j)) = true
  · rw [mSt_c hs (by omega) ht1 hc]
    have eC : sCall μ j haste = sCallB (cM μ j (nI t1) (nI y1)) j haste := by unfold sCall; rw [ec, if_pos hc, eM]
    have eW : μ 23 5 + 1 = nI (tn + 1) := by rw [c5, nI_1]
    have er := ring_eq hh (tn + 1)
    have hR1 : RS (mu (cM μ j (nI t1) (nI y1)) 23 5 (nI (tn + 1))) (mu ν 147 j (nI t1)) n d := hR.of (b := b) (fun a q1 q2 => by unfold cM; rw [mu_ne (by omega), mu_ne (by omega), mu_ne (by omega), mu_ne (by omega)]) ((mFr.rfl' b ν).mu (by omega))
    have eK := meets_eq (rg := mRing haste (tn + 1)) (b := b) (tk := μ 26 j) hR1 hj (rfl : nI t1 = nI t1) (by omega) (by rw [mu_ne (by decide)]; exact (hday j (by omega)).2.2)
    have eB := callB_eq (T := nI t1) (Y := nI y1) (haste := haste) (K := mKind (mu ν 147 j (nI t1)) b j (nI t1) (mRing haste (tn + 1))) eW (by rw [er]; exact eK) rfl
    have hR2 : RS (sCall μ j haste) (mVisit (mu ν 147 j (nI t1)) b j (nI t1) (mRing haste (tn + 1))).2 n d := hR.of (b := b) (fun a q1 q2 => sCall_ne (by omega) (by omega) (by omega) (by omega)) (((mFr.rfl' b ν).mu (by omega)).visit (by omega))
    obtain ⟨-, k, hk, ek⟩ := mG.vis (b := b) (s := j) (tm := nI t1) (rg := mRing haste (tn + 1)) (hR.1.mu (a := 147) (j := j) (x := nI t1) (by omega))
    have hT : ∃ t y : Nat, nI t1 + (mVisit (mu ν 147 j (nI t1)) b j (nI t1) (mRing haste (tn + 1))).1 = nI t ∧ t ≤ 10000 * (i + 1) ∧ ν 140 j = nI y ∧ y ≤ 99 := ⟨t1 + k, y1, by rw [ek, nI_add], by omega, ey1, hy1⟩
    have hb' : ∀ j, m.testBit j = true → ∃ i', i' < i + 1 ∧ mStopOf way i' = nI j := fun j w => by obtain ⟨i', q1, q2⟩ := hb j w; exact ⟨i', by omega, q2⟩
    have r0 := hR.2.1.2.2.1
    have r2 := hR.2.1.2.2.2.2
    refine ⟨hR2, ?_⟩
    refine (fun X => ⟨X.1, X.2.1, X.2.2.1, X.2.2.2, hT⟩ : (_ ∧ _ ∧ _ ∧ _) → _) ?_
    rw [eC, eB, er]
    dsimp only
    cases hA : mHand (mu ν 147 j (nI t1)) j (nI t1) (mRing haste (tn + 1)) with
    | true =>
      have eKK : mKind (mu ν 147 j (nI t1)) b j (nI t1) (mRing haste (tn + 1)) = 2 := by unfold mKind; rw [hA]; rfl
      have eV : mVisit (mu ν 147 j (nI t1)) b j (nI t1) (mRing haste (tn + 1)) = mVisA (mu ν 147 j (nI t1)) b j (mRing haste (tn + 1)) := by unfold mVisit; rw [hA]; rfl
      rw [eKK, eV, sCallD, if_pos rfl]
      obtain ⟨b1, b2, b3, b4, b5, b6, b7, b8⟩ := cB_r (μ := μ) (j := j) (T := nI t1) (Y := nI y1) (U := nI t1 + sDoor μ 10 (mRing haste (tn + 1)) 2) (W := nI (tn + 1)) (K := 2)
      obtain ⟨v1, v2, v3, v4, v5⟩ := visA_r (ν := mu ν 147 j (nI t1)) (b := b) (j := j) (rg := mRing haste (tn + 1))
      refine ⟨⟨?_, ?_, ?_, ?_, ?_⟩, fun s hs' => ?_, ⟨?_, ?_, ?_⟩, ⟨m, hm, ?_, hb'⟩⟩
      · rw [mu_nj (by decide), b3]; simp [sDoor, r0, mVisA, mu_at]
      · rw [mu_nj (by decide), b5, ey1]
      · rw [mu_nj (by decide), b4]
      · rw [mu_same, b6 3 (by omega), v2, mu_ne (by decide), c3]
      · rw [mu_nj (by decide), b6 4 (by omega), v3, mu_ne (by decide), c4]
      · obtain ⟨a1, a2, a3⟩ := hday s hs'
        refine ⟨?_, ?_, ?_⟩
        · rw [mu_ne (by decide), b7, v1]
          by_cases e : s = j
          · subst e; rw [cM_r.1, mu_same]
          · rw [cM_r.2.1 s e, mu_nj e, a1]
        · rw [mu_ne (by decide)]
          by_cases e : s = j
          · subst e; rw [b1, v4]
          · rw [b2 s e, v5 (b + s) (by omega), mu_ne (by decide), a2]
        · rw [mu_ne (by decide), b8 26 (by decide) (by decide) (by decide), v5 (b + 7 + s) (by omega), mu_ne (by decide), a3]
      · rw [mu_ne (by decide), b8 24 (by decide) (by decide) (by decide), v5 (b + 14) (by omega), mu_ne (by decide), f2]
      · rw [mu_ne (by decide), b8 24 (by decide) (by decide) (by decide), v5 (b + 15) (by omega), mu_ne (by decide), f3]
      · rw [mu_ne (by decide), mu_nj (by decide), b8 24 (by decide) (by decide) (by decide), b6 4 (by omega), v5 (b + 16) (by omega), mu_ne (by decide), f4]
      · rw [mu_nj (by decide), b6 4 (by omega), em]
    | false =>
      cases hN : mNb (mu ν 147 j (nI t1)) b j (nI t1) with
      | true =>
        have eKK : mKind (mu ν 147 j (nI t1)) b j (nI t1) (mRing haste (tn + 1)) = 3 := by unfold mKind; rw [hA, hN]; rfl
        have eV : mVisit (mu ν 147 j (nI t1)) b j (nI t1) (mRing haste (tn + 1)) = mVisB (mu ν 147 j (nI t1)) b j (mRing haste (tn + 1)) true := by unfold mVisit; rw [hA, hN]; rfl
        rw [eKK, eV, sCallD, if_neg (by decide), if_pos rfl]
        obtain ⟨b1, b2, b3, b4, b5, b6, b7, b8⟩ := cB_r (μ := μ) (j := j) (T := nI t1) (Y := nI y1) (U := nI t1 + sDoor μ 10 (mRing haste (tn + 1)) 3) (W := nI (tn + 1)) (K := 3)
        obtain ⟨v1, v2, v3, v4, v5, v6, v7⟩ := visB_r (ν := mu ν 147 j (nI t1)) (b := b) (j := j) (rg := mRing haste (tn + 1)) (nb := true) (by omega)
        refine ⟨⟨?_, ?_, ?_, ?_, ?_⟩, fun s hs' => ?_, ⟨?_, ?_, ?_⟩, ⟨m, hm, ?_, hb'⟩⟩
        · rw [mu_ne (by decide), b3]; simp [sDoor, r0, r2, mVisB, mu_at]
        · rw [mu_ne (by decide), b5, ey1]
        · rw [mu_ne (by decide), b4]
        · rw [mu_ne (by decide), b6 3 (by omega), v2, mu_ne (by decide), c3]
        · rw [mu_ne (by decide), b6 4 (by omega), v3, mu_ne (by decide), c4]
          exact (or0 _ _).symm
        · obtain ⟨a1, a2, a3⟩ := hday s hs'
          refine ⟨?_, ?_, ?_⟩
          · rw [mu_ne (by decide), b7, v1]
            by_cases e : s = j
            · subst e; rw [cM_r.1, mu_same]
            · rw [cM_r.2.1 s e, mu_nj e, a1]
          · rw [mu_ne (by decide)]
            by_cases e : s = j
            · subst e; rw [b1, v4]; rfl
            · rw [b2 s e, v7 (b + s) (by omega) (by omega) (by omega), mu_ne (by decide), a2]
          · by_cases e : s = j
            · subst e; rw [mu_same, b8 26 (by decide) (by decide) (by decide), v5, mu_ne (by decide), a3]; rfl
            · rw [mu_nj e, b8 26 (by decide) (by decide) (by decide), v7 (b + 7 + s) (by omega) (by omega) (by omega), mu_ne (by decide), a3]
        · rw [mu_ne (by decide), b8 24 (by decide) (by decide) (by decide), v7 (b + 14) (by omega) (by omega) (by omega), mu_ne (by decide), f2]
        · rw [mu_ne (by decide), b8 24 (by decide) (by decide) (by decide), v7 (b + 15) (by omega) (by omega) (by omega), mu_ne (by decide), f3]
        · rw [mu_ne (by decide), mu_ne (by decide), b8 24 (by decide) (by decide) (by decide), b6 4 (by omega), v6, mu_ne (by decide), f4]
          exact (Int32.add_zero _).symm
        · rw [mu_ne (by decide), b6 4 (by omega), em]
      | false =>
        have eKK : mKind (mu ν 147 j (nI t1)) b j (nI t1) (mRing haste (tn + 1)) = 4 := by unfold mKind; rw [hA, hN]; rfl
        have eV : mVisit (mu ν 147 j (nI t1)) b j (nI t1) (mRing haste (tn + 1)) = mVisB (mu ν 147 j (nI t1)) b j (mRing haste (tn + 1)) false := by unfold mVisit; rw [hA, hN]; rfl
        rw [eKK, eV, sCallD, if_neg (by decide), if_neg (by decide)]
        obtain ⟨b1, b2, b3, b4, b5, b6, b7, b8⟩ := cB_r (μ := μ) (j := j) (T := nI t1) (Y := nI y1) (U := nI t1 + sDoor μ 10 (mRing haste (tn + 1)) 4) (W := nI (tn + 1)) (K := 4)
        obtain ⟨v1, v2, v3, v4, v5, v6, v7⟩ := visB_r (ν := mu ν 147 j (nI t1)) (b := b) (j := j) (rg := mRing haste (tn + 1)) (nb := false) (by omega)
        have hbc := bc_or m hm j (by omega) hnb
        obtain ⟨on1, on2⟩ := or_n m hm j (by omega)
        rw [b6 4 (by omega), em]
        refine ⟨⟨?_, ?_, ?_, ?_, ?_⟩, fun s hs' => ?_, ⟨?_, ?_, ?_⟩, ⟨m ||| (1 <<< j), on2, ?_, ?_⟩⟩
        · rw [mu_nj (by decide), b3]; simp [sDoor, r0, r2, mVisB, mu_at]
        · rw [mu_nj (by decide), b5, ey1]
        · rw [mu_nj (by decide), b4]
        · rw [mu_nj (by decide), b6 3 (by omega), v2, mu_ne (by decide), c3]
        · rw [mu_same, v3, mu_ne (by decide), ← c4, em]; rfl
        · obtain ⟨a1, a2, a3⟩ := hday s hs'
          refine ⟨?_, ?_, ?_⟩
          · rw [mu_ne (by decide), b7, v1]
            by_cases e : s = j
            · subst e; rw [cM_r.1, mu_same]
            · rw [cM_r.2.1 s e, mu_nj e, a1]
          · rw [mu_ne (by decide)]
            by_cases e : s = j
            · subst e; rw [b1, v4]; rfl
            · rw [b2 s e, v7 (b + s) (by omega) (by omega) (by omega), mu_ne (by decide), a2]
          · rw [mu_ne (by decide), b8 26 (by decide) (by decide) (by decide), a3]
            by_cases e : s = j
            · subst e; rw [v5, mu_ne (by decide)]; exact (Int32.add_zero _).symm
            · rw [v7 (b + 7 + s) (by omega) (by omega) (by omega), mu_ne (by decide)]
        · rw [mu_ne (by decide), b8 24 (by decide) (by decide) (by decide), v7 (b + 14) (by omega) (by omega) (by omega), mu_ne (by decide), f2]
        · rw [mu_ne (by decide), b8 24 (by decide) (by decide) (by decide), v7 (b + 15) (by omega) (by omega) (by omega), mu_ne (by decide), f3]
        · rw [mu_ne (by decide), mu_same, b8 24 (by decide) (by decide) (by decide), hbc, ← em, ← Int32.add_assoc, f4, v6, mu_ne (by decide)]; rfl
        · rw [mu_same, on1]
        · intro c hc'
          rw [tb_or m hm j (by omega)] at hc'
          rcases (Bool.or_eq_true _ _).mp hc' with w | w
          · exact hb' c w
          · have : c = j := of_decide_eq_true w
            subst this
            exact ⟨i, by omega, hs⟩
  · rw [mSt_n hs (by omega) ht1 hc]
    have eC : sCall μ j haste = cM μ j (nI t1) (nI y1) := by unfold sCall; rw [ec, if_neg hc, eM]
    have hR2 : RS (sCall μ j haste) (mu ν 147 j (nI t1)) n d := hR.of (b := b) (fun a q1 q2 => sCall_ne (by omega) (by omega) (by omega) (by omega)) ((mFr.rfl' b ν).mu (by omega))
    refine ⟨hR2, ?_⟩
    rw [eC]
    dsimp only
    refine ⟨⟨cM_r.2.2.1, by rw [cM_r.2.2.2.1, ey1], ?_, ?_, ?_⟩, fun s hs' => ?_, ⟨?_, ?_, ?_⟩, ⟨m, hm, ?_, fun c w => ?_⟩, t1, y1, rfl, by omega, ey1, hy1⟩
    · rw [cM_r.2.2.2.2.1 5 (by decide) (by decide), c5]
    · rw [cM_r.2.2.2.2.1 3 (by decide) (by decide), c3, mu_ne (by decide)]
    · rw [cM_r.2.2.2.2.1 4 (by decide) (by decide), c4, mu_ne (by decide)]
    · obtain ⟨a1, a2, a3⟩ := hday s hs'
      refine ⟨?_, ?_, ?_⟩
      · by_cases e : s = j
        · subst e; rw [cM_r.1, mu_same]
        · rw [cM_r.2.1 s e, mu_nj e, a1]
      · rw [cM_r.2.2.2.2.2 25 (by decide) (by decide), mu_ne (by decide), a2]
      · rw [cM_r.2.2.2.2.2 26 (by decide) (by decide), mu_ne (by decide), a3]
    · rw [cM_r.2.2.2.2.2 24 (by decide) (by decide), mu_ne (by decide), f2]
    · rw [cM_r.2.2.2.2.2 24 (by decide) (by decide), mu_ne (by decide), f3]
    · rw [cM_r.2.2.2.2.2 24 (by decide) (by decide), cM_r.2.2.2.2.1 4 (by decide) (by decide), mu_ne (by decide), f4]
    · rw [cM_r.2.2.2.2.1 4 (by decide) (by decide), em]
    · obtain ⟨i', q1, q2⟩ := hb c w; exact ⟨i', by omega, q2⟩
