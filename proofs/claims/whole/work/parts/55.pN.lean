theorem cpy_hi {ν : Me} {x y : Nat} (hd : x + 18 ≤ y ∨ y + 18 ≤ x) : ∀ i, i ≤ 18 → ∀ k, k < i → mCpy ν x y i 137 (y + k) = ν 137 (x + k) := by
  intro i
  induction i with
  | zero => intro _ k hk; exact absurd hk (Nat.not_lt_zero _)
  | succ i ih =>
    intro hi k hk
    rw [mCpy]
    by_cases e : k = i
    · subst e; rw [mu_same]; exact cpy_lo (by omega) k (by omega)
    · rw [mu_nj (by omega)]; exact ih (by omega) k (by omega)
theorem copy_r {ν : Me} {x y k : Nat} (hd : x + 18 ≤ y ∨ y + 18 ≤ x) (hk : k < 18) : mCopy ν x y 137 (y + k) = ν 137 (x + k) := cpy_hi hd 18 (Nat.le_refl _) k hk
theorem copy_lo {ν : Me} {x y j : Nat} (h : j < y ∨ y + 18 ≤ j) : mCopy ν x y 137 j = ν 137 j := cpy_lo h 18 (Nat.le_refl _)
theorem copy_ne {ν : Me} {x y a : Nat} (h : a ≠ 137) : mCopy ν x y a = ν a := cpy_ne h 18
theorem dR.copy {μ μ' ν ν' : Me} {n a a' b b' : Nat} (h : dR n μ a ν b) (c : (∀ s, s < 7 → μ' (a' + 1) s = μ (a + 1) s ∧ μ' (a' + 2) s = μ (a + 2) s) ∧ μ' a' 2 = μ a 2 ∧ μ' a' 3 = μ a 3 ∧ μ' a' 4 = μ a 4) (hν : ∀ k, k < 17 → ν' 137 (b' + k) = ν 137 (b + k)) : dR n μ' a' ν' b' := by
  obtain ⟨g1, g2, g3, g4⟩ := h
  obtain ⟨c1, c2, c3, c4⟩ := c
  refine ⟨fun hp s hs => ⟨?_, ?_⟩, ?_, ?_, ?_⟩
  · rw [(c1 s hs).1, hν s (by omega)]; exact (g1 hp s hs).1
  · rw [(c1 s hs).2, Nat.add_assoc b' 7 s, hν (7 + s) (by omega), ← Nat.add_assoc b 7 s]; exact (g1 hp s hs).2
  · rw [c2, hν 14 (by omega)]; exact g2
  · rw [c3, hν 15 (by omega)]; exact g3
  · rw [c4, hν 16 (by omega)]; exact g4
theorem zB.copy {ν ν' : Me} {n b b' : Nat} (h : zB ν n b) (h7 : n ≤ 7) (h3 : ∀ s, s < 7 → ν' 143 s = ν 143 s) (hν : ∀ k, k < 17 → ν' 137 (b' + k) = ν 137 (b + k)) : zB ν' n b' := by
  intro s hs e
  rw [h3 s (by omega)] at e
  rw [Nat.add_assoc b' 7 s, hν (7 + s) (by omega), ← Nat.add_assoc b 7 s]
  exact h s hs e
theorem p_feed {μ ν : Me} {n d l : Nat} {x : Int32} (h : Rel μ ν n d) (hl : μ 1 1 = nI l) (hl9 : l ≤ 240) : Pr (oFeed μ l x) μ (qFeed ν l x) ν := by
  have h0 := h
  obtain ⟨hS, h18, ⟨l', h9, l1, l2, l3⟩, hN, hP, hG, hE, hK, hU⟩ := h
  have h7 := hS.1.2.1
  have el : l' = l := (nI_eq (by omega) (by omega)).mp (l1.symm.trans hl)
  subst el
  unfold oFeed qFeed
  by_cases c1 : sWithin x 0 255 = true
  · rw [if_pos c1, if_pos c1]
    by_cases c2 : l' < 240
    · rw [if_pos c2, if_pos c2]
      have hμ : ∀ a, (a ≠ 1 ∧ a ≠ 2) → a < 136 → sTAdd μ l' x a = μ a := fun a q _ => by unfold sTAdd; rw [mu_ne (by omega), mu_ne (by omega)]
      have hj : ∀ j, j ≠ 14 → mu (mu ν 146 l' x) 136 14 (nI (l' + 1)) 136 j = ν 136 j := fun j q => by rw [mu_nj q, mu_ne (by decide)]
      have hν : ∀ a, a ≠ 146 → 138 ≤ a → mu (mu ν 146 l' x) 136 14 (nI (l' + 1)) a = ν a := fun a q _ => by rw [mu_ne (by omega), mu_ne (by omega)]
      have hw : ∀ j, j = j → mu (mu ν 146 l' x) 136 14 (nI (l' + 1)) 137 j = ν 137 j := fun j _ => by rw [mu_ne (by omega), mu_ne (by omega)]
      refine ⟨rfl, ⟨n, d, ?_⟩, fun a q => ?_, fun a q => ?_⟩
      · dsimp only
        refine ⟨?_, ?_, ?_, ?_, ?_, ?_, ?_, ?_, ?_⟩
        · exact hS.fr (fun a q1 q2 => hμ a (by omega) (by omega)) (hj 8 (by omega)) (hj 11 (by omega)) (fun a s q1 q2 q3 q4 => by rw [hν a (by omega) (by omega)]) (fun h q => by rw [hν 145 (by omega) (by omega)])
        · unfold sTAdd; rw [mu_nj (by decide), mu_ne (by decide), hj 18 (by decide)]; exact h18
        · refine ⟨l' + 1, by omega, by unfold sTAdd; rw [mu_same], by rw [mu_same], fun i hi => ?_⟩
          unfold sTAdd
          rw [mu_ne (show 2 ≠ 1 by decide), mu_ne (show 146 ≠ 136 by decide)]
          by_cases e : i = l'
          · subst e; rw [mu_same, mu_same]; exact ⟨rfl, fun q => by simp [sWithin, q] at c1⟩
          · rw [mu_nj e, mu_nj e]; exact l3 i (by omega)
        · exact hN.fr h7 (fun a q1 q2 => hμ a (by omega) (by omega)) (by rw [hμ 0 (by omega) (by omega)]) (fun j q => hw j (by omega)) (fun s q => by rw [hν 143 (by omega) (by omega)]) (fun s q => by rw [hν 144 (by omega) (by omega)])
        · exact hP.fr h7 (fun a q1 q2 => hμ a (by omega) (by omega)) (hj 22 (by omega)) (fun s q => by rw [hν 143 (by omega) (by omega)]) (fun j q1 q2 => hw j (by omega))
        · exact hG.fr h7 (fun a q1 q2 => hμ a (by omega) (by omega)) (hν 138 (by omega) (by omega)) (fun s q => by rw [hν 143 (by omega) (by omega)]) (fun j q1 q2 => hw j (by omega))
        · exact hE.fr (fun a q1 q2 => hμ a (by omega) (by omega)) (hj 26 (by omega)) (hν 149 (by omega) (by omega)) (hν 150 (by omega) (by omega))
        · exact hK.fr (fun a q1 q2 => hμ a (by omega) (by omega)) (hj 30 (by omega)) (hν 152 (by omega) (by omega)) (hν 153 (by omega) (by omega))
        · exact hU.fr (hμ 21 (by omega) (by omega)) (hμ 22 (by omega) (by omega))
      · dsimp only; unfold sTAdd; rw [mu_ne (by omega), mu_ne (by omega)]
      · dsimp only; rw [mu_ne (by omega), mu_ne (by omega)]
    · rw [if_neg c2, if_neg c2]; exact Pr.same h0 rfl
  · rw [if_neg c1, if_neg c1]; exact Pr.same h0 rfl
theorem p_bears {μ ν : Me} {n d : Nat} {s : Int32} (h : Rel μ ν n d) : oBears μ s = qBears ν s := by
  obtain ⟨hS, -, -, ⟨hd, hz, -, hb⟩, -⟩ := h
  obtain ⟨g1, -⟩ := hd.s0
  have h7 := hS.1.2.1
  unfold oBears qBears
  rw [hS.2.1.1, hS.1.1]
  by_cases hc : sHas (nI n) s = true
  · obtain ⟨j, hj, rfl⟩ := sHas_j rfl h7 hc
    obtain ⟨-, -, -, -, e5⟩ := hS.2.2.1 j hj
    rw [if_pos hc, if_pos hc, cl_nI (by omega), e5, (g1 (by omega) j (by omega)).2]
    by_cases c : ν 143 j = -1
    · have z := hz j hj c
      rw [Nat.zero_add] at z
      rw [if_pos c, hb j hj c, z]; rfl
    · rw [if_neg c]
  · rw [if_neg hc, if_neg hc]
theorem wrong_eq {f f' g g' h h' : Nat → Int32} : ∀ m i, (∀ k, i ≤ k → k < i + m → g k = g' k ∧ h k = h' k ∧ f (g k).toNatClampNeg = f' (g k).toNatClampNeg) → sWrong f g h m i = sWrong f' g' h' m i := by
  intro m
  induction m with
  | zero => intro i _; rfl
  | succ m ih =>
    intro i hk
    obtain ⟨e1, e2, e3⟩ := hk i (Nat.le_refl _) (by omega)
    rw [sWrong, sWrong, e3, e1, e2, ih (i + 1) (fun k q1 q2 => hk k (by omega) (by omega))]
theorem p_judge {μ ν : Me} {n d z : Nat} (h : Rel μ ν n d) (hz : μ 123 2 = nI z) (hz9 : z ≤ 20) : oJudge μ z = qJudge ν z := by
  obtain ⟨hS, -, -, ⟨hd, -, -, -⟩, -, -, -, ⟨z', h9, z1, z2, z3⟩, -⟩ := h
  obtain ⟨g1, -⟩ := hd.s0
  have h7 := hS.1.2.1
  have el : z' = z := (nI_eq (by omega) (by omega)).mp (z1.symm.trans hz)
  subst el
  unfold oJudge qJudge
  refine wrong_eq z' 0 (fun k q1 q2 => ?_)
  obtain ⟨e1, e2, j, hj, ej⟩ := z3 k (by omega)
  refine ⟨e1, e2, ?_⟩
  rw [e1, ej, cl_nI (by omega)]
  exact (g1 (by omega) j (by omega)).1
theorem p_see {μ ν : Me} {n d z : Nat} {s : Int32} {b : Bool} (h : Rel μ ν n d) (hz : μ 120 2 = nI z) (hz9 : z ≤ 6) : Pr (oSee μ z s b) μ (qSee ν z s b) ν := by
  have h0 := h
  obtain ⟨hS, h18, hT, hN, hP, hG, ⟨z', h9, z1, z2, z3⟩, hK, hU⟩ := h
  have h7 := hS.1.2.1
  have el : z' = z := (nI_eq (by omega) (by omega)).mp (z1.symm.trans hz)
  subst el
  unfold oSee qSee
  rw [hS.2.1.1, hS.1.1]
  by_cases c1 : sHas (nI n) s = true
  · rw [if_pos c1, if_pos c1]
    by_cases c2 : z' < 6
    · rw [if_pos c2, if_neg (by omega)]
      have hμ : ∀ a, (a ≠ 120 ∧ a ≠ 121 ∧ a ≠ 122) → a < 136 → sSAdd μ z' s b a = μ a := fun a q _ => by unfold sSAdd; rw [mu_ne (by omega), mu_ne (by omega), mu_ne (by omega)]
      have hj : ∀ j, j ≠ 26 → mu (mu (mu ν 149 z' s) 150 z' (b2i b)) 136 26 (nI (z' + 1)) 136 j = ν 136 j := fun j q => by rw [mu_nj q, mu_ne (by decide), mu_ne (by decide)]
      have hν : ∀ a, (a ≠ 149 ∧ a ≠ 150) → 138 ≤ a → mu (mu (mu ν 149 z' s) 150 z' (b2i b)) 136 26 (nI (z' + 1)) a = ν a := fun a q _ => by rw [mu_ne (by omega), mu_ne (by omega), mu_ne (by omega)]
      have hw : ∀ j, j = j → mu (mu (mu ν 149 z' s) 150 z' (b2i b)) 136 26 (nI (z' + 1)) 137 j = ν 137 j := fun j _ => by rw [mu_ne (by omega), mu_ne (by omega), mu_ne (by omega)]
      refine ⟨rfl, ⟨n, d, ?_⟩, fun a q => ?_, fun a q => ?_⟩
      · dsimp only
        refine ⟨?_, ?_, ?_, ?_, ?_, ?_, ?_, ?_, ?_⟩
        · exact hS.fr (fun a q1 q2 => hμ a (by omega) (by omega)) (hj 8 (by omega)) (hj 11 (by omega)) (fun a s q1 q2 q3 q4 => by rw [hν a (by omega) (by omega)]) (fun h q => by rw [hν 145 (by omega) (by omega)])
        · rw [hμ 1 (by omega) (by omega), hj 18 (by omega)]; exact h18
        · exact hT.fr (by rw [hμ 1 (by omega) (by omega)]) (hμ 2 (by omega) (by omega)) (hj 14 (by omega)) (hν 146 (by omega) (by omega))
        · exact hN.fr h7 (fun a q1 q2 => hμ a (by omega) (by omega)) (by rw [hμ 0 (by omega) (by omega)]) (fun j q => hw j (by omega)) (fun s q => by rw [hν 143 (by omega) (by omega)]) (fun s q => by rw [hν 144 (by omega) (by omega)])
        · exact hP.fr h7 (fun a q1 q2 => hμ a (by omega) (by omega)) (hj 22 (by omega)) (fun s q => by rw [hν 143 (by omega) (by omega)]) (fun j q1 q2 => hw j (by omega))
        · exact hG.fr h7 (fun a q1 q2 => hμ a (by omega) (by omega)) (hν 138 (by omega) (by omega)) (fun s q => by rw [hν 143 (by omega) (by omega)]) (fun j q1 q2 => hw j (by omega))
        · refine ⟨z' + 1, by omega, by unfold sSAdd; rw [mu_same], by rw [mu_same], fun i hi => ?_⟩
          unfold sSAdd
          rw [mu_ne (show 121 ≠ 120 by decide), mu_ne (show 121 ≠ 122 by decide), mu_ne (show 149 ≠ 136 by decide), mu_ne (show 149 ≠ 150 by decide), mu_ne (show 122 ≠ 120 by decide), mu_ne (show 150 ≠ 136 by decide)]
          by_cases e : i = z'
          · subst e; rw [mu_same, mu_same, mu_same, mu_same]; exact ⟨rfl, rfl⟩
          · rw [mu_nj e, mu_nj e, mu_nj e, mu_nj e, mu_ne (by decide), mu_ne (by decide)]; exact z3 i (by omega)
        · exact hK.fr (fun a q1 q2 => hμ a (by omega) (by omega)) (hj 30 (by omega)) (hν 152 (by omega) (by omega)) (hν 153 (by omega) (by omega))
        · exact hU.fr (hμ 21 (by omega) (by omega)) (hμ 22 (by omega) (by omega))
      · dsimp only; unfold sSAdd; rw [mu_ne (by omega), mu_ne (by omega), mu_ne (by omega)]
      · dsimp only; rw [mu_ne (by omega), mu_ne (by omega), mu_ne (by omega)]
    · rw [if_neg c2, if_pos (by omega)]; exact Pr.same h0 rfl
  · rw [if_neg c1, if_neg c1]; exact Pr.same h0 rfl
theorem p_write {μ ν : Me} {n d z : Nat} {s is : Int32} (h : Rel μ ν n d) (hz : μ 123 2 = nI z) (hz9 : z ≤ 20) : Pr (oWrite μ z s is) μ (qWrite ν z s is) ν := by
  have h0 := h
  obtain ⟨hS, h18, hT, hN, hP, hG, hE, ⟨z', h9, z1, z2, z3⟩, hU⟩ := h
  have h7 := hS.1.2.1
  have el : z' = z := (nI_eq (by omega) (by omega)).mp (z1.symm.trans hz)
  subst el
  unfold oWrite qWrite
  rw [hS.2.1.1, hS.1.1]
  by_cases c1 : sHas (nI n) s = true
  · rw [if_pos c1, if_pos c1]
    obtain ⟨js, hjs, es⟩ := sHas_j rfl h7 c1
    by_cases c3 : sWithin is 1 4 = true
    · rw [if_pos c3, if_pos c3]
      by_cases c2 : z' < 20
      · rw [if_pos c2, if_neg (by omega)]
        have hμ : ∀ a, (a ≠ 123 ∧ a ≠ 124 ∧ a ≠ 125) → a < 136 → sBAdd μ z' s is a = μ a := fun a q _ => by unfold sBAdd; rw [mu_ne (by omega), mu_ne (by omega), mu_ne (by omega)]
        have hj : ∀ j, j ≠ 30 → mu (mu (mu ν 152 z' s) 153 z' is) 136 30 (nI (z' + 1)) 136 j = ν 136 j := fun j q => by rw [mu_nj q, mu_ne (by decide), mu_ne (by decide)]
        have hν : ∀ a, (a ≠ 152 ∧ a ≠ 153) → 138 ≤ a → mu (mu (mu ν 152 z' s) 153 z' is) 136 30 (nI (z' + 1)) a = ν a := fun a q _ => by rw [mu_ne (by omega), mu_ne (by omega), mu_ne (by omega)]
        have hw : ∀ j, j = j → mu (mu (mu ν 152 z' s) 153 z' is) 136 30 (nI (z' + 1)) 137 j = ν 137 j := fun j _ => by rw [mu_ne (by omega), mu_ne (by omega), mu_ne (by omega)]
        refine ⟨rfl, ⟨n, d, ?_⟩, fun a q => ?_, fun a q => ?_⟩
        · dsimp only
          refine ⟨?_, ?_, ?_, ?_, ?_, ?_, ?_, ?_, ?_⟩
          · exact hS.fr (fun a q1 q2 => hμ a (by omega) (by omega)) (hj 8 (by omega)) (hj 11 (by omega)) (fun a s q1 q2 q3 q4 => by rw [hν a (by omega) (by omega)]) (fun h q => by rw [hν 145 (by omega) (by omega)])
          · rw [hμ 1 (by omega) (by omega), hj 18 (by omega)]; exact h18
          · exact hT.fr (by rw [hμ 1 (by omega) (by omega)]) (hμ 2 (by omega) (by omega)) (hj 14 (by omega)) (hν 146 (by omega) (by omega))
          · exact hN.fr h7 (fun a q1 q2 => hμ a (by omega) (by omega)) (by rw [hμ 0 (by omega) (by omega)]) (fun j q => hw j (by omega)) (fun s q => by rw [hν 143 (by omega) (by omega)]) (fun s q => by rw [hν 144 (by omega) (by omega)])
          · exact hP.fr h7 (fun a q1 q2 => hμ a (by omega) (by omega)) (hj 22 (by omega)) (fun s q => by rw [hν 143 (by omega) (by omega)]) (fun j q1 q2 => hw j (by omega))
          · exact hG.fr h7 (fun a q1 q2 => hμ a (by omega) (by omega)) (hν 138 (by omega) (by omega)) (fun s q => by rw [hν 143 (by omega) (by omega)]) (fun j q1 q2 => hw j (by omega))
          · exact hE.fr (fun a q1 q2 => hμ a (by omega) (by omega)) (hj 26 (by omega)) (hν 149 (by omega) (by omega)) (hν 150 (by omega) (by omega))
          · refine ⟨z' + 1, by omega, by unfold sBAdd; rw [mu_same], by rw [mu_same], fun i hi => ?_⟩
            unfold sBAdd
            rw [mu_ne (show 124 ≠ 123 by decide), mu_ne (show 124 ≠ 125 by decide), mu_ne (show 152 ≠ 136 by decide), mu_ne (show 152 ≠ 153 by decide), mu_ne (show 125 ≠ 123 by decide), mu_ne (show 153 ≠ 136 by decide)]
            by_cases e : i = z'
            · subst e; rw [mu_same, mu_same, mu_same, mu_same]; exact ⟨rfl, rfl, js, hjs, es⟩
            · rw [mu_nj e, mu_nj e, mu_nj e, mu_nj e, mu_ne (by decide), mu_ne (by decide)]; exact z3 i (by omega)
          · exact hU.fr (hμ 21 (by omega) (by omega)) (hμ 22 (by omega) (by omega))
        · dsimp only; unfold sBAdd; rw [mu_ne (by omega), mu_ne (by omega), mu_ne (by omega)]
        · dsimp only; rw [mu_ne (by omega), mu_ne (by omega), mu_ne (by omega)]
      · rw [if_neg c2, if_pos (by omega)]; exact Pr.same h0 rfl
    · rw [if_neg c3, if_neg c3]; exact Pr.same h0 rfl
  · rw [if_neg c1, if_neg c1]; exact Pr.same h0 rfl
theorem p_tear {μ ν : Me} {n d : Nat} (h : Rel μ ν n d) : Pr (oTear μ) μ (qTear ν) ν := by
  obtain ⟨hS, h18, hT, hN, hP, hG, ⟨z, h9, z1, z2, z3⟩, ⟨z', h9', z1', z2', z3'⟩, hU⟩ := h
  have h7 := hS.1.2.1
  unfold oTear qTear
  have hμ : ∀ a, (a ≠ 120 ∧ a ≠ 123) → a < 136 → mu (mu μ 120 2 0) 123 2 0 a = μ a := fun a q _ => by rw [mu_ne (by omega), mu_ne (by omega)]
  have hj : ∀ j, (j ≠ 26 ∧ j ≠ 30) → mu (mu ν 136 26 0) 136 30 0 136 j = ν 136 j := fun j q => by rw [mu_nj (by omega), mu_nj (by omega)]
  have hν : ∀ a, a = a → 138 ≤ a → mu (mu ν 136 26 0) 136 30 0 a = ν a := fun a _ q => by rw [mu_ne (by omega), mu_ne (by omega)]
  have hw : ∀ j, j = j → mu (mu ν 136 26 0) 136 30 0 137 j = ν 137 j := fun j _ => by rw [mu_ne (by omega), mu_ne (by omega)]
  refine ⟨by dsimp only; rw [z1, z2, z1', z2'], ⟨n, d, ?_⟩, fun a q => ?_, fun a q => ?_⟩
  · dsimp only
    refine ⟨?_, ?_, ?_, ?_, ?_, ?_, ?_, ?_, ?_⟩
    · exact hS.fr (fun a q1 q2 => hμ a (by omega) (by omega)) (hj 8 (by omega)) (hj 11 (by omega)) (fun a s q1 q2 q3 q4 => by rw [hν a (by omega) (by omega)]) (fun h q => by rw [hν 145 (by omega) (by omega)])
    · rw [hμ 1 (by omega) (by omega), hj 18 (by omega)]; exact h18
    · exact hT.fr (by rw [hμ 1 (by omega) (by omega)]) (hμ 2 (by omega) (by omega)) (hj 14 (by omega)) (hν 146 (by omega) (by omega))
    · exact hN.fr h7 (fun a q1 q2 => hμ a (by omega) (by omega)) (by rw [hμ 0 (by omega) (by omega)]) (fun j q => hw j (by omega)) (fun s q => by rw [hν 143 (by omega) (by omega)]) (fun s q => by rw [hν 144 (by omega) (by omega)])
    · exact hP.fr h7 (fun a q1 q2 => hμ a (by omega) (by omega)) (hj 22 (by omega)) (fun s q => by rw [hν 143 (by omega) (by omega)]) (fun j q1 q2 => hw j (by omega))
    · exact hG.fr h7 (fun a q1 q2 => hμ a (by omega) (by omega)) (hν 138 (by omega) (by omega)) (fun s q => by rw [hν 143 (by omega) (by omega)]) (fun j q1 q2 => hw j (by omega))
    · exact ⟨0, by omega, by rw [mu_ne (by decide), mu_same]; rfl, by rw [mu_nj (by decide), mu_same]; rfl, fun i hi => absurd hi (Nat.not_lt_zero _)⟩
    · exact ⟨0, by omega, by rw [mu_same]; rfl, by rw [mu_same]; rfl, fun i hi => absurd hi (Nat.not_lt_zero _)⟩
    · exact hU.fr (hμ 21 (by omega) (by omega)) (hμ 22 (by omega) (by omega))
  · dsimp only; rw [mu_ne (by omega), mu_ne (by omega)]
  · dsimp only; rw [mu_ne (by omega), mu_ne (by omega)]
theorem nn_n {v : Int32} (h : 0 ≤ v) : ∃ z : Nat, z < 2147483648 ∧ v = nI z := by
  rcases way_ok v with q | ⟨r, e, -, h9⟩
  · exact ⟨0, by decide, Int32.le_antisymm q h⟩
  · exact ⟨r, h9, e⟩
theorem p_seed {μ ν : Me} {n d : Nat} {v : Int32} (h : Rel μ ν n d) : Pr (oSeed μ v) μ (qSeed ν v) ν := by
  have h0 := h
  obtain ⟨hS, h18, hT, ⟨g1, g2, ⟨z, z9, z1, z2⟩, g4⟩, hP, hG, hE, hK, hU⟩ := h
  have h7 := hS.1.2.1
  unfold oSeed qSeed
  by_cases c : 0 ≤ v
  · rw [if_pos c, if_pos c]
    obtain ⟨r, r9, er⟩ := nn_n c
    have hμ : ∀ a, a ≠ 0 → a < 136 → mu μ 0 11 v a = μ a := fun a q _ => by rw [mu_ne (by omega)]
    have hj : ∀ j, j = j → mu ν 137 17 v 136 j = ν 136 j := fun j _ => by rw [mu_ne (by decide)]
    have hν : ∀ a, a = a → 138 ≤ a → mu ν 137 17 v a = ν a := fun a _ q => by rw [mu_ne (by omega)]
    have hw : ∀ j, j ≠ 17 → mu ν 137 17 v 137 j = ν 137 j := fun j q => by rw [mu_nj q]
    refine ⟨by dsimp only; rw [z1, z2], ⟨n, d, ?_⟩, fun a q => ?_, fun a q => ?_⟩
    · dsimp only
      refine ⟨?_, ?_, ?_, ?_, ?_, ?_, ?_, ?_, ?_⟩
      · exact hS.fr (fun a q1 q2 => hμ a (by omega) (by omega)) (hj 8 (by omega)) (hj 11 (by omega)) (fun a s q1 q2 q3 q4 => by rw [hν a (by omega) (by omega)]) (fun h q => by rw [hν 145 (by omega) (by omega)])
      · rw [hμ 1 (by omega) (by omega), hj 18 (by omega)]; exact h18
      · exact hT.fr (by rw [hμ 1 (by omega) (by omega)]) (hμ 2 (by omega) (by omega)) (hj 14 (by omega)) (hν 146 (by omega) (by omega))
      · refine ⟨g1.fr (hμ 17 (by omega) (by omega)) (hμ 18 (by omega) (by omega)) (hμ 19 (by omega) (by omega)) (fun c q1 q2 => hw c (by omega)), g2.fr h7 (fun s q => by rw [hν 143 (by omega) (by omega)]) (fun c q1 q2 => hw c (by omega)), ⟨r, r9, by rw [mu_same]; exact er, by rw [mu_same]; exact er⟩, ?_⟩
        rw [hν 143 (by omega) (by omega), hν 144 (by omega) (by omega)]; exact g4
      · exact hP.fr h7 (fun a q1 q2 => hμ a (by omega) (by omega)) (hj 22 (by omega)) (fun s q => by rw [hν 143 (by omega) (by omega)]) (fun j q1 q2 => hw j (by omega))
      · exact hG.fr h7 (fun a q1 q2 => hμ a (by omega) (by omega)) (hν 138 (by omega) (by omega)) (fun s q => by rw [hν 143 (by omega) (by omega)]) (fun j q1 q2 => hw j (by omega))
      · exact hE.fr (fun a q1 q2 => hμ a (by omega) (by omega)) (hj 26 (by omega)) (hν 149 (by omega) (by omega)) (hν 150 (by omega) (by omega))
      · exact hK.fr (fun a q1 q2 => hμ a (by omega) (by omega)) (hj 30 (by omega)) (hν 152 (by omega) (by omega)) (hν 153 (by omega) (by omega))
      · exact hU.fr (hμ 21 (by omega) (by omega)) (hμ 22 (by omega) (by omega))
    · dsimp only; rw [mu_ne (by omega)]
    · dsimp only; rw [mu_ne (by omega)]
  · rw [if_neg c, if_neg c]; exact Pr.same h0 rfl
