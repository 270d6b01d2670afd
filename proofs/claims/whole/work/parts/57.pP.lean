theorem p_keep {μ ν : Me} {n d : Nat} {i : Int32} (h : Rel μ ν n d) : Pr (oKeep μ i) μ (qKeep ν i) ν := by
  have h0 := h
  obtain ⟨hS, h18, hT, hN, hP, hG, hE, hK, hU⟩ := h
  have h7 := hS.1.2.1
  unfold oKeep qKeep
  by_cases c : sWithin i 0 1 = true
  · obtain ⟨j, -, hj9, rfl⟩ := win_j (a := 0) (b := 1) (by omega) c (by omega)
    rw [if_pos c, if_pos c, cl_nI (by omega)]
    have hμ : ∀ a, (a ≠ 28 ∧ a ≠ 127 + 4 * j ∧ a ≠ 128 + 4 * j ∧ a ≠ 129 + 4 * j ∧ a ≠ 130 + 4 * j) → a < 136 → sKeep μ (127 + 4 * j) a = μ a := fun a q _ => by unfold sKeep; rw [mu_ne (by omega), mu_ne (by omega), mu_ne (by omega), sCopy_ne (by omega) (by omega) (by omega)]
    have hj : ∀ c, c ≠ 22 → mu (mu (mCopy ν 0 (36 + 18 * j)) 138 j 1) 136 22 0 136 c = ν 136 c := fun c q => by rw [mu_nj q, mu_ne (by decide), copy_ne (by decide)]
    have hν : ∀ a, a ≠ 138 → 138 ≤ a → mu (mu (mCopy ν 0 (36 + 18 * j)) 138 j 1) 136 22 0 a = ν a := fun a q _ => by rw [mu_ne (by omega), mu_ne (by omega), copy_ne (by omega)]
    have hw : ∀ c, (c < 36 + 18 * j ∨ 36 + 18 * j + 18 ≤ c) → mu (mu (mCopy ν 0 (36 + 18 * j)) 138 j 1) 136 22 0 137 c = ν 137 c := fun c q => by rw [mu_ne (by omega), mu_ne (by omega), copy_lo (by omega)]
    have hk : ∀ c, c ≠ 28 → c ≠ 127 + 4 * j → sKeep μ (127 + 4 * j) c = sCopy μ (128 + 4 * j) 17 c := by
      intro c q1 q2
      unfold sKeep
      rw [show 127 + 4 * j + 1 = 128 + 4 * j by omega]
      rw [mu_ne q1, mu_ne q2, mu_ne q2]
    obtain ⟨k1, k2, k3, k4⟩ := sCopy_r (μ := μ) (a := 128 + 4 * j) (b := 17) (by omega)
    have hr : ∀ k, k < 18 → mu (mu (mCopy ν 0 (36 + 18 * j)) 138 j 1) 136 22 0 137 (36 + 18 * j + k) = ν 137 (0 + k) := fun k q => by rw [mu_ne (by omega), mu_ne (by omega), copy_r (by omega) q]
    have e8 : ∀ c, c ≠ j → mu (mu (mCopy ν 0 (36 + 18 * j)) 138 j 1) 136 22 0 138 c = ν 138 c := fun c q => by rw [mu_ne (by omega), mu_nj q, copy_ne (by decide)]
    have e143 : ∀ s, s < 7 → mu (mu (mCopy ν 0 (36 + 18 * j)) 138 j 1) 136 22 0 143 s = ν 143 s := fun s _ => by rw [hν 143 (by omega) (by omega)]
    refine ⟨rfl, ⟨n, d, ?_⟩, fun a q => ?_, fun a q => ?_⟩
    · dsimp only
      refine ⟨?_, ?_, ?_, ?_, ?_, ?_, ?_, ?_, ?_⟩
      · exact hS.fr (fun a q1 q2 => hμ a (by omega) (by omega)) (hj 8 (by omega)) (hj 11 (by omega)) (fun a s q1 q2 q3 q4 => by rw [hν a (by omega) (by omega)]) (fun h q => by rw [hν 145 (by omega) (by omega)])
      · rw [hμ 1 (by omega) (by omega), hj 18 (by omega)]; exact h18
      · exact hT.fr (by rw [hμ 1 (by omega) (by omega)]) (hμ 2 (by omega) (by omega)) (hj 14 (by omega)) (hν 146 (by omega) (by omega))
      · exact hN.fr h7 (fun a q1 q2 => hμ a (by omega) (by omega)) (by rw [hμ 0 (by omega) (by omega)]) (fun j q => hw j (by omega)) (fun s q => by rw [hν 143 (by omega) (by omega)]) (fun s q => by rw [hν 144 (by omega) (by omega)])
      · obtain ⟨x, y, hx, hy, x1, -⟩ := hP
        refine ⟨x, 0, hx, by omega, ?_, ?_, by rw [mu_same]; rfl, fun j hj => absurd hj (Nat.not_lt_zero _)⟩
        · unfold sKeep; rw [mu_nj (by decide), mu_ne (by omega), mu_ne (by omega), sCopy_ne (by omega) (by omega) (by omega)]; exact x1
        · unfold sKeep; rw [mu_same]; rfl
      · intro i hi
        by_cases e : i = j
        · subst e
          obtain ⟨g1, g2, ⟨z, z9, z1, z2⟩, g4⟩ := hN
          have m2 : sKeep μ (127 + 4 * i) (127 + 4 * i) 2 = 1 := by unfold sKeep; rw [mu_ne (by omega), mu_same]
          have m1 : sKeep μ (127 + 4 * i) (127 + 4 * i) 1 = μ 0 11 := by unfold sKeep; rw [mu_ne (by omega), mu_nj (by decide), mu_same, sCopy_ne (by omega) (by omega) (by omega)]
          refine ⟨by rw [m2, mu_ne (by decide), mu_same], fun _ => ⟨g1.copy ?_ (fun k q => hr k (by omega)), g2.copy h7 e143 (fun k q => hr k (by omega)), z, z9, m1.trans z1, ?_⟩⟩
          · rw [hk (128 + 4 * i) (by omega) (by omega), hk (128 + 4 * i + 1) (by omega) (by omega), hk (128 + 4 * i + 2) (by omega) (by omega)]; exact ⟨k1, k2, k3, k4⟩
          · rw [hr 17 (by omega)]; exact z2
        · obtain ⟨g1, g2⟩ := hG i hi
          rw [hμ (127 + 4 * i) (by omega) (by omega), e8 i e]
          refine ⟨g1, fun hk => ?_⟩
          obtain ⟨k1, k2, z, z9, z1, z2⟩ := g2 hk
          exact ⟨k1.fr (hμ _ (by omega) (by omega)) (hμ _ (by omega) (by omega)) (hμ _ (by omega) (by omega)) (fun c q1 q2 => hw c (by omega)), k2.fr h7 e143 (fun c q1 q2 => hw c (by omega)), z, z9, z1, by rw [hw _ (by omega)]; exact z2⟩
      · exact hE.fr (fun a q1 q2 => hμ a (by omega) (by omega)) (hj 26 (by omega)) (hν 149 (by omega) (by omega)) (hν 150 (by omega) (by omega))
      · exact hK.fr (fun a q1 q2 => hμ a (by omega) (by omega)) (hj 30 (by omega)) (hν 152 (by omega) (by omega)) (hν 153 (by omega) (by omega))
      · exact hU.fr (hμ 21 (by omega) (by omega)) (hμ 22 (by omega) (by omega))
    · dsimp only; unfold sKeep; rw [mu_ne (by omega), mu_ne (by omega), mu_ne (by omega), sCopy_ne (by omega) (by omega) (by omega)]
    · dsimp only; rw [mu_ne (by omega), mu_ne (by omega), copy_ne (by omega)]
  · rw [if_neg c, if_neg c]; exact Pr.same h0 rfl
theorem p_goBack {μ ν : Me} {n d : Nat} {i : Int32} (h : Rel μ ν n d) : Pr (oGoBack μ i) μ (qGoBack ν i) ν := by
  have h0 := h
  obtain ⟨hS, h18, hT, hN, hP, hG, hE, hK, hU⟩ := h
  have h7 := hS.1.2.1
  unfold oGoBack qGoBack
  by_cases c : sWithin i 0 1 = true
  · obtain ⟨j, -, hj9, rfl⟩ := win_j (a := 0) (b := 1) (by omega) c (by omega)
    obtain ⟨g1, g2⟩ := hG j (by omega)
    rw [if_pos c, if_pos c, cl_nI (by omega), g1]
    by_cases c2 : ν 138 j = 0
    · rw [if_pos c2, if_pos c2]; exact Pr.same h0 rfl
    · rw [if_neg c2, if_neg c2]
      obtain ⟨d1, d2, z, z9, z1, z2⟩ := g2 c2
      have hk : ∀ c, c ≠ 28 → c ≠ 0 → sBack μ (127 + 4 * j) c = sCopy μ 17 (128 + 4 * j) c := by
        intro c q1 q2
        unfold sBack
        rw [show 127 + 4 * j + 1 = 128 + 4 * j by omega]
        rw [mu_ne q1, mu_ne q2]
      obtain ⟨k1, k2, k3, k4⟩ := sCopy_r (μ := μ) (a := 17) (b := 128 + 4 * j) (by omega)
      have hr : ∀ k, k < 18 → mu (mCopy ν (36 + 18 * j) 0) 136 22 0 137 (0 + k) = ν 137 (36 + 18 * j + k) := fun k q => by rw [mu_ne (by omega), copy_r (by omega) q]
      have e143 : ∀ s, s < 7 → mu (mCopy ν (36 + 18 * j) 0) 136 22 0 143 s = ν 143 s := fun s _ => by rw [mu_ne (by omega), copy_ne (by omega)]
      refine ⟨rfl, ⟨n, d, ?_⟩, fun a q => ?_, fun a q => ?_⟩
      · refine h0.deed (fun a q _ => ?_) (fun c q => ?_) (fun a q1 q2 => ?_) (fun c q => ?_) ⟨?_, ?_, ?_, ?_⟩ ?_
        · dsimp only; rw [hk a (by omega) (by omega), sCopy_ne (by omega) (by omega) (by omega)]
        · dsimp only; rw [mu_nj (by omega), copy_ne (by decide)]
        · dsimp only; rw [mu_ne (by omega), copy_ne (by omega)]
        · dsimp only; rw [mu_ne (by omega), copy_lo (by omega)]
        · refine d1.copy ?_ (fun k q => hr k (by omega))
          dsimp only
          rw [hk 17 (by omega) (by omega), hk (17 + 1) (by omega) (by omega), hk (17 + 2) (by omega) (by omega)]; exact ⟨k1, k2, k3, k4⟩
        · exact d2.copy h7 e143 (fun k q => hr k (by omega))
        · refine ⟨z, z9, ?_, ?_⟩
          · dsimp only; unfold sBack; rw [mu_ne (by decide), mu_same, sCopy_ne (by omega) (by omega) (by omega)]; exact z1
          · dsimp only; rw [← z2, ← hr 17 (by omega)]
        · dsimp only; rw [mu_ne (by decide), copy_ne (by decide), mu_ne (by decide), copy_ne (by decide)]; exact hN.2.2.2
        · obtain ⟨x, y, hx, hy, x1, -⟩ := hP
          refine ⟨x, 0, hx, by omega, ?_, ?_, by dsimp only; rw [mu_same]; rfl, fun j hj => absurd hj (Nat.not_lt_zero _)⟩
          · dsimp only; unfold sBack; rw [mu_nj (by decide), mu_ne (by omega), sCopy_ne (by omega) (by omega) (by omega)]; exact x1
          · dsimp only; unfold sBack; rw [mu_same]; rfl
      · dsimp only; rw [hk a (by omega) (by omega), sCopy_ne (by omega) (by omega) (by omega)]
      · dsimp only; rw [mu_ne (by omega), copy_ne (by omega)]
  · rw [if_neg c, if_neg c]; exact Pr.same h0 rfl
theorem p_undo {μ ν : Me} {n d x y : Nat} {k : Int32} (h : Rel μ ν n d) (hx : μ 28 1 = nI x) (hx9 : x < 30) (hy : μ 28 2 = nI y) (hy9 : y ≤ 30) : Pr (oUndo μ x y k) μ (qUndo ν y k) ν := by
  have h0 := h
  obtain ⟨hS, h18, hT, hN, ⟨x', y', hx', hy', x1, y1, y2, hr⟩, hG, hE, hK, hU⟩ := h
  have h7 := hS.1.2.1
  have ex : x' = x := (nI_eq (by omega) (by omega)).mp (x1.symm.trans hx)
  have ey : y' = y := (nI_eq (by omega) (by omega)).mp (y1.symm.trans hy)
  subst ex ey
  unfold oUndo qUndo
  by_cases c : sWithin k 1 30 = true
  · obtain ⟨j, hj1, hj9, rfl⟩ := win_j (a := 1) (b := 30) (by omega) c (by omega)
    rw [if_pos c, if_pos c, cl_nI (by omega), y1, y2]
    by_cases c2 : nI j ≤ nI y'
    · rw [if_pos c2, if_pos c2]
      have hjy : j ≤ y' := (nI_leI (by omega) (by omega)).mp c2
      obtain ⟨d1, d2⟩ := hr (y' - j) (by omega)
      have er : (x' + 30 - y' + (y' - j)) % 30 = (x' + 30 - j) % 30 := by omega
      rw [er] at d1
      have hm := Nat.mod_lt (x' + 30 - j) (show 0 < 30 by omega)
      have hc : ∀ i, (i < 17 ∨ 19 < i) → i ≠ 28 → sPop μ x' y' j 17 i = μ i := by
        intro i q1 q2
        unfold sPop
        rw [sCopy_ne (by omega) (by omega) (by omega), mu_ne q2, mu_ne q2]
      have hc2 : ∀ i c, i = 30 + 3 * ((x' + 30 - j) % 30) + c → mu (mu μ 28 1 (nI ((x' + 30 - j) % 30))) 28 2 (nI (y' - j)) i = μ i := fun i c q => by rw [mu_ne (by omega), mu_ne (by omega)]
      obtain ⟨k1, k2, k3, k4⟩ := sCopy_r (μ := mu (mu μ 28 1 (nI ((x' + 30 - j) % 30))) 28 2 (nI (y' - j))) (a := 17) (b := 30 + 3 * ((x' + 30 - j) % 30)) (by omega)
      rw [hc2 (30 + 3 * ((x' + 30 - j) % 30)) 0 rfl] at k2 k3 k4
      rw [hc2 _ 1 rfl, hc2 _ 2 rfl] at k1
      have nr : ∀ k, k < 17 → mUndo ν (y' - j) 137 (0 + k) = ν 137 (72 + 18 * (y' - j) + k) := fun k q => by unfold mUndo; rw [mu_nj (by omega), copy_r (by omega) (by omega), mu_ne (by decide)]
      have nl : ∀ c, 18 ≤ c → mUndo ν (y' - j) 137 c = ν 137 c := fun c q => by unfold mUndo; rw [mu_nj (by omega), copy_lo (by omega), mu_ne (by decide)]
      have ne : ∀ a, a ≠ 136 → a ≠ 137 → mUndo ν (y' - j) a = ν a := fun a q1 q2 => by unfold mUndo; rw [mu_ne q2, copy_ne q2, mu_ne q1]
      have e143 : ∀ s, s < 7 → mUndo ν (y' - j) 143 s = ν 143 s := fun s _ => by rw [ne 143 (by decide) (by decide)]
      have hd : dR n (sPop μ x' y' j 17) 17 (mUndo ν (y' - j)) 0 := d1.copy ⟨k1, k2, k3, k4⟩ nr
      refine ⟨hd.2.1, ⟨n, d, ?_⟩, fun a q => hc a (by omega) (by omega), fun a q => ne a (by omega) (by omega)⟩
      refine h0.deed (fun a q _ => hc a (by omega) (by omega)) (fun c q => ?_) (fun a q1 q2 => ne a (by omega) (by omega)) (fun c q => nl c (by omega)) ⟨hd, d2.copy h7 e143 nr, ?_, ?_⟩ ?_
      · show mUndo ν (y' - j) 136 c = ν 136 c
        unfold mUndo; rw [mu_ne (by decide), copy_ne (by decide), mu_nj (by omega)]
      · obtain ⟨-, -, ⟨z, z9, z1, z2⟩, -⟩ := hN
        refine ⟨z, z9, ?_, ?_⟩
        · show sPop μ x' y' j 17 0 11 = nI z
          rw [hc 0 (by omega) (by omega)]; exact z1
        · show mUndo ν (y' - j) 137 17 = nI z
          unfold mUndo; rw [mu_same]; exact z2
      · show ∀ s, s < n → mUndo ν (y' - j) 143 s = -1 → mUndo ν (y' - j) 144 s = 0
        rw [ne 143 (by decide) (by decide), ne 144 (by decide) (by decide)]; exact hN.2.2.2
      · refine ⟨(x' + 30 - j) % 30, y' - j, hm, by omega, ?_, ?_, ?_, fun i hi => ?_⟩
        · show sPop μ x' y' j 17 28 1 = _
          unfold sPop; rw [sCopy_ne (by omega) (by omega) (by omega), mu_nj (by decide), mu_same]
        · show sPop μ x' y' j 17 28 2 = _
          unfold sPop; rw [sCopy_ne (by omega) (by omega) (by omega), mu_same]
        · show mUndo ν (y' - j) 136 22 = _
          unfold mUndo; rw [mu_ne (by decide), copy_ne (by decide), mu_same]
        · have er2 : ((x' + 30 - j) % 30 + 30 - (y' - j) + i) % 30 = (x' + 30 - y' + i) % 30 := by omega
          have hm2 := Nat.mod_lt (x' + 30 - y' + i) (show 0 < 30 by omega)
          obtain ⟨g1, g2⟩ := hr i (by omega)
          rw [er2]
          exact ⟨g1.fr (hc _ (by omega) (by omega)) (hc _ (by omega) (by omega)) (hc _ (by omega) (by omega)) (fun c q1 q2 => nl c (by omega)), g2.fr h7 e143 (fun c q1 q2 => nl c (by omega))⟩
    · rw [if_neg c2, if_neg c2]; exact Pr.same h0 rfl
  · rw [if_neg c, if_neg c]; exact Pr.same h0 rfl
