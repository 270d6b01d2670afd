theorem dR.fr {μ μ' ν ν' : Me} {n a b : Nat} (h : dR n μ a ν b) (h0 : μ' a = μ a) (h1 : μ' (a + 1) = μ (a + 1)) (h2 : μ' (a + 2) = μ (a + 2)) (hν : ∀ j, b ≤ j → j < b + 17 → ν' 137 j = ν 137 j) : dR n μ' a ν' b := by
  obtain ⟨g1, g2, g3, g4⟩ := h
  refine ⟨fun hp s hs => ⟨?_, ?_⟩, ?_, ?_, ?_⟩
  · rw [h1, hν _ (by omega) (by omega)]; exact (g1 hp s hs).1
  · rw [h2, hν _ (by omega) (by omega)]; exact (g1 hp s hs).2
  · rw [h0, hν _ (by omega) (by omega)]; exact g2
  · rw [h0, hν _ (by omega) (by omega)]; exact g3
  · rw [h0, hν _ (by omega) (by omega)]; exact g4
theorem zB.fr {ν ν' : Me} {n b : Nat} (h : zB ν n b) (h7 : n ≤ 7) (h3 : ∀ s, s < 7 → ν' 143 s = ν 143 s) (hν : ∀ j, b ≤ j → j < b + 17 → ν' 137 j = ν 137 j) : zB ν' n b := by
  intro s hs e
  rw [h3 s (by omega)] at e
  rw [hν _ (by omega) (by omega)]
  exact h s hs e
theorem RS.fr {μ μ' ν ν' : Me} {n d : Nat} (h : RS μ ν n d) (hμ : ∀ a, 10 ≤ a → a ≤ 16 → μ' a = μ a) (e8 : ν' 136 8 = ν 136 8) (e11 : ν' 136 11 = ν 136 11) (e : ∀ a s, 139 ≤ a → a ≤ 144 → s < 7 → (a = 139 → s < 3) → ν' a s = ν a s) (e5 : ∀ h, h < 12 → ν' 145 h = ν 145 h) : RS μ' ν' n d := by
  obtain ⟨⟨a1, a2, a3, a4, a5, a6, a7⟩, h1, h2, h3, h4⟩ := h
  refine ⟨⟨e8.trans a1, a2, e11.trans a3, a4, ?_, ?_, ?_⟩, ?_, ?_, ?_, ?_⟩
  · rw [e 139 0 (by omega) (by omega) (by omega) (by omega), e 139 1 (by omega) (by omega) (by omega) (by omega), e 139 2 (by omega) (by omega) (by omega) (by omega)]; exact a5
  · intro s hs; rw [e 140 s (by omega) (by omega) (by omega) (by omega)]; exact a6 s hs
  · intro s hs; rw [e 143 s (by omega) (by omega) (by omega) (by omega)]; exact a7 s hs
  · rw [hμ 10 (by omega) (by omega), e 139 0 (by omega) (by omega) (by omega) (by omega), e 139 1 (by omega) (by omega) (by omega) (by omega), e 139 2 (by omega) (by omega) (by omega) (by omega)]; exact h1
  · intro s hs
    rw [hμ 11 (by omega) (by omega), hμ 12 (by omega) (by omega), hμ 13 (by omega) (by omega), hμ 14 (by omega) (by omega), hμ 15 (by omega) (by omega), e 140 s (by omega) (by omega) (by omega) (by omega), e 141 s (by omega) (by omega) (by omega) (by omega), e 142 s (by omega) (by omega) (by omega) (by omega), e 143 s (by omega) (by omega) (by omega) (by omega), e 144 s (by omega) (by omega) (by omega) (by omega)]; exact h2 s hs
  · intro h hh; rw [hμ 16 (by omega) (by omega), e5 h (by omega)]; exact h3 h hh
  · intro s hs; rw [e 143 s (by omega) (by omega) (by omega) (by omega)]; exact h4 s hs
theorem RT.fr {μ μ' ν ν' : Me} (h : RT μ ν) (e1 : μ' 1 1 = μ 1 1) (e2 : μ' 2 = μ 2) (e3 : ν' 136 14 = ν 136 14) (e4 : ν' 146 = ν 146) : RT μ' ν' := by
  obtain ⟨l, h9, l1, l2, l3⟩ := h
  exact ⟨l, h9, e1.trans l1, e3.trans l2, by rw [e2, e4]; exact l3⟩
theorem RP.fr {μ μ' ν ν' : Me} {n : Nat} (h : RP μ ν n) (h7 : n ≤ 7) (hμ : ∀ a, 28 ≤ a → a < 120 → μ' a = μ a) (e22 : ν' 136 22 = ν 136 22) (e143 : ∀ s, s < 7 → ν' 143 s = ν 143 s) (hν : ∀ j, 72 ≤ j → j < 612 → ν' 137 j = ν 137 j) : RP μ' ν' n := by
  obtain ⟨x, y, hx, hy, x1, y1, y2, hr⟩ := h
  refine ⟨x, y, hx, hy, by rw [hμ 28 (by omega) (by omega)]; exact x1, by rw [hμ 28 (by omega) (by omega)]; exact y1, e22.trans y2, fun j hj => ?_⟩
  have hm := Nat.mod_lt (x + 30 - y + j) (show 0 < 30 by omega)
  obtain ⟨g1, g2⟩ := hr j hj
  exact ⟨g1.fr (hμ _ (by omega) (by omega)) (hμ _ (by omega) (by omega)) (hμ _ (by omega) (by omega)) (fun c q1 q2 => hν c (by omega) (by omega)), g2.fr h7 e143 (fun c q1 q2 => hν c (by omega) (by omega))⟩
theorem RG.fr {μ μ' ν ν' : Me} {n : Nat} (h : RG μ ν n) (h7 : n ≤ 7) (hμ : ∀ a, 127 ≤ a → a < 135 → μ' a = μ a) (e138 : ν' 138 = ν 138) (e143 : ∀ s, s < 7 → ν' 143 s = ν 143 s) (hν : ∀ j, 36 ≤ j → j < 72 → ν' 137 j = ν 137 j) : RG μ' ν' n := by
  intro i hi
  obtain ⟨g1, g2⟩ := h i hi
  rw [hμ (127 + 4 * i) (by omega) (by omega), e138]
  refine ⟨g1, fun hk => ?_⟩
  obtain ⟨k1, k2, z, z9, z1, z2⟩ := g2 hk
  exact ⟨k1.fr (hμ _ (by omega) (by omega)) (hμ _ (by omega) (by omega)) (hμ _ (by omega) (by omega)) (fun c q1 q2 => hν c (by omega) (by omega)), k2.fr h7 e143 (fun c q1 q2 => hν c (by omega) (by omega)), z, z9, z1, by rw [hν _ (by omega) (by omega)]; exact z2⟩
theorem RE.fr {μ μ' ν ν' : Me} (h : RE μ ν) (hμ : ∀ a, 120 ≤ a → a ≤ 122 → μ' a = μ a) (e26 : ν' 136 26 = ν 136 26) (e149 : ν' 149 = ν 149) (e150 : ν' 150 = ν 150) : RE μ' ν' := by
  obtain ⟨z, z9, z1, z2, z3⟩ := h
  refine ⟨z, z9, by rw [hμ 120 (by omega) (by omega)]; exact z1, e26.trans z2, ?_⟩
  rw [hμ 121 (by omega) (by omega), hμ 122 (by omega) (by omega), e149, e150]; exact z3
theorem RK.fr {μ μ' ν ν' : Me} {n : Nat} (h : RK μ ν n) (hμ : ∀ a, 123 ≤ a → a ≤ 125 → μ' a = μ a) (e30 : ν' 136 30 = ν 136 30) (e152 : ν' 152 = ν 152) (e153 : ν' 153 = ν 153) : RK μ' ν' n := by
  obtain ⟨z, z9, z1, z2, z3⟩ := h
  refine ⟨z, z9, by rw [hμ 123 (by omega) (by omega)]; exact z1, e30.trans z2, ?_⟩
  rw [hμ 124 (by omega) (by omega), hμ 125 (by omega) (by omega), e152, e153]; exact z3
theorem RU.fr {μ μ' : Me} (h : RU μ) (e1 : μ' 21 = μ 21) (e2 : μ' 22 = μ 22) : RU μ' := by
  unfold RU; rw [e1, e2]; exact h
theorem RN.fr {μ μ' ν ν' : Me} {n : Nat} (h : RN μ ν n) (h7 : n ≤ 7) (hμ : ∀ a, 17 ≤ a → a ≤ 19 → μ' a = μ a) (e0 : μ' 0 11 = μ 0 11) (hν : ∀ j, j < 18 → ν' 137 j = ν 137 j) (e143 : ∀ s, s < 7 → ν' 143 s = ν 143 s) (e144 : ∀ s, s < 7 → ν' 144 s = ν 144 s) : RN μ' ν' n := by
  obtain ⟨g1, g2, ⟨z, z9, z1, z2⟩, g4⟩ := h
  refine ⟨g1.fr (hμ 17 (by omega) (by omega)) (hμ 18 (by omega) (by omega)) (hμ 19 (by omega) (by omega)) (fun c q1 q2 => hν c (by omega)), g2.fr h7 e143 (fun c q1 q2 => hν c (by omega)), ⟨z, z9, e0.trans z1, (hν 17 (by omega)).trans z2⟩, ?_⟩
  intro s hs q
  rw [e143 s (by omega)] at q
  rw [e144 s (by omega)]
  exact g4 s hs q
theorem Rel.tried {μ μ' ν ν' : Me} {n d : Nat} (h : Rel μ ν n d) (hμ : ∀ a, ((a < 23 ∨ 27 < a) ∧ a ≠ 135) → a < 136 → μ' a = μ a) (hj : ∀ j, (j ≠ 20 ∧ j ≠ 21) → ν' 136 j = ν 136 j) (hν : ∀ a, (a ≠ 147 ∧ a ≠ 148 ∧ a ≠ 151) → 138 ≤ a → ν' a = ν a) (hw : ∀ j, (j < 18 ∨ 36 ≤ j) → ν' 137 j = ν 137 j) : Rel μ' ν' n d := by
  obtain ⟨hS, h18, hT, hN, hP, hG, hE, hK, hU⟩ := h
  have h7 := hS.1.2.1
  refine ⟨?_, ?_, ?_, ?_, ?_, ?_, ?_, ?_, ?_⟩
  · exact hS.fr (fun a q1 q2 => hμ a (by omega) (by omega)) (hj 8 (by omega)) (hj 11 (by omega)) (fun a s q1 q2 q3 q4 => by rw [hν a (by omega) (by omega)]) (fun h q => by rw [hν 145 (by omega) (by omega)])
  · rw [hμ 1 (by omega) (by omega), hj 18 (by omega)]; exact h18
  · exact hT.fr (by rw [hμ 1 (by omega) (by omega)]) (hμ 2 (by omega) (by omega)) (hj 14 (by omega)) (hν 146 (by omega) (by omega))
  · exact hN.fr h7 (fun a q1 q2 => hμ a (by omega) (by omega)) (by rw [hμ 0 (by omega) (by omega)]) (fun j q => hw j (by omega)) (fun s q => by rw [hν 143 (by omega) (by omega)]) (fun s q => by rw [hν 144 (by omega) (by omega)])
  · exact hP.fr h7 (fun a q1 q2 => hμ a (by omega) (by omega)) (hj 22 (by omega)) (fun s q => by rw [hν 143 (by omega) (by omega)]) (fun j q1 q2 => hw j (by omega))
  · exact hG.fr h7 (fun a q1 q2 => hμ a (by omega) (by omega)) (hν 138 (by omega) (by omega)) (fun s q => by rw [hν 143 (by omega) (by omega)]) (fun j q1 q2 => hw j (by omega))
  · exact hE.fr (fun a q1 q2 => hμ a (by omega) (by omega)) (hj 26 (by omega)) (hν 149 (by omega) (by omega)) (hν 150 (by omega) (by omega))
  · exact hK.fr (fun a q1 q2 => hμ a (by omega) (by omega)) (hj 30 (by omega)) (hν 152 (by omega) (by omega)) (hν 153 (by omega) (by omega))
  · exact hU.fr (hμ 21 (by omega) (by omega)) (hμ 22 (by omega) (by omega))
theorem Rel.cong {μ μ' ν ν' : Me} {n d : Nat} (h : Rel μ ν n d) (hμ : ∀ a, a < 136 → μ' a = μ a) (hν : ∀ a, 136 ≤ a → ν' a = ν a) : Rel μ' ν' n d :=
  h.tried (fun a _ q => hμ a q) (fun j _ => by rw [hν 136 (by omega)]) (fun a _ q => hν a (by omega)) (fun j _ => by rw [hν 137 (by omega)])
theorem Rel.deed {μ μ' ν ν' : Me} {n d : Nat} (h : Rel μ ν n d) (hμ : ∀ a, (a = 1 ∨ a = 2 ∨ (10 ≤ a ∧ a ≤ 16) ∨ a = 21 ∨ a = 22 ∨ (120 ≤ a ∧ a < 135)) → a < 136 → μ' a = μ a) (hj : ∀ j, (j ≠ 20 ∧ j ≠ 21 ∧ j ≠ 22) → ν' 136 j = ν 136 j) (hν : ∀ a, a ≠ 147 → 138 ≤ a → ν' a = ν a) (hw : ∀ j, (36 ≤ j ∧ j < 72) → ν' 137 j = ν 137 j) (hN' : RN μ' ν' n) (hP' : RP μ' ν' n) : Rel μ' ν' n d := by
  obtain ⟨hS, h18, hT, hN, hP, hG, hE, hK, hU⟩ := h
  have h7 := hS.1.2.1
  refine ⟨?_, ?_, ?_, ?_, ?_, ?_, ?_, ?_, ?_⟩
  · exact hS.fr (fun a q1 q2 => hμ a (by omega) (by omega)) (hj 8 (by omega)) (hj 11 (by omega)) (fun a s q1 q2 q3 q4 => by rw [hν a (by omega) (by omega)]) (fun h q => by rw [hν 145 (by omega) (by omega)])
  · rw [hμ 1 (by omega) (by omega), hj 18 (by omega)]; exact h18
  · exact hT.fr (by rw [hμ 1 (by omega) (by omega)]) (hμ 2 (by omega) (by omega)) (hj 14 (by omega)) (hν 146 (by omega) (by omega))
  · exact hN'
  · exact hP'
  · exact hG.fr h7 (fun a q1 q2 => hμ a (by omega) (by omega)) (hν 138 (by omega) (by omega)) (fun s q => by rw [hν 143 (by omega) (by omega)]) (fun j q1 q2 => hw j (by omega))
  · exact hE.fr (fun a q1 q2 => hμ a (by omega) (by omega)) (hj 26 (by omega)) (hν 149 (by omega) (by omega)) (hν 150 (by omega) (by omega))
  · exact hK.fr (fun a q1 q2 => hμ a (by omega) (by omega)) (hj 30 (by omega)) (hν 152 (by omega) (by omega)) (hν 153 (by omega) (by omega))
  · exact hU.fr (hμ 21 (by omega) (by omega)) (hμ 22 (by omega) (by omega))
def Pr (o : Int32 × Me) (μ : Me) (q : Int32 × Me) (ν : Me) : Prop := o.1 = q.1 ∧ (∃ n d : Nat, Rel o.2 q.2 n d) ∧ (∀ a, 136 ≤ a → o.2 a = μ a) ∧ (∀ a, a < 136 → q.2 a = ν a)
theorem Pr.same {μ ν : Me} {n d : Nat} {x y : Int32} (h : Rel μ ν n d) (e : x = y) : Pr (x, μ) μ (y, ν) ν := ⟨e, ⟨n, d, h⟩, fun _ _ => rfl, fun _ _ => rfl⟩
