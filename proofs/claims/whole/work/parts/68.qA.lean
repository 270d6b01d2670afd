theorem p_street {μ ν : Me} {n d : Nat} (h : Rel μ ν n d) : Pr (oStreet μ) μ (qStreet ν) ν := by
  obtain ⟨hS, h18, ⟨l, h9, l1, l2, l3⟩, hN, hP, hG, hE, hK, hU⟩ := h
  have h7 := hS.1.2.1
  have F := start_eq h9 l1 l2 l3
  have gs : gS μ (sReadInto μ) := gS.readInto
  have gm : gM ν (mStrL 241 (mStr0 ν)) := gM.str0.trans (gM.strL _ _)
  unfold oStreet qStreet
  generalize sReadInto μ = M at F gs ⊢
  generalize mStrL 241 (mStr0 ν) = N at F gm ⊢
  have m12 : mu M 1 1 0 1 2 = M 1 2 := mu_nj (by decide)
  have n17 : mu N 136 14 0 136 17 = N 136 17 := mu_nj (by decide)
  dsimp only
  rw [m12, n17]
  rcases F with ⟨f1, f2, f3, n', dn', hd⟩ | f
  · rw [if_pos f1, if_pos (show N 136 17 ≤ 0 by rw [f2]; decide)]
    obtain ⟨s1, s2, s3, s4⟩ := scopy_r (μ := mu M 1 1 0)
    obtain ⟨b1, ⟨b2, b3, b4⟩, b5⟩ := begin_r (μ := sSCopy (mu M 1 1 0) 10 3) (a := 17)
    generalize sBegin (sSCopy (mu M 1 1 0) 10 3) 17 = B at b1 b2 b3 b4 b5 ⊢
    obtain ⟨⟨k1, k2⟩, k3⟩ := kept_r (μ := mu (mu (mu B 28 2 0) 120 2 0) 123 2 0)
    generalize sKept (mu (mu (mu B 28 2 0) 120 2 0) 123 2 0) 2 = C at k1 k2 k3 ⊢
    have cB : ∀ a, a ≠ 28 → a ≠ 120 → a ≠ 123 → a ≠ 127 → a ≠ 131 → C a = B a := fun a q1 q2 q3 q4 q5 => by rw [k3 a q4 q5, mu_ne q3, mu_ne q2, mu_ne q1]
    have cS : ∀ a, (a < 17 ∨ 19 < a) → a ≠ 28 → a ≠ 120 → a ≠ 123 → a ≠ 127 → a ≠ 131 → C a = sSCopy (mu M 1 1 0) 10 3 a := fun a q q1 q2 q3 q4 q5 => by rw [cB a q1 q2 q3 q4 q5, b5 a (by omega) (by omega) (by omega)]
    have cM : ∀ a, (a < 10 ∨ 19 < a) → a ≠ 1 → a ≠ 28 → a ≠ 120 → a ≠ 123 → a ≠ 127 → a ≠ 131 → C a = M a := fun a q q0 q1 q2 q3 q4 q5 => by rw [cS a (by omega) q1 q2 q3 q4 q5, s4 a (by omega), mu_ne q0]
    have c10 : ∀ j, j < 5 → C 10 j = M 3 j := fun j q => by rw [cS 10 (by omega) (by decide) (by decide) (by decide) (by decide) (by decide), s1 j q, mu_ne (by decide)]
    have c1 : ∀ j, j ≠ 1 → C 1 j = M 1 j := fun j q => by rw [cS 1 (by omega) (by decide) (by decide) (by decide) (by decide) (by decide), s4 1 (by omega), mu_nj q]
    have c11 : C 1 1 = 0 := by rw [cS 1 (by omega) (by decide) (by decide) (by decide) (by decide) (by decide), s4 1 (by omega), mu_same]
    obtain ⟨t1, t2, t3, ⟨t4, t5, t6, t7, t8⟩, ⟨t9, t10, t11, t12, t13, t14, t15⟩, ⟨t16, t17⟩, t18⟩ := take_r (ν := mu N 136 14 0)
    generalize mTake (mu N 136 14 0) = T at t1 t2 t3 t4 t5 t6 t7 t8 t9 t10 t11 t12 t13 t14 t15 t16 t17 t18 ⊢
    obtain ⟨⟨g1, g2, g3, g4, g5, g6⟩, ⟨r0, r1, r2, ⟨i1, i2, i3⟩, ⟨i4, i5, i6⟩, i7, i8, i9⟩, g8, g9⟩ := hd
    have e8 : T 136 8 = nI n' := by rw [t9, mu_nj (by decide)]; exact g4
    have e11 : T 136 11 = nI dn' := by rw [t10, mu_nj (by decide)]; exact g6
    have u0 : T 139 0 = nI r0 := by rw [t1 0 (by omega), mu_ne (by decide)]; exact i2
    have u1 : T 139 1 = nI r1 := by rw [t1 1 (by omega), mu_ne (by decide)]; exact i5
    have u2 : T 139 2 = nI r2 := by rw [t1 2 (by omega), mu_ne (by decide)]; exact i8
    have ta : ∀ a s, 140 ≤ a → a ≤ 144 → s < n' → T a s = N a (7 + s) := fun a s q1 q2 q => by rw [t3 a s q1 q2 (by omega), mu_ne (by omega)]
    have cs : ∀ s, s < n' → C 11 s = M 4 s ∧ C 12 s = M 5 s ∧ C 13 s = M 6 s ∧ C 14 s = M 7 s ∧ C 15 s = M 8 s := fun s q => by
      obtain ⟨v1, v2, v3, v4, v5⟩ := s2 s (by omega)
      rw [mu_ne (by decide)] at v1 v2 v3 v4 v5
      refine ⟨?_, ?_, ?_, ?_, ?_⟩
      · rw [cS 11 (by omega) (by decide) (by decide) (by decide) (by decide) (by decide)]; exact v1
      · rw [cS 12 (by omega) (by decide) (by decide) (by decide) (by decide) (by decide)]; exact v2
      · rw [cS 13 (by omega) (by decide) (by decide) (by decide) (by decide) (by decide)]; exact v3
      · rw [cS 14 (by omega) (by decide) (by decide) (by decide) (by decide) (by decide)]; exact v4
      · rw [cS 15 (by omega) (by decide) (by decide) (by decide) (by decide) (by decide)]; exact v5
    refine ⟨?_, ⟨n', dn', ⟨⟨?_, ?_, ?_, ?_, ?_⟩, ?_, ?_, ⟨⟨fun _ s hs => ⟨?_, ?_⟩, ?_, ?_, ?_⟩, ?_, ?_, ?_⟩, ?_, ?_, ?_, ?_, ?_⟩⟩, fun a q => ?_, fun a q => ?_⟩
    · show C 10 3 = T 136 8
      rw [c10 3 (by omega), e8]; exact g3
    · show mGr _ _ _ _ _ _ _
      refine ⟨e8, g1, e11, g2, ⟨r0, r1, r2, u0, i3, u1, i6, u2, i9⟩, fun s hs => ?_, fun s hs => ?_⟩
      · obtain ⟨-, ⟨y, hy, ey⟩, -⟩ := g8 s hs
        exact ⟨y, (ta 140 s (by omega) (by omega) hs).trans ey, hy⟩
      · obtain ⟨-, -, j3⟩ := g8 s hs
        rcases j3 with j3 | ⟨j, hj, j3⟩
        · exact Or.inl ((ta 143 s (by omega) (by omega) hs).trans j3.1)
        · exact Or.inr ⟨j, (ta 143 s (by omega) (by omega) hs).trans j3, by omega⟩
    · show C 10 3 = nI n' ∧ C 10 4 = nI dn' ∧ C 10 0 = T 139 0 ∧ C 10 1 = T 139 1 ∧ C 10 2 = T 139 2
      rw [c10 3 (by omega), c10 4 (by omega), c10 0 (by omega), c10 1 (by omega), c10 2 (by omega), u0, u1, u2]
      exact ⟨g3, g5, i1, i4, i7⟩
    · intro s hs
      obtain ⟨v1, v2, v3, v4, v5⟩ := cs s hs
      show C 11 s = T 140 s ∧ C 12 s = T 141 s ∧ C 13 s = T 142 s ∧ C 14 s = T 143 s ∧ C 15 s = T 144 s
      rw [v1, v2, v3, v4, v5, ta 140 s (by omega) (by omega) hs, ta 141 s (by omega) (by omega) hs, ta 142 s (by omega) (by omega) hs, ta 143 s (by omega) (by omega) hs, ta 144 s (by omega) (by omega) hs]
      exact (g8 s hs).1
    · intro h hh
      show C 16 h = T 145 h
      rw [cS 16 (by omega) (by decide) (by decide) (by decide) (by decide) (by decide), s3 h (by omega), t2 h (by omega), mu_ne (by decide), mu_ne (by decide)]
      exact g9 h hh
    · intro s hs
      show T 143 s = -1 ∨ ∃ j : Nat, j < n' ∧ T 143 s = nI j
      rw [ta 143 s (by omega) (by omega) hs]
      rcases (g8 s hs).2.2 with j3 | j3
      · exact Or.inl j3.1
      · exact Or.inr j3
    · show C 1 3 = T 136 18
      rw [c1 3 (by decide), t15, mu_nj (by decide)]; exact f3
    · exact ⟨0, by omega, c11, by show T 136 14 = _; rw [t14, mu_same]; rfl, fun i q => absurd q (Nat.not_lt_zero _)⟩
    · show C 18 s = T 137 (0 + s)
      rw [cB 18 (by decide) (by decide) (by decide) (by decide) (by decide), Nat.zero_add, (t4 s hs).1]; exact (b1 s hs).1
    · show C 19 s = T 137 (0 + 7 + s)
      rw [cB 19 (by decide) (by decide) (by decide) (by decide) (by decide), Nat.zero_add, (t4 s hs).2]; exact (b1 s hs).2
    · show C 17 2 = T 137 14
      rw [cB 17 (by decide) (by decide) (by decide) (by decide) (by decide), t5]; exact b2
    · show C 17 3 = T 137 15
      rw [cB 17 (by decide) (by decide) (by decide) (by decide) (by decide), t6]; exact b3
    · show C 17 4 = T 137 16
      rw [cB 17 (by decide) (by decide) (by decide) (by decide) (by decide), t7]; exact b4
    · intro s hs _
      show T 137 (0 + 7 + s) = 0
      rw [Nat.zero_add]; exact (t4 s (by omega)).2
    · obtain ⟨-, -, ⟨z, z9, z1, z2⟩, -⟩ := hN
      refine ⟨z, z9, ?_, ?_⟩
      · show C 0 11 = nI z
        rw [cM 0 (by omega) (by decide) (by decide) (by decide) (by decide) (by decide) (by decide), gs 0 (by decide) (by omega)]; exact z1
      · show T 137 17 = nI z
        rw [t8, mu_ne (by decide), gm.1 137 (by decide) (by omega)]; exact z2
    · intro s hs q
      have q' : T 143 s = -1 := q
      show T 144 s = 0
      rw [ta 143 s (by omega) (by omega) hs] at q'
      rw [ta 144 s (by omega) (by omega) hs]
      rcases (g8 s hs).2.2 with j3 | ⟨j, hj, j3⟩
      · exact j3.2
      · rw [j3] at q'
        exact absurd (by rw [q']; decide) (nI_pos (n := j) (by omega))
    · obtain ⟨x, y, hx, hy, x1, -⟩ := hP
      refine ⟨x, 0, hx, by omega, ?_, ?_, ?_, fun j hj => absurd hj (Nat.not_lt_zero _)⟩
      · show C 28 1 = nI x
        rw [k3 28 (by decide) (by decide), mu_ne (by decide), mu_ne (by decide), mu_nj (by decide), b5 28 (by decide) (by decide) (by decide), s4 28 (by omega), mu_ne (by decide), gs 28 (by decide) (by omega)]; exact x1
      · show C 28 2 = nI 0
        rw [k3 28 (by decide) (by decide), mu_ne (by decide), mu_ne (by decide), mu_same]; rfl
      · show T 136 22 = nI 0
        rw [t13]; rfl
    · intro i hi
      show C (127 + 4 * i) 2 = T 138 i ∧ (¬ T 138 i = 0 → _)
      rcases (show i = 0 ∨ i = 1 by omega) with rfl | rfl
      · exact ⟨k1.trans t16.symm, fun q => absurd t16 q⟩
      · exact ⟨k2.trans t17.symm, fun q => absurd t17 q⟩
    · refine ⟨0, by omega, ?_, ?_, fun i q => absurd q (Nat.not_lt_zero _)⟩
      · show C 120 2 = nI 0
        rw [k3 120 (by decide) (by decide), mu_ne (by decide), mu_same]; rfl
      · show T 136 26 = nI 0
        rw [t11]; rfl
    · refine ⟨0, by omega, ?_, ?_, fun i q => absurd q (Nat.not_lt_zero _)⟩
      · show C 123 2 = nI 0
        rw [k3 123 (by decide) (by decide), mu_same]; rfl
      · show T 136 30 = nI 0
        rw [t12]; rfl
    · exact hU.fr (by show C 21 = μ 21; rw [cM 21 (by omega) (by decide) (by decide) (by decide) (by decide) (by decide) (by decide), gs 21 (by decide) (by omega)]) (by show C 22 = μ 22; rw [cM 22 (by omega) (by decide) (by decide) (by decide) (by decide) (by decide) (by decide), gs 22 (by decide) (by omega)])
    · show C a = μ a
      rw [cM a (by omega) (by omega) (by omega) (by omega) (by omega) (by omega) (by omega), gs a (by omega) (by omega)]
    · show T a = ν a
      rw [t18 a q, mu_ne (by omega), gm.1 a (by omega) (by omega)]
  · rw [if_neg f.nz.1, if_neg f.nz.2.1]
    obtain ⟨k, q1, q4, e1, e2, e3⟩ := f
    have hμ : ∀ a, (a ≠ 1 ∧ (a < 3 ∨ 9 < a)) → a < 136 → mu M 1 1 0 a = μ a := fun a q _ => by rw [mu_ne q.1]; exact gs a q.1 q.2
    have hj : ∀ j, (j ≠ 9 ∧ j ≠ 12 ∧ (j < 14 ∨ 18 < j)) → mu N 136 14 0 136 j = ν 136 j := fun j q => by rw [mu_nj (by omega)]; exact gm.2.1 j (by omega) (by omega) (by omega)
    have hν : ∀ a, (a < 139 ∨ 145 < a) → 138 ≤ a → mu N 136 14 0 a = ν a := fun a q _ => by rw [mu_ne (by omega)]; exact gm.1 a (by omega) q
    have hw : ∀ j, j = j → mu N 136 14 0 137 j = ν 137 j := fun j _ => by rw [mu_ne (by decide), gm.1 137 (by decide) (by omega)]
    refine ⟨by dsimp only; rw [e1, e2], ⟨n, d, ?_⟩, fun a q => ?_, fun a q => ?_⟩
    · dsimp only
      refine ⟨?_, ?_, ?_, ?_, ?_, ?_, ?_, ?_, ?_⟩
      · exact hS.fr (fun a q1 q2 => hμ a (by omega) (by omega)) (hj 8 (by omega)) (hj 11 (by omega)) (fun a s q1 q2 q3 q4 => by
          rw [mu_ne (by omega)]
          by_cases e : a = 139
          · subst e; exact gm.2.2.1 s (q4 rfl)
          · exact gm.2.2.2.1 a s (by omega) (by omega) q3) (fun h q => by rw [mu_ne (by decide)]; exact gm.2.2.2.2 h q)
      · rw [mu_nj (by decide), mu_nj (by decide)]; exact e3
      · exact ⟨0, by omega, by rw [mu_same]; rfl, by rw [mu_same]; rfl, fun i q => absurd q (Nat.not_lt_zero _)⟩
      · exact hN.fr h7 (fun a q1 q2 => hμ a (by omega) (by omega)) (by rw [hμ 0 (by omega) (by omega)]) (fun j q => hw j (by omega)) (fun s q => by rw [mu_ne (by decide)]; exact gm.2.2.2.1 143 s (by omega) (by omega) q) (fun s q => by rw [mu_ne (by decide)]; exact gm.2.2.2.1 144 s (by omega) (by omega) q)
      · exact hP.fr h7 (fun a q1 q2 => hμ a (by omega) (by omega)) (hj 22 (by omega)) (fun s q => by rw [mu_ne (by decide)]; exact gm.2.2.2.1 143 s (by omega) (by omega) q) (fun j q1 q2 => hw j (by omega))
      · exact hG.fr h7 (fun a q1 q2 => hμ a (by omega) (by omega)) (hν 138 (by omega) (by omega)) (fun s q => by rw [mu_ne (by decide)]; exact gm.2.2.2.1 143 s (by omega) (by omega) q) (fun j q1 q2 => hw j (by omega))
      · exact hE.fr (fun a q1 q2 => hμ a (by omega) (by omega)) (hj 26 (by omega)) (hν 149 (by omega) (by omega)) (hν 150 (by omega) (by omega))
      · exact hK.fr (fun a q1 q2 => hμ a (by omega) (by omega)) (hj 30 (by omega)) (hν 152 (by omega) (by omega)) (hν 153 (by omega) (by omega))
      · exact hU.fr (hμ 21 (by omega) (by omega)) (hμ 22 (by omega) (by omega))
    · dsimp only; rw [mu_ne (by omega)]; exact gs a (by omega) (by omega)
    · dsimp only; rw [mu_ne (by omega)]; exact gm.1 a (by omega) (by omega)
