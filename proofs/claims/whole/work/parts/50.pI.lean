theorem TR.start {μ ν : Me} {n d a b : Nat} {o2 o3 o4 way : Int32} (hR : RS μ ν n d) (hday : (∀ s, s < 7 → μ (a + 1) s = ν 137 (b + s) ∧ μ (a + 2) s = ν 137 (b + 7 + s)) ∧ μ a 2 + o2 = ν 137 (b + 14) ∧ μ a 3 + o3 = ν 137 (b + 15) ∧ μ a 4 + o4 = ν 137 (b + 16)) (ha : a + 2 < 24 ∨ 26 < a) : TR o2 o3 o4 b n d way 0 (sTBeg μ a) (0, 0, 0, mRI0 ν) := by
  obtain ⟨g1, g2, g3, g4⟩ := hday
  obtain ⟨k1, k2, k3, k4⟩ := sCopy_r (μ := μ) (a := 24) (b := a) (by omega)
  have e137 : mRI0 ν 137 = ν 137 := by unfold mRI0; rw [mu_ne (by decide), mu_ne (by decide), fill_ne (by decide)]
  have rd : ∀ i, i ≠ 23 → i ≠ 27 → sTBeg μ a i = sCopy μ 24 a i := by
    intro i h1 h2
    unfold sTBeg
    rw [mu_ne h1, mu_ne h1, mu_ne h1, mu_ne h1, mu_ne h1, sThere_ne h2]
  refine ⟨?_, ⟨?_, ?_, ?_, ?_, ?_⟩, fun s hs => ⟨?_, ?_, ?_⟩, ⟨?_, ?_, ?_⟩, ⟨0, by decide, ?_, fun j w => ?_⟩, 0, 0, rfl, by omega, rfl, by omega⟩
  · exact hR.of (b := b) (fun c q1 q2 => sTBeg_ne (by omega) (by omega) (by omega) (by omega) (by omega)) (((fill_fr 7).mu (by omega)).mu (by omega))
  · unfold sTBeg; rw [mu_nj (by decide), mu_same]
  · unfold sTBeg; rw [mu_same]
  · unfold sTBeg; rw [mu_nj (by decide), mu_nj (by decide), mu_same]; rfl
  · unfold sTBeg mRI0; rw [mu_nj (by decide), mu_nj (by decide), mu_nj (by decide), mu_nj (by decide), mu_same]; dsimp only; rw [mu_nj (by decide), mu_same]
  · unfold sTBeg mRI0; rw [mu_nj (by decide), mu_nj (by decide), mu_nj (by decide), mu_same]; dsimp only; rw [mu_same]
  · unfold sTBeg mRI0; rw [mu_ne (by decide), mu_ne (by decide), mu_ne (by decide), mu_ne (by decide), mu_ne (by decide), sThere_at 7 s hs]; dsimp only; rw [mu_ne (by decide), mu_ne (by decide), fill_at 7 s hs]
  · dsimp only; rw [rd 25 (by decide) (by decide), (k1 s hs).1, e137]; exact (g1 s hs).1
  · dsimp only; rw [rd 26 (by decide) (by decide), (k1 s hs).2, e137]; exact (g1 s hs).2
  · dsimp only; rw [rd 24 (by decide) (by decide), k2, e137]; exact g2
  · dsimp only; rw [rd 24 (by decide) (by decide), k3, e137]; exact g3
  · dsimp only
    have e4 : sTBeg μ a 23 4 = 0 := by unfold sTBeg; rw [mu_nj (by decide), mu_nj (by decide), mu_nj (by decide), mu_same]
    rw [e4, rd 24 (by decide) (by decide), k4, e137, show sBC 0 = 0 by decide, Int32.add_zero]; exact g4
  · unfold sTBeg; rw [mu_nj (by decide), mu_nj (by decide), mu_nj (by decide), mu_same]; rfl
  · rw [Nat.zero_testBit] at w; exact absurd w (by decide)
