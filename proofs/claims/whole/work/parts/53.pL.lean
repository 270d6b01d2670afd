theorem which_eq {f g : Nat → Int32} {k : Int32} : ∀ n, (∀ s, s < n → f s = g s) → sWhich f k n = sWhich g k n := by
  intro n
  induction n with
  | zero => intro _; rfl
  | succ n ih => intro h; rw [sWhich, sWhich, ih (fun s hs => h s (by omega)), h n (by omega)]
theorem dR.s0 {μ ν : Me} {a n : Nat} (h : dR n μ a ν 0) : (0 < n → ∀ s, s < 7 → μ (a + 1) s = ν 137 s ∧ μ (a + 2) s = ν 137 (7 + s)) ∧ μ a 2 = ν 137 14 ∧ μ a 3 = ν 137 15 ∧ μ a 4 = ν 137 16 := by
  obtain ⟨h1, h2⟩ := h
  refine ⟨fun hp s hs => ?_, by simpa using h2⟩
  have := h1 hp s hs
  rw [Nat.zero_add, Nat.zero_add] at this
  exact this
theorem p_told {μ ν : Me} {n d : Nat} {w : Int32} (h : Rel μ ν n d) : oTold μ n w = qTold ν n w := by
  obtain ⟨hS, -, ⟨l, -, l1, l2, -⟩, ⟨hd, -, -, -⟩, ⟨x, y, -, -, -, y1, y2, -⟩, -, ⟨z, -, z1, z2, -⟩, ⟨k, -, k1, k2, -⟩, -⟩ := h
  obtain ⟨g1, g2, g3, g4⟩ := hd.s0
  have h7 := hS.1.2.1
  obtain ⟨n3, d4, r0, r1, r2⟩ := hS.2.1
  have ew : ∀ k, sWhich (μ 18) k n = sWhich (ν 137) k n := fun k => which_eq n (fun s hs => (g1 (by omega) s (by omega)).1)
  unfold oTold qTold
  rw [r0, r1, r2, n3, hS.1.1, l1, l2, g2, g3, g4, ew, ew, ew, ew, z1, z2, k1, k2, y1, y2]
theorem p_stop {μ ν : Me} {n d : Nat} {s w : Int32} (h : Rel μ ν n d) : oStop μ s w = qStop ν s w := by
  obtain ⟨hS, -, -, ⟨hd, -, -, -⟩, -⟩ := h
  obtain ⟨g1, -⟩ := hd.s0
  have h7 := hS.1.2.1
  unfold oStop qStop
  rw [hS.2.1.1, hS.1.1]
  by_cases hc : sHas (nI n) s = true
  · obtain ⟨j, hj, rfl⟩ := sHas_j rfl h7 hc
    obtain ⟨e1, e2, e3, e4, e5⟩ := hS.2.2.1 j hj
    rw [if_pos hc, if_pos hc, cl_nI (by omega), e1, e2, e3, e4, e5, (g1 (by omega) j (by omega)).1, (g1 (by omega) j (by omega)).2]
  · rw [if_neg hc, if_neg hc]
theorem p_din {μ ν : Me} {n d : Nat} {h : Int32} (hr : Rel μ ν n d) : oDin μ h = qDin ν h := by
  obtain ⟨hS, -⟩ := hr
  unfold oDin qDin
  by_cases hc : sWithin h 0 11 = true
  · obtain ⟨j, -, hj, rfl⟩ := win_j (a := 0) (b := 11) (by omega) hc (by omega)
    rw [if_pos hc, if_pos hc]
    exact din_eq hS.2.1.2.1 hS.1.2.2.1 hS.1.2.2.2.1 (by omega) hS.2.2.2.1
  · rw [if_neg hc, if_neg hc]
