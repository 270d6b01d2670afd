theorem TR.all {b n d : Nat} {o2 o3 o4 way haste : Int32} {μ0 ν0 : Me} (h7 : n ≤ 7) (hw : sIsWay (nI n) way = true) (hh : sWithin haste 0 3 = true) (h0 : TR o2 o3 o4 b n d way 0 μ0 (0, 0, 0, ν0)) : TR o2 o3 o4 b n d way (dg 10 way) (sRL way haste (sFE way 9 0 + 1) μ0) (mRL b way haste ν0 (dg 10 way)) := by
  obtain ⟨w, -, -, -, e1, e2, e3⟩ := way_all h7 hw
  have hk := mWok.of rfl h7 hw
  have hle := dg_le 10 way
  have key : ∀ i, i ≤ dg 10 way → ∃ μi, TR o2 o3 o4 b n d way i μi (mRL b way haste ν0 i) ∧ sRL way haste (dg 10 way) μ0 = sRL way haste (dg 10 way - i) μi := by
    intro i
    induction i with
    | zero => intro _; exact ⟨μ0, h0, rfl⟩
    | succ i ih =>
      intro hi
      obtain ⟨μi, hT, eq⟩ := ih (by omega)
      obtain ⟨j, hj, ej⟩ := hk i (by omega)
      refine ⟨sCall μi j haste, hT.step hj ej hh (by omega) (fun i' hi' q => e3 i' i hi' (by omega) (q.trans ej.symm)), ?_⟩
      rw [eq, show dg 10 way - i = (dg 10 way - 1 - i) + 1 by omega, sRL, ← e2 i (by omega), ej, hT.1.2.1.1, has_n h7 hj, if_pos rfl, cl_nI (by omega), show dg 10 way - (i + 1) = dg 10 way - 1 - i by omega]
  obtain ⟨μD, hT, eq⟩ := key (dg 10 way) (Nat.le_refl _)
  rw [e1, eq, Nat.sub_self]
  exact hT
