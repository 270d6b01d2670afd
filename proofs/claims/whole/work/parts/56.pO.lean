theorem remL_r {ν : Me} : ∀ i, i ≤ 29 → (∀ j, j < i → ∀ k, k < 18 → mRemL ν i 137 (72 + 18 * j + k) = ν 137 (72 + 18 * (j + 1) + k)) ∧ (∀ c, (c < 72 ∨ 72 + 18 * i ≤ c) → mRemL ν i 137 c = ν 137 c) := by
  intro i
  induction i with
  | zero => intro _; exact ⟨fun j hj => absurd hj (Nat.not_lt_zero _), fun c _ => rfl⟩
  | succ i ih =>
    intro hi
    obtain ⟨h1, h2⟩ := ih (by omega)
    rw [mRemL]
    refine ⟨fun j hj k hk => ?_, fun c hc => ?_⟩
    · by_cases e : j = i
      · subst e; rw [copy_r (by omega) hk]; exact h2 _ (by omega)
      · rw [copy_lo (by omega)]; exact h1 j (by omega) k hk
    · rw [copy_lo (by omega)]; exact h2 c (by omega)
theorem rem_ne {ν : Me} {u a : Nat} (h : a ≠ 137) (h' : a ≠ 136) : mRem ν u a = ν a := by
  unfold mRem
  split
  · rw [mu_ne h', copy_ne h, mu_ne h', remL_ne h]
  · rw [mu_ne h', copy_ne h]
theorem rem_j {ν : Me} {u j : Nat} (h : j ≠ 22) : mRem ν u 136 j = ν 136 j := by
  unfold mRem
  split
  · rw [mu_nj h, copy_ne (by decide), mu_nj h, remL_ne (by decide)]
  · rw [mu_nj h, copy_ne (by decide)]
theorem rem_a {ν : Me} {u j k : Nat} (hu : ¬ u = 30) (hj : j < u) (hk : k < 18) : mRem ν u 137 (72 + 18 * j + k) = ν 137 (72 + 18 * j + k) := by
  unfold mRem
  rw [if_neg hu, mu_ne (by decide), copy_lo (by omega)]
theorem rem_b {ν : Me} {u k : Nat} (hu : ¬ u = 30) (hk : k < 18) : mRem ν u 137 (72 + 18 * u + k) = ν 137 (0 + k) := by
  unfold mRem
  rw [if_neg hu, mu_ne (by decide), copy_r (by omega) hk]
theorem rem_c {ν : Me} {j k : Nat} (hj : j < 29) (hk : k < 18) : mRem ν 30 137 (72 + 18 * j + k) = ν 137 (72 + 18 * (j + 1) + k) := by
  unfold mRem
  rw [if_pos rfl, mu_ne (by decide), copy_lo (by omega), mu_ne (by decide)]
  exact (remL_r 29 (Nat.le_refl _)).1 j hj k hk
theorem rem_d {ν : Me} {k : Nat} (hk : k < 18) : mRem ν 30 137 (72 + 18 * 29 + k) = ν 137 (0 + k) := by
  unfold mRem
  rw [if_pos rfl, mu_ne (by decide), copy_r (by omega) hk, mu_ne (by decide)]
  exact (remL_r 29 (Nat.le_refl _)).2 _ (by omega)
theorem rem_22 {ν : Me} {y : Nat} (hy : y ≤ 30) : mRem ν y 136 22 = nI (if y + 1 ≤ 30 then y + 1 else 30) := by
  unfold mRem
  by_cases c : y = 30
  · subst c; rw [if_pos rfl, mu_same, if_neg (by omega)]
  · rw [if_neg c, mu_same, if_pos (by omega)]
theorem push_ne {μ : Me} {x y i : Nat} (h : i ≠ 28) (h' : i < 30 + 3 * x ∨ 32 + 3 * x < i) : sPush μ x y 17 i = μ i := by
  unfold sPush
  rw [mu_ne h, mu_ne h, sCopy_ne (by omega) (by omega) (by omega)]
theorem RP.push {μ ν : Me} {n x y : Nat} (hP : RP μ ν n) (hd : dR n μ 17 ν 0) (hz : zB ν n 0) (h7 : n ≤ 7) (hx : μ 28 1 = nI x) (hx9 : x < 30) (hy : μ 28 2 = nI y) (hy9 : y ≤ 30) : RP (sPush μ x y 17) (mRem ν y) n := by
  obtain ⟨x', y', hx', hy', x1, y1, y2, hr⟩ := hP
  have ex : x' = x := (nI_eq (by omega) (by omega)).mp (x1.symm.trans hx)
  have ey : y' = y := (nI_eq (by omega) (by omega)).mp (y1.symm.trans hy)
  subst ex ey
  have e143 : ∀ s, s < 7 → mRem ν y' 143 s = ν 143 s := fun s _ => by rw [rem_ne (by decide) (by decide)]
  have hm := Nat.mod_lt (x' + 1) (show 0 < 30 by omega)
  obtain ⟨k1, k2, k3, k4⟩ := sCopy_r (μ := μ) (a := 30 + 3 * x') (b := 17) (by omega)
  have hc : ∀ i, i ≠ 28 → sPush μ x' y' 17 i = sCopy μ (30 + 3 * x') 17 i := fun i q => by unfold sPush; rw [mu_ne q, mu_ne q]
  have cc : (∀ s, s < 7 → sPush μ x' y' 17 (30 + 3 * x' + 1) s = μ (17 + 1) s ∧ sPush μ x' y' 17 (30 + 3 * x' + 2) s = μ (17 + 2) s) ∧ sPush μ x' y' 17 (30 + 3 * x') 2 = μ 17 2 ∧ sPush μ x' y' 17 (30 + 3 * x') 3 = μ 17 3 ∧ sPush μ x' y' 17 (30 + 3 * x') 4 = μ 17 4 := by
    rw [hc (30 + 3 * x') (by omega), hc (30 + 3 * x' + 1) (by omega), hc (30 + 3 * x' + 2) (by omega)]
    exact ⟨k1, k2, k3, k4⟩
  refine ⟨(x' + 1) % 30, if y' + 1 ≤ 30 then y' + 1 else 30, hm, by split <;> omega, ?_, ?_, rem_22 hy9, ?_⟩
  · unfold sPush; rw [mu_nj (by decide), mu_same]
  · unfold sPush; rw [mu_same]
  · by_cases c : y' = 30
    · subst c
      rw [if_neg (by omega)]
      intro j hj
      by_cases e : j = 29
      · subst e
        have er : ((x' + 1) % 30 + 30 - 30 + 29) % 30 = x' := by omega
        rw [er]
        exact ⟨hd.copy cc (fun k hk => rem_d (by omega)), hz.copy h7 e143 (fun k hk => rem_d (by omega))⟩
      · have er : ((x' + 1) % 30 + 30 - 30 + j) % 30 = (x' + 30 - 30 + (j + 1)) % 30 := by omega
        have hm2 := Nat.mod_lt (x' + 30 - 30 + (j + 1)) (show 0 < 30 by omega)
        have ne : (x' + 30 - 30 + (j + 1)) % 30 ≠ x' := by omega
        rw [er]
        obtain ⟨g1, g2⟩ := hr (j + 1) (by omega)
        refine ⟨g1.copy ?_ (fun k hk => rem_c (by omega) (by omega)), g2.copy h7 e143 (fun k hk => rem_c (by omega) (by omega))⟩
        rw [push_ne (by omega) (by omega), push_ne (by omega) (by omega), push_ne (by omega) (by omega)]
        exact ⟨fun _ _ => ⟨rfl, rfl⟩, rfl, rfl, rfl⟩
    · rw [if_pos (by omega)]
      intro j hj
      by_cases e : j = y'
      · subst e
        have er : ((x' + 1) % 30 + 30 - (j + 1) + j) % 30 = x' := by omega
        rw [er]
        exact ⟨hd.copy cc (fun k hk => rem_b c (by omega)), hz.copy h7 e143 (fun k hk => rem_b c (by omega))⟩
      · have er : ((x' + 1) % 30 + 30 - (y' + 1) + j) % 30 = (x' + 30 - y' + j) % 30 := by omega
        have hm2 := Nat.mod_lt (x' + 30 - y' + j) (show 0 < 30 by omega)
        have ne : (x' + 30 - y' + j) % 30 ≠ x' := by omega
        rw [er]
        obtain ⟨g1, g2⟩ := hr j (by omega)
        refine ⟨g1.copy ?_ (fun k hk => rem_a c (by omega) (by omega)), g2.copy h7 e143 (fun k hk => rem_a c (by omega) (by omega))⟩
        rw [push_ne (by omega) (by omega), push_ne (by omega) (by omega), push_ne (by omega) (by omega)]
        exact ⟨fun _ _ => ⟨rfl, rfl⟩, rfl, rfl, rfl⟩
theorem Rel.push {μ ν : Me} {n d x y : Nat} (h : Rel μ ν n d) (hx : μ 28 1 = nI x) (hx9 : x < 30) (hy : μ 28 2 = nI y) (hy9 : y ≤ 30) : Rel (sPush μ x y 17) (mRem ν y) n d := by
  have h0 := h
  obtain ⟨hS, -, -, hN, hP, -⟩ := h
  have h7 := hS.1.2.1
  refine h0.deed (fun a q _ => push_ne (by omega) (by omega)) (fun j q => rem_j (by omega)) (fun a _ q => rem_ne (by omega) (by omega)) (fun j q => ?_) ?_ (hP.push hN.1 hN.2.1 h7 hx hx9 hy hy9)
  · exact rem_lo (by omega)
  · exact hN.fr h7 (fun a q1 q2 => push_ne (by omega) (by omega)) (by rw [push_ne (by omega) (by omega)]) (fun j q => rem_lo (by omega)) (fun s _ => by rw [rem_ne (by decide) (by decide)]) (fun s _ => by rw [rem_ne (by decide) (by decide)])
theorem push_ge {μ : Me} {x y a : Nat} (hx : x < 30) (h : 136 ≤ a) : sPush μ x y 17 a = μ a := push_ne (by omega) (by omega)
theorem rem_ge {ν : Me} {u a : Nat} (h : a < 136) : mRem ν u a = ν a := rem_ne (by omega) (by omega)
theorem Rel.setIs {μ ν : Me} {n d j : Nat} {x : Int32} (h : Rel μ ν n d) (hj : j < 7) : Rel (mu μ 18 j x) (mu ν 137 j x) n d := by
  have h0 := h
  obtain ⟨hS, -, -, ⟨⟨d1, d2, d3, d4⟩, hz, hdi, hb⟩, hP, -⟩ := h
  have h7 := hS.1.2.1
  refine h0.deed (fun a q _ => mu_ne (by omega)) (fun j' q => by rw [mu_ne (by decide)]) (fun a _ q => mu_ne (by omega)) (fun c q => mu_nj (by omega)) ⟨⟨fun hp s hs => ⟨?_, ?_⟩, ?_, ?_, ?_⟩, ?_, ?_, ?_⟩ ?_
  · show mu μ 18 j x 18 s = mu ν 137 j x 137 (0 + s)
    by_cases e : s = j
    · subst e; rw [mu_same, Nat.zero_add, mu_same]
    · rw [mu_nj e, mu_nj (by omega)]; exact (d1 hp s hs).1
  · rw [mu_ne (by decide), mu_nj (by omega)]; exact (d1 hp s hs).2
  · rw [mu_ne (by decide), mu_nj (by omega)]; exact d2
  · rw [mu_ne (by decide), mu_nj (by omega)]; exact d3
  · rw [mu_ne (by decide), mu_nj (by omega)]; exact d4
  · intro s hs q
    rw [mu_ne (by decide)] at q
    rw [mu_nj (by omega)]; exact hz s hs q
  · rw [mu_ne (by decide), mu_nj (by omega)]; exact hdi
  · rw [mu_ne (by decide), mu_ne (by decide)]; exact hb
  · exact hP.fr h7 (fun a q1 q2 => mu_ne (by omega)) (by rw [mu_ne (by decide)]) (fun s _ => by rw [mu_ne (by decide)]) (fun c q1 q2 => mu_nj (by omega))
theorem Rel.setTook {μ ν : Me} {n d j : Nat} (h : Rel μ ν n d) (hj : j < 7) : Rel (mu μ 19 j 0) (mu ν 137 (7 + j) 0) n d := by
  have h0 := h
  obtain ⟨hS, -, -, ⟨⟨d1, d2, d3, d4⟩, hz, hdi, hb⟩, hP, -⟩ := h
  have h7 := hS.1.2.1
  refine h0.deed (fun a q _ => mu_ne (by omega)) (fun j' q => by rw [mu_ne (by decide)]) (fun a _ q => mu_ne (by omega)) (fun c q => mu_nj (by omega)) ⟨⟨fun hp s hs => ⟨?_, ?_⟩, ?_, ?_, ?_⟩, ?_, ?_, ?_⟩ ?_
  · rw [mu_ne (by decide), mu_nj (by omega)]; exact (d1 hp s hs).1
  · show mu μ 19 j 0 19 s = mu ν 137 (7 + j) 0 137 (0 + 7 + s)
    by_cases e : s = j
    · subst e; rw [mu_same, Nat.zero_add, mu_same]
    · rw [mu_nj e, mu_nj (by omega)]; exact (d1 hp s hs).2
  · rw [mu_ne (by decide), mu_nj (by omega)]; exact d2
  · rw [mu_ne (by decide), mu_nj (by omega)]; exact d3
  · rw [mu_ne (by decide), mu_nj (by omega)]; exact d4
  · intro s hs q
    rw [mu_ne (by decide)] at q
    by_cases e : s = j
    · subst e; rw [Nat.zero_add, mu_same]
    · rw [mu_nj (by omega)]; exact hz s hs q
  · rw [mu_ne (by decide), mu_nj (by omega)]; exact hdi
  · rw [mu_ne (by decide), mu_ne (by decide)]; exact hb
  · exact hP.fr h7 (fun a q1 q2 => mu_ne (by omega)) (by rw [mu_ne (by decide)]) (fun s _ => by rw [mu_ne (by decide)]) (fun c q1 q2 => mu_nj (by omega))
theorem Rel.is {μ ν : Me} {n d j : Nat} (h : Rel μ ν n d) (h0 : 0 < n) (hj : j < 7) : μ 18 j = ν 137 j ∧ μ 19 j = ν 137 (7 + j) := h.2.2.2.1.1.s0.1 h0 j hj
theorem p_fetch {μ ν : Me} {n d x y : Nat} {s : Int32} (h : Rel μ ν n d) (hx : μ 28 1 = nI x) (hx9 : x < 30) (hy : μ 28 2 = nI y) (hy9 : y ≤ 30) : Pr (oFetch μ x y s) μ (qFetch ν y s) ν := by
  have h7 := h.1.1.2.1
  unfold oFetch qFetch
  rw [h.1.2.1.1, h.1.1.1]
  by_cases hc : sHas (nI n) s = true
  · obtain ⟨j, hj, rfl⟩ := sHas_j rfl h7 hc
    rw [if_pos hc, if_pos hc, cl_nI (by omega), (h.is (by omega) (show j < 7 by omega)).1]
    have h2 := (h.push hx hx9 hy hy9).setIs (j := j) (x := 2) (by omega)
    have f1 : ∀ a, 136 ≤ a → mu (sPush μ x y 17) 18 j 2 a = μ a := fun a q => by rw [mu_ne (by omega), push_ge hx9 q]
    have f2 : ∀ a, a < 136 → mu (mRem ν y) 137 j 2 a = ν a := fun a q => by rw [mu_ne (by omega), rem_ge q]
    by_cases c3 : ν 137 j = 3
    · rw [if_pos c3, if_pos c3]; exact ⟨rfl, ⟨n, d, h2⟩, f1, f2⟩
    · rw [if_neg c3, if_neg c3]
      by_cases c4 : ν 137 j = 4
      · rw [if_pos c4, if_pos c4]; exact ⟨rfl, ⟨n, d, h2⟩, f1, f2⟩
      · rw [if_neg c4, if_neg c4]; exact Pr.same h rfl
  · rw [if_neg hc, if_neg hc]; exact Pr.same h rfl
theorem p_order {μ ν : Me} {n d x y : Nat} {s : Int32} (h : Rel μ ν n d) (hx : μ 28 1 = nI x) (hx9 : x < 30) (hy : μ 28 2 = nI y) (hy9 : y ≤ 30) : Pr (oOrder μ x y s) μ (qOrder ν y s) ν := by
  have h7 := h.1.1.2.1
  unfold oOrder qOrder
  rw [h.1.2.1.1, h.1.1.1]
  by_cases hc : sHas (nI n) s = true
  · obtain ⟨j, hj, rfl⟩ := sHas_j rfl h7 hc
    rw [if_pos hc, if_pos hc, cl_nI (by omega), (h.is (by omega) (show j < 7 by omega)).1]
    by_cases c3 : ν 137 j = 2
    · rw [if_pos c3, if_pos c3]
      exact ⟨rfl, ⟨n, d, (h.push hx hx9 hy hy9).setIs (j := j) (x := 1) (by omega)⟩, fun a q => by dsimp only; rw [mu_ne (by omega), push_ge hx9 q], fun a q => by dsimp only; rw [mu_ne (by omega), rem_ge q]⟩
    · rw [if_neg c3, if_neg c3]; exact Pr.same h rfl
  · rw [if_neg hc, if_neg hc]; exact Pr.same h rfl
theorem p_thank {μ ν : Me} {n d x y : Nat} {s : Int32} (h : Rel μ ν n d) (hx : μ 28 1 = nI x) (hx9 : x < 30) (hy : μ 28 2 = nI y) (hy9 : y ≤ 30) : Pr (oThank μ x y s) μ (qThank ν y s) ν := by
  have h7 := h.1.1.2.1
  unfold oThank qThank
  rw [h.1.2.1.1, h.1.1.1]
  by_cases hc : sHas (nI n) s = true
  · obtain ⟨j, hj, rfl⟩ := sHas_j rfl h7 hc
    rw [if_pos hc, if_pos hc, cl_nI (by omega), (h.1.2.2.1 j hj).2.2.2.1]
    by_cases c3 : ν 143 j = -1
    · rw [if_pos c3, if_pos c3]; exact Pr.same h rfl
    · rw [if_neg c3, if_neg c3]
      have h2 := h.push hx hx9 hy hy9
      exact ⟨(h2.is (by omega) (show j < 7 by omega)).2, ⟨n, d, h2.setTook (j := j) (by omega)⟩, fun a q => by dsimp only; rw [mu_ne (by omega), push_ge hx9 q], fun a q => by dsimp only; rw [mu_ne (by omega), rem_ge q]⟩
  · rw [if_neg hc, if_neg hc]; exact Pr.same h rfl
