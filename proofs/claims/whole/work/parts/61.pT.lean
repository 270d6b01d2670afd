def TX (l t : Nat) (μ ν : Me) : Prop := (l ≤ 240 ∧ μ 1 1 = nI l ∧ ν 136 14 = nI l ∧ ∀ i, i < l → μ 2 i = ν 146 i ∧ ¬ ν 146 i < 0) ∧ (μ 1 4 = nI t ∧ ν 136 15 = nI t ∧ t ≤ l) ∧ μ 1 2 = 0 ∧ ν 136 17 = 0 ∧ μ 1 3 = ν 136 18
def FR (μ ν : Me) : Prop := ∃ k : Nat, 1 ≤ k ∧ k ≤ 4 ∧ μ 1 2 = nI k ∧ ν 136 17 = nI k ∧ μ 1 3 = ν 136 18
theorem mu_oth {μ : Me} {a j b i : Nat} {x : Int32} (h : b = a → i ≠ j) : mu μ a j x b i = μ b i := by rw [mu_at, if_neg (fun q => h q.1 q.2)]
theorem skip_eq {f g : Nat → Int32} {l : Nat} (h : ∀ i, i < l → f i = g i) : ∀ m t, t + m ≤ l → sSkip f m t = sSkip g m t := by
  intro m
  induction m with
  | zero => intro t _; rfl
  | succ m ih => intro t ht; rw [sSkip, sSkip, h t (by omega), ih (t + 1) (by omega)]
theorem skip_stop {f : Nat → Int32} : ∀ m t, sSkip f m t = t + m ∨ ¬ f (sSkip f m t) = 32 := by
  intro m
  induction m with
  | zero => intro t; exact Or.inl rfl
  | succ m ih =>
    intro t
    rw [sSkip]
    by_cases c : f t = 32
    · rw [if_pos c]
      rcases ih (t + 1) with q | q
      · left; omega
      · right; exact q
    · rw [if_neg c]; right; exact c
theorem skip_self {f : Nat → Int32} {l p : Nat} (h : p = l ∨ ¬ f p = 32) : sSkip f (l - p) p = p := by
  cases e : l - p with
  | zero => rfl
  | succ m =>
    rw [sSkip]
    rcases h with q | q
    · omega
    · rw [if_neg q]
theorem TX.len {l t : Nat} {μ ν : Me} (h : TX l t μ ν) : tLen μ = l ∧ tAt μ = t ∧ mLen ν = l ∧ mAt ν = t := by
  obtain ⟨⟨h1, h2, h3, -⟩, ⟨h4, h5, h6⟩, -⟩ := h
  unfold tLen tAt mLen mAt
  rw [h2, h3, h4, h5, cl_nI (by omega), cl_nI (by omega)]
  exact ⟨rfl, rfl, rfl, rfl⟩
theorem TX.at {l t p : Nat} {μ ν : Me} (h : TX l t μ ν) (hp : p ≤ l) : TX l p (mu μ 1 4 (nI p)) (mu ν 136 15 (nI p)) := by
  obtain ⟨⟨h1, h2, h3, h4⟩, -, h5, h6, h7⟩ := h
  refine ⟨⟨h1, ?_, ?_, ?_⟩, ⟨mu_same _ _ _ _, mu_same _ _ _ _, hp⟩, ?_, ?_, ?_⟩
  · rw [mu_nj (by decide)]; exact h2
  · rw [mu_nj (by decide)]; exact h3
  · rw [mu_ne (by decide), mu_ne (by decide)]; exact h4
  · rw [mu_nj (by decide)]; exact h5
  · rw [mu_nj (by decide)]; exact h6
  · rw [mu_nj (by decide), mu_nj (by decide)]; exact h7
theorem TX.c {l t a j : Nat} {x : Int32} {μ ν : Me} (h : TX l t μ ν) (ha : a ≠ 2) (hj : a = 1 → j = 5) : TX l t (mu μ a j x) ν := by
  obtain ⟨⟨h1, h2, h3, h4⟩, ⟨h8, h9, h10⟩, h5, h6, h7⟩ := h
  refine ⟨⟨h1, ?_, h3, ?_⟩, ⟨?_, h9, h10⟩, ?_, h6, ?_⟩
  · rw [mu_oth (fun q => by have := hj q.symm; omega)]; exact h2
  · rw [mu_ne (fun q => ha q.symm)]; exact h4
  · rw [mu_oth (fun q => by have := hj q.symm; omega)]; exact h8
  · rw [mu_oth (fun q => by have := hj q.symm; omega)]; exact h5
  · rw [mu_oth (fun q => by have := hj q.symm; omega)]; exact h7
theorem TX.m {l t a j : Nat} {x : Int32} {μ ν : Me} (h : TX l t μ ν) (ha : a ≠ 146) (hj : a = 136 → j = 16 ∨ j = 9 ∨ j = 12) : TX l t μ (mu ν a j x) := by
  obtain ⟨⟨h1, h2, h3, h4⟩, ⟨h8, h9, h10⟩, h5, h6, h7⟩ := h
  refine ⟨⟨h1, h2, ?_, ?_⟩, ⟨h8, ?_, h10⟩, h5, ?_, ?_⟩
  · rw [mu_oth (fun q => by have := hj q.symm; omega)]; exact h3
  · rw [mu_ne (fun q => ha q.symm)]; exact h4
  · rw [mu_oth (fun q => by have := hj q.symm; omega)]; exact h9
  · rw [mu_oth (fun q => by have := hj q.symm; omega)]; exact h6
  · rw [mu_oth (fun q => by have := hj q.symm; omega)]; exact h7
theorem TX.inc {l t : Nat} {μ ν : Me} (h : TX l t μ ν) (ht : t < l) : TX l (t + 1) (sInc μ) (mInc ν) := by
  have h' := h.at (p := t + 1) ht
  unfold sInc mInc
  rw [h.2.1.1, h.2.1.2.1, nI_1]
  exact h'
theorem peek_eq {l t : Nat} {μ ν : Me} (h : TX l t μ ν) : ∃ p : Nat, t ≤ p ∧ p ≤ l ∧ (sPeek μ).1 = (mHere ν).1 ∧ (mHere ν).1 = (if p < l then ν 146 p else -1) ∧ TX l p (sPeek μ).2 (mHere ν).2 ∧ sPeek (sPeek μ).2 = sPeek μ ∧ mHere (mHere ν).2 = mHere ν := by
  obtain ⟨e1, e2, e3, e4⟩ := h.len
  have h4 := h.1.2.2.2
  have ht := h.2.1.2.2
  have p1 : sPos μ = sSkip (ν 146) (l - t) t := by unfold sPos; rw [e1, e2]; exact skip_eq (fun i q => (h4 i q).1) _ _ (by omega)
  have p2 : mPos ν = sSkip (ν 146) (l - t) t := by unfold mPos; rw [e3, e4]
  have g1 := sSkip_ge (ν 146) (l - t) t
  have g2 := sSkip_le (ν 146) (l - t) t
  have g3 := skip_stop (f := ν 146) (l - t) t
  generalize sSkip (ν 146) (l - t) t = p at p1 p2 g1 g2 g3
  have hp : p ≤ l := by omega
  have hT := h.at hp
  have hs : p = l ∨ ¬ ν 146 p = 32 := by
    rcases g3 with q | q
    · left; omega
    · right; exact q
  have a1 : sPeek μ = (sLook (μ 2) l p, mu μ 1 4 (nI p)) := by unfold sPeek; rw [p1, e1]
  have a2 : mHere ν = (sLook (ν 146) l p, mu ν 136 15 (nI p)) := by unfold mHere; rw [p2, e3]
  have el : sLook (μ 2) l p = sLook (ν 146) l p := by
    unfold sLook
    by_cases c : p < l
    · rw [if_pos c, if_pos c, (h4 p c).1]
    · rw [if_neg c, if_neg c]
  obtain ⟨f1, f2, f3, f4⟩ := hT.len
  have q1 : sPos (mu μ 1 4 (nI p)) = p := by
    unfold sPos
    rw [f1, f2, mu_ne (by decide), skip_eq (fun i q => (h4 i q).1) _ _ (by omega)]
    exact skip_self hs
  have q2 : mPos (mu ν 136 15 (nI p)) = p := by
    unfold mPos
    rw [f3, f4, mu_ne (by decide)]
    exact skip_self hs
  refine ⟨p, g1, hp, ?_, ?_, ?_, ?_, ?_⟩
  · rw [a1, a2]; exact el
  · rw [a2]; rfl
  · rw [a1, a2]; exact hT
  · rw [a1]
    dsimp only
    unfold sPeek
    rw [q1, f1, mu_mu, mu_ne (by decide)]
  · rw [a2]
    dsimp only
    unfold mHere
    rw [q2, f3, mu_mu, mu_ne (by decide)]
theorem fig_n {c : Int32} (h : sIsFig c = true) : ∃ k : Nat, k ≤ 9 ∧ c = nI (48 + k) := by
  obtain ⟨j, h1, h2, rfl⟩ := win_j (a := 48) (b := 57) (by omega) h (by omega)
  exact ⟨j - 48, by omega, by congr 1; omega⟩
theorem dig_eq {f g : Nat → Int32} {l : Nat} (h : ∀ i, i < l → f i = g i) (hl : l ≤ 240) : ∀ (m t q : Nat) (v v' : Int32), t + m ≤ l → q ≤ t → (q ≤ 4 → v = v' ∧ ∃ a : Nat, v = nI a ∧ a < 10 ^ q) → (sDig f m t v (nI q)).1 = (mDig g m t v').1 ∧ (sDig f m t v (nI q)).2.2 = nI (q + ((mDig g m t v').1 - t)) ∧ (q + ((mDig g m t v').1 - t) ≤ 4 → (sDig f m t v (nI q)).2.1 = (mDig g m t v').2) := by
  intro m
  induction m with
  | zero =>
    intro t q v v' ht hq hv
    refine ⟨rfl, ?_, fun w => (hv (by omega)).1⟩
    show nI q = nI (q + (t - t))
    rw [Nat.sub_self, Nat.add_zero]
  | succ m ih =>
    intro t q v v' ht hq hv
    rw [sDig, mDig, h t (by omega)]
    by_cases c : sIsFig (g t) = true
    · rw [if_pos c, if_pos c, nI_1]
      obtain ⟨k, hk, ek⟩ := fig_n c
      have hge := sDigm_ge g m (t + 1) (if v' ≤ 99999 then 10 * v' + g t - 48 else v')
      have key := ih (t + 1) (q + 1) (if 4 < nI (q + 1) then v else v * 10 + g t - 48) (if v' ≤ 99999 then 10 * v' + g t - 48 else v') (by omega) (by omega) (fun w => by
        obtain ⟨e, a, ea, ha⟩ := hv (by omega)
        subst e
        have hp : 10 ^ q ≤ 1000 := by
          rcases (show q = 0 ∨ q = 1 ∨ q = 2 ∨ q = 3 by omega) with rfl | rfl | rfl | rfl <;> decide
        rw [if_neg (show ¬ (4 : Int32) < nI (q + 1) from nI_nlt (a := 4) (b := q + 1) (by omega) (by omega)), ea, if_pos (show (nI a : Int32) ≤ 99999 from nI_le (b := 99999) (by omega) (by decide)), Int32.mul_comm 10]
        refine ⟨rfl, a * 10 + k, ?_, ?_⟩
        · rw [ek, show (nI a : Int32) * 10 = nI (a * 10) from pk_mul a 10, nI_add, show (48 : Int32) = nI 48 from rfl, pk_sub (by omega)]
          congr 1; omega
        · rw [Nat.pow_succ]; omega)
      obtain ⟨k1, k2, k3⟩ := key
      generalize mDig g m (t + 1) (if v' ≤ 99999 then 10 * v' + g t - 48 else v') = R at k1 k2 k3 hge ⊢
      refine ⟨k1, ?_, fun w => k3 (by omega)⟩
      rw [k2]; congr 1; omega
    · rw [if_neg c, if_neg c]
      refine ⟨rfl, ?_, fun w => (hv (by dsimp only at w; omega)).1⟩
      show nI q = nI (q + (t - t))
      rw [Nat.sub_self, Nat.add_zero]
