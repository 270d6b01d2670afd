theorem bit_or2 {x : Int32} {i j : Nat} (hi : i < 7) (hj : j < 7) : sBit (x ||| ((1 : Int32) <<< (nI j &&& 31))) (nI i) = (sBit x (nI i) || decide (i = j)) := by
  have e : (decide (j ≤ i) && decide (i - j = 0)) = decide (i = j) := Bool.eq_iff_iff.mpr (by simp only [Bool.and_eq_true, decide_eq_true_iff]; omega)
  rw [bit_bt (by omega), bit_bt (by omega), b_or, b_shl j (by omega) _ (by omega), b_1 (i - j) (by omega), e]
theorem wN_way {g : Nat → Nat} {n : Nat} (h7 : n ≤ 7) : ∀ (k m : Nat) (used : Int32), k ≤ m → k ≤ 7 → (∀ t, t < k → g t < n) → (∀ s t, s < k → t < k → g s = g t → s = t) → (∀ t, t < k → sBit used (nI (g t)) = false) → (0 < k ∨ ¬ used = 0) → sWay (nI n) m (nI (wN g k)) used = true := by
  intro k
  induction k with
  | zero =>
    intro m used _ _ _ _ _ hu
    have hu' : ¬ used = 0 := by
      rcases hu with q | q
      · omega
      · exact q
    cases m with
    | zero => rw [sWay, decide_eq_false hu']; rfl
    | succ m => rw [sWay, if_pos (show (nI (wN g 0) : Int32) ≤ 0 by show (nI 0 : Int32) ≤ 0; decide), decide_eq_false hu']; rfl
  | succ k ih =>
    intro m used hm hk hg hi hu _
    obtain ⟨m, rfl⟩ : ∃ m', m = m' + 1 := ⟨m - 1, by omega⟩
    have hg6 : ∀ t, t < k + 1 → g t ≤ 6 := fun t ht => by have := hg t ht; omega
    have hlt := wN_lt (g := g) (k + 1) hg6
    have h10 := ten7 (k := k + 1) (by omega)
    have hpos : 0 < wN g (k + 1) := by rw [wN]; omega
    have ed := wN_div (g := g) (k := k) (by omega) hg6
    have es : (nI (wN g (k + 1)) : Int32) - nI (wN g (k + 1)) / 10 * 10 - 1 = nI (g k) := by
      rw [ed, show (nI (wN g k) : Int32) * 10 = nI (wN g k * 10) from pk_mul _ 10, pk_sub (by rw [wN]; omega), show (1 : Int32) = nI 1 from rfl, pk_sub (by rw [wN]; omega)]
      congr 1
      rw [wN]; omega
    have hgk := hg k (by omega)
    rw [sWay, if_neg (nI_nle hpos (by omega))]
    dsimp only
    rw [es, has_n h7 hgk, if_pos rfl, hu k (by omega), if_neg (by decide), ed]
    refine ih m _ (by omega) (by omega) (fun t ht => hg t (by omega)) (fun s t hs ht => hi s t (by omega) (by omega)) (fun t ht => ?_) (Or.inr (or_ne (by omega)))
    have hgt := hg t (by omega)
    rw [bit_or2 (by omega) (by omega), hu t (by omega), decide_eq_false (fun q => by have := hi t k (by omega) (by omega) q; omega)]
    rfl
theorem rOk.isWay {f : Nat → Int32} {k n : Nat} (h : rOk f k n) (h7 : n ≤ 7) (hk : k ≤ 7) (h0 : 0 < k) : sIsWay (nI n) (mWOf f k) = true := by
  have hg := h.g h7
  rw [wOf_n (g := fun t => (f t).toNatClampNeg) k (fun i hi => (hg i hi).1)]
  unfold sIsWay
  refine wN_way h7 k 10 0 (by omega) hk (fun t ht => (hg t ht).2) (fun s t hs ht q => h.2 s t hs ht ?_) (fun t ht => ?_) (Or.inl h0)
  · rw [(hg s hs).1, (hg t ht).1]; exact congrArg nI q
  · have := (hg t ht).2
    exact (by decide +kernel : ∀ j, j < 7 → sBit 0 (nI j) = false) _ (by omega)
def pW (μ : Me) (hs : Int32) (f : Nat → Int32) : Nat → Int32 × Int32 × Int32
  | 0 => (0, 0, 0)
  | i + 1 => (μ 11 (f i).toNatClampNeg, sGone μ hs i (pW μ hs f i).1 (pW μ hs f i).2.1 (f i).toNatClampNeg, sGot μ hs i (pW μ hs f i).1 (pW μ hs f i).2.1 (pW μ hs f i).2.2 (f i).toNatClampNeg)
theorem meets_cg {M μ : Me} {s t k : Int32} {r : Bool} (h : ∀ a, 10 ≤ a → a ≤ 16 → M a = μ a) : sMeets M 10 s t r k = sMeets μ 10 s t r k := by
  unfold sMeets
  rw [h 10 (by omega) (by omega), h (10 + 2) (by omega) (by omega), h (10 + 3) (by omega) (by omega), h (10 + 4) (by omega) (by omega), h (10 + 5) (by omega) (by omega), h (10 + 6) (by omega) (by omega)]
def PI (μ : Me) (hs : Int32) (f : Nat → Int32) (t : Nat) (M : Me) : Prop := (M 23 7 = (pW μ hs f t).1 ∧ M 23 6 = (pW μ hs f t).2.1 ∧ M 23 3 = (pW μ hs f t).2.2 ∧ M 23 5 = nI t) ∧ (∀ s, s < 7 → (∀ u, u < t → ¬ f u = nI s) → M 25 s = μ 18 s ∧ M 26 s = μ 19 s) ∧ ∀ a, 10 ≤ a → a ≤ 16 → M a = μ a
theorem PI.step {μ M : Me} {hs : Int32} {f : Nat → Int32} {t j : Nat} (h : PI μ hs f t M) (hj : j < 7) (ej : f t = nI j) (hc : sCounts (μ 18 j) = true) (hn : ∀ u, u < t → ¬ f u = nI j) : PI μ hs f (t + 1) (sCall M j hs) := by
  obtain ⟨⟨p7, p6, p3, p5⟩, pu, pa⟩ := h
  obtain ⟨u18, u19⟩ := pu j hj hn
  have hcl : (f t).toNatClampNeg = j := by rw [ej, cl_nI (by omega)]
  have e10 : M 10 = μ 10 := pa 10 (by omega) (by omega)
  have hT : M 23 6 + sBetw M 10 (M 23 7) (M 11 j) = sTh μ (pW μ hs f t).1 (pW μ hs f t).2.1 j := by unfold sTh sBetw; rw [p6, p7, pa 11 (by omega) (by omega), e10]
  have hY : M 11 j = μ 11 j := by rw [pa 11 (by omega) (by omega)]
  have eM := callM_eq hT hY
  have hW : M 23 5 + 1 = nI (t + 1) := by rw [p5, nI_1]
  have c25 : sCounts (sCallM M j 25 j) = true := by rw [sCallM_ne (by decide) (by decide), u18]; exact hc
  have ka : ∀ a, 10 ≤ a → a ≤ 16 → mu (cM M j (sTh μ (pW μ hs f t).1 (pW μ hs f t).2.1 j) (μ 11 j)) 23 5 (nI (t + 1)) a = μ a := fun a q1 q2 => by rw [mu_ne (by omega), cM_r.2.2.2.2.2 a (by omega) (by omega), pa a q1 q2]
  have hK : sMeets (mu (cM M j (sTh μ (pW μ hs f t).1 (pW μ hs f t).2.1 j) (μ 11 j)) 23 5 (nI (t + 1))) 10 (nI j) (sTh μ (pW μ hs f t).1 (pW μ hs f t).2.1 j) (sRings (nI (t + 1)) hs) (M 26 j) = sBec μ hs t (pW μ hs f t).1 (pW μ hs f t).2.1 j := by rw [meets_cg ka, u19]; rfl
  have hU : sTh μ (pW μ hs f t).1 (pW μ hs f t).2.1 j + sDoor M 10 (sRings (nI (t + 1)) hs) (sBec μ hs t (pW μ hs f t).1 (pW μ hs f t).2.1 j) = sGone μ hs t (pW μ hs f t).1 (pW μ hs f t).2.1 j := by unfold sGone sDoor; rw [e10]
  have eC : sCall M j hs = sCallD (cB M j (sTh μ (pW μ hs f t).1 (pW μ hs f t).2.1 j) (μ 11 j) (sGone μ hs t (pW μ hs f t).1 (pW μ hs f t).2.1 j) (nI (t + 1)) (sBec μ hs t (pW μ hs f t).1 (pW μ hs f t).2.1 j)) j (sBec μ hs t (pW μ hs f t).1 (pW μ hs f t).2.1 j) := by
    unfold sCall
    rw [if_pos c25, eM]
    exact callB_eq hW hK hU
  rw [eC]
  unfold PI
  rw [pW, hcl]
  unfold sGot
  dsimp only
  generalize sBec μ hs t (pW μ hs f t).1 (pW μ hs f t).2.1 j = K
  generalize sGone μ hs t (pW μ hs f t).1 (pW μ hs f t).2.1 j = U
  generalize sTh μ (pW μ hs f t).1 (pW μ hs f t).2.1 j = T
  obtain ⟨b1, b2, b3, b4, b5, b6, b7, b8⟩ := cB_r (μ := M) (j := j) (T := T) (Y := μ 11 j) (U := U) (W := nI (t + 1)) (K := K)
  have hne : ∀ s, (∀ u, u < t + 1 → ¬ f u = nI s) → s ≠ j := fun s q e => q t (by omega) (by rw [e]; exact ej)
  unfold sCallD
  by_cases k2 : K = 2
  · rw [if_pos k2, if_pos k2]
    refine ⟨⟨?_, ?_, ?_, ?_⟩, fun s hs' q => ?_, fun a q1 q2 => ?_⟩
    · rw [mu_nj (by decide), b5]
    · rw [mu_nj (by decide), b3]
    · rw [mu_same, b6 3 (by omega), p3]
    · rw [mu_nj (by decide), b4]
    · rw [mu_ne (by decide), mu_ne (by decide), b2 s (hne s q), b8 26 (by decide) (by decide) (by decide)]
      exact pu s hs' (fun u hu => q u (by omega))
    · rw [mu_ne (by omega), b8 a (by omega) (by omega) (by omega)]; exact pa a q1 q2
  · rw [if_neg k2, if_neg k2]
    by_cases k3 : K = 3
    · rw [if_pos k3]
      refine ⟨⟨?_, ?_, ?_, ?_⟩, fun s hs' q => ?_, fun a q1 q2 => ?_⟩
      · rw [mu_ne (by decide), b5]
      · rw [mu_ne (by decide), b3]
      · rw [mu_ne (by decide), b6 3 (by omega), p3]
      · rw [mu_ne (by decide), b4]
      · rw [mu_ne (by decide), mu_nj (hne s q), b2 s (hne s q), b8 26 (by decide) (by decide) (by decide)]
        exact pu s hs' (fun u hu => q u (by omega))
      · rw [mu_ne (by omega), b8 a (by omega) (by omega) (by omega)]; exact pa a q1 q2
    · rw [if_neg k3]
      refine ⟨⟨?_, ?_, ?_, ?_⟩, fun s hs' q => ?_, fun a q1 q2 => ?_⟩
      · rw [mu_nj (by decide), b5]
      · rw [mu_nj (by decide), b3]
      · rw [mu_nj (by decide), b6 3 (by omega), p3]
      · rw [mu_nj (by decide), b4]
      · rw [mu_ne (by decide), mu_ne (by decide), b2 s (hne s q), b8 26 (by decide) (by decide) (by decide)]
        exact pu s hs' (fun u hu => q u (by omega))
      · rw [mu_ne (by omega), b8 a (by omega) (by omega) (by omega)]; exact pa a q1 q2
theorem PI.start {μ : Me} {hs : Int32} {f : Nat → Int32} : PI μ hs f 0 (sTBeg μ 17) := by
  obtain ⟨k1, k2, k3, k4⟩ := sCopy_r (μ := μ) (a := 24) (b := 17) (by omega)
  refine ⟨⟨?_, ?_, ?_, ?_⟩, fun s hs' _ => ⟨?_, ?_⟩, fun a q1 q2 => sTBeg_ne (by omega) (by omega) (by omega) (by omega) (by omega)⟩
  · unfold sTBeg; rw [mu_same]; rfl
  · unfold sTBeg; rw [mu_nj (by decide), mu_same]; rfl
  · unfold sTBeg; rw [mu_nj (by decide), mu_nj (by decide), mu_nj (by decide), mu_nj (by decide), mu_same]; rfl
  · unfold sTBeg; rw [mu_nj (by decide), mu_nj (by decide), mu_same]; rfl
  · unfold sTBeg; rw [mu_ne (by decide), mu_ne (by decide), mu_ne (by decide), mu_ne (by decide), mu_ne (by decide), sThere_ne (by decide)]; exact (k1 s hs').1
  · unfold sTBeg; rw [mu_ne (by decide), mu_ne (by decide), mu_ne (by decide), mu_ne (by decide), mu_ne (by decide), sThere_ne (by decide)]; exact (k1 s hs').2
theorem run_pW {μ : Me} {hs : Int32} {f : Nat → Int32} {k n : Nat} (hn : μ 10 3 = nI n) (h7 : n ≤ 7) (hk : k ≤ 7) (h0 : 0 < k) (h : rOk f k n) (hc : ∀ t, t < k → sCounts (μ 18 (f t).toNatClampNeg) = true) : sRun μ (mWOf f k) 17 hs 23 3 = (pW μ hs f k).2.2 ∧ sRun μ (mWOf f k) 17 hs 23 2 = (pW μ hs f k).2.1 + sBetw μ 10 (pW μ hs f k).1 0 := by
  have hw := h.isWay h7 hk h0
  have hg := h.g h7
  have eW := wOf_n (g := fun t => (f t).toNatClampNeg) k (fun i hi => (hg i hi).1)
  have hg6 : ∀ i, i < k → (f i).toNatClampNeg ≤ 6 := fun i hi => by have := (hg i hi).2; omega
  have eD : dg 10 (mWOf f k) = k := by rw [eW]; exact dg_n k 10 (by omega) hk hg6
  obtain ⟨w, -, -, -, e1, e2, -⟩ := way_all h7 hw
  rw [eD] at e1 e2
  have eF : ∀ t, t < k → sFig (mWOf f k) (k - 1 - t) = f t := fun t ht => by
    rw [← e2 t ht, eW, stopOf_n hk hg6 ht]
    exact (hg t ht).1.symm
  have key : ∀ t, t ≤ k → ∃ M, PI μ hs f t M ∧ sRL (mWOf f k) hs k (sTBeg μ 17) = sRL (mWOf f k) hs (k - t) M := by
    intro t
    induction t with
    | zero => intro _; exact ⟨_, PI.start, rfl⟩
    | succ t ih =>
      intro ht
      obtain ⟨M, hP, eq⟩ := ih (by omega)
      obtain ⟨g1, g2⟩ := hg t (by omega)
      refine ⟨sCall M (f t).toNatClampNeg hs, hP.step (by omega) g1 (hc t (by omega)) (fun u hu q => ?_), ?_⟩
      · have := h.2 u t (by omega) (by omega) (q.trans g1.symm); omega
      · have hh : sHas (M 10 3) (f t) = true := by rw [hP.2.2 10 (by omega) (by omega), hn, g1]; exact has_n h7 g2
        rw [eq, show k - t = (k - 1 - t) + 1 by omega, sRL, eF t (by omega), if_pos hh, show k - (t + 1) = k - 1 - t by omega]
  obtain ⟨M, ⟨⟨p7, p6, p3, -⟩, -, pa⟩, eq⟩ := key k (Nat.le_refl _)
  rw [Nat.sub_self] at eq
  unfold sRun
  rw [e1, eq]
  show sRunT M 23 3 = _ ∧ sRunT M 23 2 = _
  unfold sRunT
  refine ⟨?_, ?_⟩
  · rw [mu_ne (by decide), mu_ne (by decide), mu_ne (by decide), mu_nj (by decide)]; exact p3
  · rw [mu_ne (by decide), mu_ne (by decide), mu_ne (by decide), mu_same]
    unfold sBetw
    rw [p6, p7, pa 10 (by omega) (by omega)]
