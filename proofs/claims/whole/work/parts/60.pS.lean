theorem slF_r {ν : Me} : ∀ i, i ≤ 7 → ∀ s, s < i → mSlF ν i 137 (18 + s) = 1 ∧ mSlF ν i 137 (25 + s) = 0 := by
  intro i
  induction i with
  | zero => intro _ s hs; exact absurd hs (Nat.not_lt_zero _)
  | succ i ih =>
    intro hi s hs
    rw [mSlF]
    by_cases e : s = i
    · subst e; rw [mu_nj (by omega), mu_same, mu_same]; exact ⟨rfl, rfl⟩
    · rw [mu_nj (by omega), mu_nj (by omega), mu_nj (by omega), mu_nj (by omega)]; exact ih (by omega) s (by omega)
theorem Rel.slip {μ ν : Me} {n d : Nat} {way h : Int32} (hr : Rel μ ν n d) (hw : sIsWay (nI n) way = true) (hh : sWithin h 0 3 = true) : sRun μ way 20 h 23 4 = (mSlip ν way h).2 136 21 ∧ Rel (sRun μ way 20 h) (mSlip ν way h).2 n d ∧ (∀ a, 136 ≤ a → sRun μ way 20 h a = μ a) ∧ (∀ a, a < 136 → (mSlip ν way h).2 a = ν a) := by
  have h7 := hr.1.1.2.1
  have hS' : RS μ (mCopy ν 0 18) n d := hr.1.fr (fun a _ _ => rfl) (by rw [copy_ne (by decide)]) (by rw [copy_ne (by decide)]) (fun a s _ _ _ _ => by rw [copy_ne (by omega)]) (fun h _ => by rw [copy_ne (by decide)])
  have hS2 : RS μ (mSlF (mCopy ν 0 18) 7) n d := hS'.of (fun a _ _ => rfl) (slF_fr 7 (by omega))
  have hU := hr.2.2.2.2.2.2.2.2
  have t := trip0 (a := 20) (b := 18) (haste := h) hS2 (fun s hs => ⟨by rw [(slF_r 7 (by omega) s hs).1]; exact (hU s hs).1, by rw [show 18 + 7 + s = 25 + s by omega, (slF_r 7 (by omega) s hs).2]; exact (hU s hs).2⟩) (by omega) hw hh
  have fr := mSlip_fr (ν := ν) (h := h) (mWok.of rfl h7 hw) h7
  refine ⟨t, ?_, fun a q => sRun_ne (by omega), fun a q => ?_⟩
  · exact hr.tried (fun a q _ => sRun_ne (by omega)) (fun j q => by rw [fr.2.1 j q.1 q.2, copy_ne (by decide)]) (fun a q1 q2 => by rw [fr.1 a (by omega) (by omega) (by omega), copy_ne (by omega)]) (fun j q => by rw [fr.2.2 j (by omega), copy_lo (by omega)])
  · rw [fr.1 a (by omega) (by omega) (by omega), copy_ne (by omega)]
theorem fits_iff {x : Int32} {g h : Nat → Int32} : ∀ m i, sFits x g h m i = true ↔ ∀ k, i ≤ k → k < i + m → b2i (sBit x (g k)) = h k := by
  intro m
  induction m with
  | zero => intro i; exact ⟨fun _ k q1 q2 => absurd q2 (by omega), fun _ => rfl⟩
  | succ m ih =>
    intro i
    rw [sFits]
    by_cases c : b2i (sBit x (g i)) = h i
    · rw [if_pos c, ih]
      refine ⟨fun w k q1 q2 => ?_, fun w k q1 q2 => w k (by omega) (by omega)⟩
      by_cases e : k = i
      · subst e; exact c
      · exact w k (by omega) (by omega)
    · rw [if_neg c]
      exact ⟨fun w => absurd w (by decide), fun w => absurd (w i (Nat.le_refl _) (by omega)) c⟩
theorem fit_iff {x : Int32} {g h : Nat → Int32} : ∀ m, mFit x g h m = true ↔ ∀ k, k < m → b2i (sBit x (g k)) = h k := by
  intro m
  induction m with
  | zero => exact ⟨fun _ k q => absurd q (Nat.not_lt_zero _), fun _ => rfl⟩
  | succ m ih =>
    rw [mFit, Bool.and_eq_true, ih, decide_eq_true_iff]
    refine ⟨fun w k q => ?_, fun w => ⟨fun k q => w k (by omega), w m (by omega)⟩⟩
    by_cases e : k = m
    · subst e; exact w.2
    · exact w.1 k (by omega)
theorem fits_eq {x : Int32} {g h g' h' : Nat → Int32} {z : Nat} (e : ∀ i, i < z → g i = g' i ∧ h i = h' i) : sFits x g h z 0 = mFit x g' h' z := by
  rw [Bool.eq_iff_iff, fits_iff, fit_iff]
  refine ⟨fun w k q => ?_, fun w k _ q => ?_⟩
  · rw [← (e k q).1, ← (e k q).2]; exact w k (by omega) (by omega)
  · rw [(e k (by omega)).1, (e k (by omega)).2]; exact w k (by omega)
theorem or16 : ∀ m, m < 16 → ∀ h, h < 4 → ∀ B : Bool, nI m ||| (b2i B <<< (nI h &&& 31)) = nI (m ||| (if B then 1 <<< h else 0)) ∧ m ||| (if B then 1 <<< h else 0) < 16 := by decide +kernel
theorem pop16 : ∀ m, m < 16 → sBC (nI m) = mPop (nI m) 4 := by decide +kernel
theorem Rel.rg {μ ν : Me} {n d z : Nat} {way : Int32} (hr : Rel μ ν n d) (hw : sIsWay (nI n) way = true) (hz : ∀ i, i < z → μ 121 i = ν 149 i ∧ μ 122 i = ν 150 i) : ∀ h, h ≤ 4 → (sRgL way z μ h).1 = (mFH ν way z h).1 ∧ Rel (sRgL way z μ h).2 (mFH ν way z h).2 n d ∧ (∀ i, i < h → (sRgL way z μ h).2 135 i = (mFH ν way z h).2 151 i) ∧ ((∀ a, 136 ≤ a → (sRgL way z μ h).2 a = μ a) ∧ (∀ a, a < 136 → (mFH ν way z h).2 a = ν a)) ∧ ((mFH ν way z h).2 149 = ν 149 ∧ (mFH ν way z h).2 150 = ν 150) ∧ ∃ m : Nat, m < 16 ∧ (mFH ν way z h).1 = nI m := by
  intro h
  induction h with
  | zero => intro _; exact ⟨rfl, hr, fun i q => absurd q (Nat.not_lt_zero _), ⟨fun _ _ => rfl, fun _ _ => rfl⟩, ⟨rfl, rfl⟩, 0, by omega, rfl⟩
  | succ h ih =>
    intro hh
    have h7 := hr.1.1.2.1
    obtain ⟨e1, p1, f1, ⟨a1, b1⟩, ⟨c1, c2⟩, m, hm, em⟩ := ih (by omega)
    rw [sRgL, mFH]
    dsimp only
    generalize sRgL way z μ h = S at e1 p1 f1 a1 ⊢
    generalize mFH ν way z h = N at e1 p1 f1 b1 c1 c2 em ⊢
    obtain ⟨t1, t2, t3, t4⟩ := p1.slip (h := nI h) hw (win4 (by omega))
    have fr := mSlip_fr (ν := N.2) (h := nI h) (mWok.of rfl h7 hw) h7
    unfold mFHm
    have g9 : (mSlip N.2 way (nI h)).2 149 = ν 149 := by rw [fr.1 149 (by decide) (by decide) (by decide), copy_ne (by decide), c1]
    have g0 : (mSlip N.2 way (nI h)).2 150 = ν 150 := by rw [fr.1 150 (by decide) (by decide) (by decide), copy_ne (by decide), c2]
    have g1 : (mSlip N.2 way (nI h)).2 151 = N.2 151 := by rw [fr.1 151 (by decide) (by decide) (by decide), copy_ne (by decide)]
    have s5 : sRun S.2 way 20 (nI h) 135 = S.2 135 := sRun_ne (by omega)
    rw [mu_ne (show 149 ≠ 151 by decide), mu_ne (show 150 ≠ 151 by decide), g9, g0, mu_same, t1, fits_eq hz, e1, em]
    generalize (mSlip N.2 way (nI h)).2 136 21 = X at t1 ⊢
    obtain ⟨o1, o2⟩ := or16 m hm h (by omega) (mFit X (ν 149) (ν 150) z)
    refine ⟨?_, ?_, fun i q => ?_, ⟨fun a q => ?_, fun a q => ?_⟩, ⟨rfl, rfl⟩, _, o2, o1⟩
    · cases mFit X (ν 149) (ν 150) z with
      | true => rfl
      | false => rw [if_neg (by decide)]; exact (or0 _ _).symm
    · exact t2.tried (fun a q _ => mu_ne (by omega)) (fun j _ => by rw [mu_ne (by decide)]) (fun a q1 q2 => mu_ne (by omega)) (fun j _ => by rw [mu_ne (by decide)])
    · by_cases e : i = h
      · subst e; rw [mu_same, mu_same]
      · rw [mu_nj e, mu_nj e, s5, g1]; exact f1 i (by omega)
    · rw [mu_ne (by omega), t3 a q, a1 a q]
    · rw [mu_ne (by omega), t4 a q, b1 a q]
theorem and3 {fit x : Int32} {h s : Nat} : (fit >>> (nI h &&& 31)) &&& (x >>> (nI s &&& 31)) &&& 1 = b2i (sBit fit (nI h) && sBit x (nI s)) := by
  rw [Int32.and_assoc, bit_and]
  cases sBit x (nI s) with
  | false => rw [Bool.and_false]; exact Int32.and_zero
  | true => rw [Bool.and_true]; exact bit_and
theorem askN_eq {fit : Int32} {f g : Nat → Int32} {s : Nat} : ∀ h, (∀ i, i < h → f i = g i) → sAskN fit f s h = mAskN fit g s h := by
  intro h
  induction h with
  | zero => intro _; rfl
  | succ h ih => intro e; rw [sAskN, mAskN, ih (fun i q => e i (by omega)), e h (by omega), and3]
theorem wst_eq {all fit : Int32} {f g : Nat → Int32} {s : Nat} (e : ∀ i, i < 4 → f i = g i) : sMax (sAskN fit f s 4) (all - sAskN fit f s 4) = mWst all fit g s := by
  unfold sMax mWst
  rw [askN_eq 4 e]
  generalize mAskN fit g s 4 = x
  generalize all - x = y
  by_cases c : x < y
  · rw [if_pos c, if_pos (Int32.le_of_lt c)]
  · rw [if_neg c]
    by_cases c2 : x ≤ y
    · rw [if_pos c2]; exact Int32.le_antisymm c2 (Int32.not_lt.mp c)
    · rw [if_neg c2]
theorem ask_eq {all fit : Int32} {f g : Nat → Int32} (e : ∀ i, i < 4 → f i = g i) : ∀ n, sAsk all fit f n = ((mAsk all fit g n).2, (mAsk all fit g n).1) := by
  intro n
  induction n with
  | zero => rfl
  | succ n ih =>
    rw [sAsk, mAsk, ih, wst_eq e]
    dsimp only
    by_cases c : (mAsk all fit g n).2 ≤ mWst all fit g n
    · rw [if_pos c, if_pos c, if_pos c]
    · rw [if_neg c, if_neg c, if_neg c]
theorem p_rang {μ ν : Me} {n d z : Nat} {way w : Int32} (h : Rel μ ν n d) (hz : μ 120 2 = nI z) (hz9 : z ≤ 6) : Pr (oRang μ n z way w) μ (qRang ν n z way w) ν := by
  obtain ⟨z', h9, z1, z2, z3⟩ := h.2.2.2.2.2.2.1
  have el : z' = z := (nI_eq (by omega) (by omega)).mp (z1.symm.trans hz)
  subst el
  unfold oRang qRang
  rw [h.1.1.1, h.1.2.1.1]
  by_cases c1 : sIsWay (nI n) way = true
  · rw [if_pos c1, if_pos c1]
    by_cases c2 : sWithin w 0 1 = true
    · rw [if_pos c2, if_pos c2]
      obtain ⟨e1, p1, f1, ⟨a1, b1⟩, -, m, hm, em⟩ := h.rg c1 z3 4 (Nat.le_refl _)
      refine ⟨?_, ⟨n, d, p1⟩, a1, b1⟩
      dsimp only
      rw [e1, ask_eq f1, em, pop16 m hm]
    · rw [if_neg c2, if_neg c2]; exact Pr.same h rfl
  · rw [if_neg c1, if_neg c1]; exact Pr.same h rfl
