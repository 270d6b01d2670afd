theorem zB.visit {ν : Me} {n b s : Nat} {tm : Int32} {rg : Bool} (h : zB ν n b) (h7 : n ≤ 7) (hs : s < n) : zB (mVisit ν b s tm rg).2 n b := by
  have e143 : (mVisit ν b s tm rg).2 143 = ν 143 := ((mFr.rfl' b ν).visit (by omega)).1 143 (by decide) (by decide) (by decide)
  intro s' hs' e
  rw [e143] at e
  unfold mVisit
  cases hA : mHand ν s tm rg with
  | true =>
    rw [if_pos rfl]
    obtain ⟨v1, v2, v3, v4, v5⟩ := visA_r (ν := ν) (b := b) (j := s) (rg := rg)
    rw [v5 (b + 7 + s') (by omega)]; exact h s' hs' e
  | false =>
    rw [if_neg (by decide)]
    obtain ⟨v1, v2, v3, v4, v5, v6, v7⟩ := visB_r (ν := ν) (b := b) (j := s) (rg := rg) (nb := mNb ν b s tm) (by omega)
    by_cases q : s' = s
    · subst q
      have hn : mNb ν b s' tm = false := by unfold mNb; rw [e]; rfl
      rw [v5, hn, h s' hs' e]; rfl
    · rw [v7 _ (by omega) (by omega) (by omega)]; exact h s' hs' e
theorem zB.rl {ν : Me} {n b : Nat} {way haste : Int32} (hw : mWok way n) (h7 : n ≤ 7) (h : zB ν n b) : ∀ i, i ≤ dg 10 way → zB (mRL b way haste ν i).2.2.2 n b := by
  intro i
  induction i with
  | zero => intro _; exact h
  | succ i ih =>
    intro hi
    have g := ih (by omega)
    obtain ⟨j, hj, ej⟩ := hw i (by omega)
    rw [mRL]
    generalize mRL b way haste ν i = q at g ⊢
    obtain ⟨tm, yd, tn, N⟩ := q
    dsimp only at g
    have g2 : ∀ T, zB (mu N 147 j T) n b := fun T => g.fr h7 (fun s _ => by rw [mu_ne (by decide)]) (fun c _ _ => by rw [mu_ne (by decide)])
    by_cases hc : sCounts (mu N 147 j (tm + sFar (N 140 j) yd * N 139 1) 137 (b + j)) = true
    · rw [mSt_c ej (by omega) rfl hc]
      exact (g2 _).visit h7 hj
    · rw [mSt_n ej (by omega) rfl hc]
      exact g2 _
theorem zB.round {ν : Me} {n b : Nat} {way haste : Int32} (hw : mWok way n) (h7 : n ≤ 7) (h : zB ν n b) : zB (mRoundIn ν b way haste).2 n b := by
  have h1 : zB (mRI0 ν) n b := by
    refine h.fr h7 (fun s _ => ?_) (fun c _ _ => ?_)
    · unfold mRI0; rw [mu_ne (by decide), mu_ne (by decide), fill_ne (by decide)]
    · unfold mRI0; rw [mu_ne (by decide), mu_ne (by decide), fill_ne (by decide)]
  have h2 := zB.rl (haste := haste) hw h7 h1 (dg 10 way) (Nat.le_refl _)
  unfold mRoundIn mRE
  generalize mRL b way haste (mRI0 ν) (dg 10 way) = q at h2 ⊢
  obtain ⟨tm, yd, tn, N⟩ := q
  dsimp only at h2 ⊢
  intro s hs e
  rw [mu_ne (by decide), mu_ne (by decide)] at e
  rw [mu_nj (by omega), mu_nj (by omega)]
  exact h2 s hs e
theorem Rel.drive {μ ν : Me} {n d : Nat} {way h : Int32} (hr : Rel μ ν n d) (hw : sIsWay (nI n) way = true) (hh : sWithin h 0 3 = true) : sDrive μ way h 23 2 = (mRoundIn ν 0 way h).1 ∧ Rel (sDrive μ way h) (mRoundIn ν 0 way h).2 n d := by
  have h7 := hr.1.1.2.1
  obtain ⟨hd, hz, ⟨z, z9, z1, z2⟩, hb⟩ := hr.2.2.2.1
  obtain ⟨t1, t2, t3, t4, t5⟩ := trip (haste := h) hr.1 hd (by omega) hw hh
  have wk := mWok.of rfl h7 hw
  have fr := mRI_fr (b := 0) (ν := ν) (haste := h) wk h7
  have e143 : (mRoundIn ν 0 way h).2 143 = ν 143 := fr.1 143 (by decide) (by decide) (by decide)
  have e144 : (mRoundIn ν 0 way h).2 144 = ν 144 := fr.1 144 (by decide) (by decide) (by decide)
  have hc : ∀ a, (a < 17 ∨ (19 < a ∧ a < 23) ∨ 27 < a) → sDrive μ way h a = μ a := fun a q => by unfold sDrive; rw [sCopy_ne (by omega) (by omega) (by omega), sRun_ne (by omega)]
  refine ⟨?_, ?_⟩
  · unfold sDrive; rw [sCopy_ne (by omega) (by omega) (by omega)]; exact t1
  · refine hr.deed (fun a q _ => hc a (by omega)) (fun j q => fr.2.1 j q.1 q.2.1) (fun a q1 q2 => fr.1 a (by omega) q1 (by omega)) (fun j q => fr.2.2 j (by omega)) ⟨t5.copy (sCopy_r (by omega)) (fun k _ => rfl), hz.round wk h7, ⟨z, z9, ?_, ?_⟩, ?_⟩ ?_
    · rw [hc 0 (by omega)]; exact z1
    · rw [fr.2.2 17 (by omega)]; exact z2
    · rw [e143, e144]; exact hb
    · exact hr.2.2.2.2.1.fr h7 (fun a q1 q2 => hc a (by omega)) (fr.2.1 22 (by decide) (by decide)) (fun s _ => by rw [e143]) (fun c q1 q2 => fr.2.2 c (by omega))
theorem drive_ge {μ : Me} {way h : Int32} {a : Nat} (q : 136 ≤ a) : sDrive μ way h a = μ a := sDrive_ne (by omega)
theorem round_lt {ν : Me} {n b a : Nat} {way h : Int32} (hw : mWok way n) (h7 : n ≤ 7) (q : a < 136) : (mRoundIn ν b way h).2 a = ν a := (mRI_fr hw h7).1 a (by omega) (by omega) (by omega)
theorem ref_t {μ : Me} {n : Nat} {way h : Int32} (hn : μ 10 3 = nI n) (h1 : sIsWay (nI n) way = true) (h2 : sWithin h 0 3 = true) : sRef μ way h = 0 := by unfold sRef; rw [hn, if_pos h1, if_pos h2]
theorem ref_o {μ : Me} {n : Nat} {way h : Int32} (hn : μ 10 3 = nI n) (h1 : sIsWay (nI n) way = true) (h2 : ¬ sWithin h 0 3 = true) : sRef μ way h = -1000000002 := by unfold sRef; rw [hn, if_pos h1, if_neg h2]
theorem ref_u {μ : Me} {n : Nat} {way h : Int32} (hn : μ 10 3 = nI n) (h1 : ¬ sIsWay (nI n) way = true) : sRef μ way h = -1000000001 := by unfold sRef; rw [hn, if_neg h1]
theorem p_round {μ ν : Me} {n d x y : Nat} {way k : Int32} (h : Rel μ ν n d) (hx : μ 28 1 = nI x) (hx9 : x < 30) (hy : μ 28 2 = nI y) (hy9 : y ≤ 30) : Pr (oRound μ x y way k) μ (qRound ν y way k) ν := by
  have h7 := h.1.1.2.1
  have n3 := h.1.2.1.1
  unfold oRound qRound
  rw [h.1.1.1]
  by_cases c1 : sIsWay (nI n) way = true
  · rw [if_pos c1]
    by_cases c2 : sWithin k 0 3 = true
    · rw [if_pos c2, ref_t n3 c1 c2, if_pos rfl, h.2.2.2.1.1.s0.2.1]
      by_cases c3 : ν 137 14 ≤ 9000
      · rw [if_pos c3, if_pos c3]
        obtain ⟨t1, t2⟩ := (h.push hx hx9 hy hy9).drive c1 c2
        exact ⟨t1, ⟨n, d, t2⟩, fun a q => (drive_ge q).trans (push_ge hx9 q), fun a q => (round_lt (mWok.of rfl h7 c1) h7 q).trans (rem_ge q)⟩
      · rw [if_neg c3, if_neg c3]; exact Pr.same h rfl
    · rw [if_neg c2, ref_o n3 c1 c2, if_neg (by decide)]; exact Pr.same h rfl
  · rw [if_neg c1, ref_u n3 c1, if_neg (by decide)]; exact Pr.same h rfl
theorem Rel.try {μ ν : Me} {n d : Nat} {way h : Int32} (hr : Rel μ ν n d) (hw : sIsWay (nI n) way = true) (hh : sWithin h 0 3 = true) : sRun μ way 17 h 23 2 = (mTry ν way h).1 ∧ sRun μ way 17 h 23 3 = (mTry ν way h).2 136 20 ∧ sRun μ way 17 h 23 4 = (mTry ν way h).2 136 21 ∧ (∀ s, s < 7 → sRun μ way 17 h 27 s = (mTry ν way h).2 147 s) ∧ (∀ s, s < 7 → sRun μ way 17 h 25 s = (mTry ν way h).2 137 (18 + s)) ∧ Rel (sRun μ way 17 h) (mTry ν way h).2 n d ∧ (∀ a, 136 ≤ a → sRun μ way 17 h a = μ a) ∧ (∀ a, a < 136 → (mTry ν way h).2 a = ν a) := by
  have h7 := hr.1.1.2.1
  have hS' : RS μ (mCopy ν 0 18) n d := hr.1.fr (fun a _ _ => rfl) (by rw [copy_ne (by decide)]) (by rw [copy_ne (by decide)]) (fun a s _ _ _ _ => by rw [copy_ne (by omega)]) (fun h _ => by rw [copy_ne (by decide)])
  have hd' : dR n μ 17 (mCopy ν 0 18) 18 := hr.2.2.2.1.1.copy ⟨fun _ _ => ⟨rfl, rfl⟩, rfl, rfl, rfl⟩ (fun k q => copy_r (by omega) (by omega))
  obtain ⟨t1, t2, t3, t4, t5⟩ := trip (haste := h) hS' hd' (by omega) hw hh
  have fr := mTry_fr (ν := ν) (haste := h) (mWok.of rfl h7 hw) h7
  refine ⟨t1, t2, t3, t4, fun s hs => (t5.1 (way_pos h7 hw) s hs).1, ?_, fun a q => sRun_ne (by omega), fun a q => ?_⟩
  · exact hr.tried (fun a q _ => sRun_ne (by omega)) (fun j q => by rw [fr.2.1 j q.1 q.2, copy_ne (by decide)]) (fun a q1 q2 => by rw [fr.1 a (by omega) (by omega) (by omega), copy_ne (by omega)]) (fun j q => by rw [fr.2.2 j (by omega), copy_lo (by omega)])
  · rw [fr.1 a (by omega) (by omega) (by omega), copy_ne (by omega)]
theorem p_home {μ ν : Me} {n d : Nat} {way k : Int32} (h : Rel μ ν n d) : Pr (oHome μ way k) μ (qHome ν way k) ν := by
  have n3 := h.1.2.1.1
  unfold oHome qHome
  rw [h.1.1.1]
  by_cases c1 : sIsWay (nI n) way = true
  · rw [if_pos c1]
    by_cases c2 : sWithin k 0 3 = true
    · rw [if_pos c2, ref_t n3 c1 c2, if_pos rfl]
      obtain ⟨t1, t2, t3, t4, t5, t6, t7, t8⟩ := h.try c1 c2
      exact ⟨t1, ⟨n, d, t6⟩, t7, t8⟩
    · rw [if_neg c2, ref_o n3 c1 c2, if_neg (by decide)]; exact Pr.same h rfl
  · rw [if_neg c1, ref_u n3 c1, if_neg (by decide)]; exact Pr.same h rfl
theorem p_comes {μ ν : Me} {n d : Nat} {s way k : Int32} (h : Rel μ ν n d) : Pr (oComes μ s way k) μ (qComes ν s way k) ν := by
  have n3 := h.1.2.1.1
  have h7 := h.1.1.2.1
  unfold oComes qComes
  rw [h.1.1.1, n3]
  by_cases hc : sHas (nI n) s = true
  · obtain ⟨j, hj, rfl⟩ := sHas_j rfl h7 hc
    rw [if_pos hc, if_pos hc, cl_nI (by omega)]
    by_cases c1 : sIsWay (nI n) way = true
    · rw [if_pos c1]
      by_cases c2 : sWithin k 0 3 = true
      · rw [if_pos c2, ref_t n3 c1 c2, if_pos rfl]
        obtain ⟨t1, t2, t3, t4, t5, t6, t7, t8⟩ := h.try c1 c2
        exact ⟨t4 j (by omega), ⟨n, d, t6⟩, t7, t8⟩
      · rw [if_neg c2, ref_o n3 c1 c2, if_neg (by decide)]; exact Pr.same h rfl
    · rw [if_neg c1, ref_u n3 c1, if_neg (by decide)]; exact Pr.same h rfl
  · rw [if_neg hc, if_neg hc]; exact Pr.same h rfl
theorem fgs_eq {f g : Nat → Int32} : ∀ n, (∀ i, i < n → f i = g (18 + i)) → sFgs f n = mFgs g n := by
  intro n
  induction n with
  | zero => intro _; rfl
  | succ n ih => intro h; rw [sFgs, mFgs, ih (fun i hi => h i (by omega)), h n (by omega), Int32.mul_comm]
theorem p_outcome {μ ν : Me} {n d : Nat} {way k : Int32} (h : Rel μ ν n d) : Pr (oOutcome μ n way k) μ (qOutcome ν n way k) ν := by
  have n3 := h.1.2.1.1
  have h7 := h.1.1.2.1
  unfold oOutcome qOutcome
  rw [h.1.1.1]
  by_cases c1 : sIsWay (nI n) way = true
  · rw [if_pos c1]
    by_cases c2 : sWithin k 0 3 = true
    · rw [if_pos c2, ref_t n3 c1 c2, if_pos rfl]
      obtain ⟨t1, t2, t3, t4, t5, t6, t7, t8⟩ := h.try c1 c2
      exact ⟨fgs_eq n (fun i hi => t5 i (by omega)), ⟨n, d, t6⟩, t7, t8⟩
    · rw [if_neg c2, ref_o n3 c1 c2, if_neg (by decide)]; exact Pr.same h rfl
  · rw [if_neg c1, ref_u n3 c1, if_neg (by decide)]; exact Pr.same h rfl
theorem p_bath {μ ν : Me} {n d : Nat} {s a b m : Int32} (h : Rel μ ν n d) : Pr (oBath μ s a b m) μ (qBath ν s a b m) ν := by
  have n3 := h.1.2.1.1
  have h7 := h.1.1.2.1
  unfold oBath qBath
  rw [h.1.1.1, n3]
  by_cases hc : sHas (nI n) s = true
  · obtain ⟨j, hj, rfl⟩ := sHas_j rfl h7 hc
    rw [if_pos hc, if_pos hc, cl_nI (by omega)]
    by_cases c1 : sIsWay (nI n) a = true
    · rw [if_pos c1, if_pos c1]
      by_cases c2 : sIsWay (nI n) b = true
      · rw [if_pos c2, if_pos c2]
        by_cases c3 : sWithin m 1 99 = true
        · rw [if_pos c3, if_pos c3]
          obtain ⟨-, -, -, t4, -, t6, t7, t8⟩ := h.try (h := 0) c1 (by decide)
          obtain ⟨-, -, -, u4, -, u6, u7, u8⟩ := t6.try (h := 0) c2 (by decide)
          refine ⟨?_, ⟨n, d, u6⟩, fun c q => (u7 c q).trans (t7 c q), fun c q => (u8 c q).trans (t8 c q)⟩
          dsimp only
          rw [t4 j (by omega), u4 j (by omega)]
        · rw [if_neg c3, if_neg c3]; exact Pr.same h rfl
      · rw [if_neg c2, if_neg c2]; exact Pr.same h rfl
    · rw [if_neg c1, if_neg c1]; exact Pr.same h rfl
  · rw [if_neg hc, if_neg hc]; exact Pr.same h rfl
theorem p_pretends {μ ν : Me} {n d : Nat} {way k w : Int32} (h : Rel μ ν n d) : Pr (oPretends μ way k w) μ (qPretends ν way k w) ν := by
  have n3 := h.1.2.1.1
  unfold oPretends qPretends
  rw [h.1.1.1]
  by_cases c1 : sIsWay (nI n) way = true
  · rw [if_pos c1]
    by_cases c2 : sWithin k 0 3 = true
    · rw [if_pos c2, ref_t n3 c1 c2, if_pos rfl]
      by_cases c3 : sWithin w 0 1 = true
      · rw [if_pos c3, if_pos c3]
        obtain ⟨t1, t2, -, -, -, t6, t7, t8⟩ := h.try (h := 0) c1 (by decide)
        obtain ⟨u1, u2, -, -, -, u6, u7, u8⟩ := t6.try (h := k) c1 c2
        refine ⟨?_, ⟨n, d, u6⟩, fun c q => (u7 c q).trans (t7 c q), fun c q => (u8 c q).trans (t8 c q)⟩
        dsimp only
        rw [t1, t2, u1, u2]
      · rw [if_neg c3, if_neg c3]; exact Pr.same h rfl
    · rw [if_neg c2, ref_o n3 c1 c2, if_neg (by decide)]; exact Pr.same h rfl
  · rw [if_neg c1, ref_u n3 c1, if_neg (by decide)]; exact Pr.same h rfl
theorem far_sym (x y : Int32) : sFar x y = sFar y x := by
  unfold sFar
  by_cases h1 : y ≤ x
  · by_cases h2 : x ≤ y
    · have := Int32.le_antisymm h1 h2
      subst this; rfl
    · rw [if_pos h1, if_neg h2]
  · rw [if_neg h1]
    by_cases h2 : x ≤ y
    · rw [if_pos h2]
    · exact absurd (Int32.le_of_lt (Int32.not_le.mp h1)) h2
theorem near_eq {f g : Nat → Int32} {set dd : Int32} {y : Nat} (hy : y ≤ 99) : ∀ n, (∀ i, i < n → f i = g i ∧ ∃ c : Nat, g i = nI c ∧ c ≤ 99) → sNear f set (nI y) dd n = mNear g set dd y n := by
  intro n
  induction n with
  | zero => intro _; rfl
  | succ n ih =>
    intro h
    obtain ⟨e, c, ec, hc⟩ := h n (by omega)
    rw [sNear, mNear, ih (fun i hi => h i (by omega)), e, ec, abs_far hc hy, far_sym]
    cases sBit set (nI n) with
    | false => rw [if_neg (by decide), Bool.false_and]; exact (Int32.add_zero _).symm
    | true =>
      rw [if_pos rfl, Bool.true_and]
      by_cases q : dd < sFar (nI c) (nI y)
      · rw [if_pos q, decide_eq_true q]; exact (Int32.add_zero _).symm
      · rw [if_neg q, decide_eq_false q]; rfl
theorem lock_eq {f g : Nat → Int32} {set dd : Int32} {n : Nat} (h : ∀ i, i < n → f i = g i ∧ ∃ c : Nat, g i = nI c ∧ c ≤ 99) : ∀ y, y ≤ 100 → sLock f set dd n y = mLock g set dd n y := by
  intro y
  induction y with
  | zero => intro _; rfl
  | succ y ih =>
    intro hy
    rw [sLock, mLock, ih (by omega), near_eq (by omega) n h]
    by_cases q : mNear g set dd y n ≤ (mLock g set dd n y).2
    · rw [if_pos q, if_pos q, if_pos q]
    · rw [if_neg q, if_neg q, if_neg q]
theorem p_locker {μ ν : Me} {n d : Nat} {way dd w : Int32} (h : Rel μ ν n d) : Pr (oLocker μ n way dd w) μ (qLocker ν n way dd w) ν := by
  have n3 := h.1.2.1.1
  unfold oLocker qLocker
  rw [h.1.1.1, n3]
  by_cases c1 : sIsWay (nI n) way = true
  · rw [if_pos c1, if_pos c1]
    by_cases c2 : sWithin dd 0 99 = true
    · rw [if_pos c2, if_pos c2]
      by_cases c3 : sWithin w 0 1 = true
      · rw [if_pos c3, if_pos c3]
        obtain ⟨-, -, t3, -, -, t6, t7, t8⟩ := h.try (h := 0) c1 (by decide)
        refine ⟨?_, ⟨n, d, t6⟩, t7, t8⟩
        dsimp only
        rw [t3, lock_eq (fun i hi => ⟨(h.1.2.2.1 i hi).1, h.1.1.2.2.2.2.2.1 i hi⟩) 100 (Nat.le_refl _)]
      · rw [if_neg c3, if_neg c3]; exact Pr.same h rfl
    · rw [if_neg c2, if_neg c2]; exact Pr.same h rfl
  · rw [if_neg c1, if_neg c1]; exact Pr.same h rfl
