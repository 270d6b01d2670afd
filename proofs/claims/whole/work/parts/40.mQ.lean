def wN (g : Nat → Nat) : Nat → Nat
  | 0 => 0
  | i + 1 => 10 * wN g i + g i + 1
theorem wN_lt {g : Nat → Nat} : ∀ k, (∀ i, i < k → g i ≤ 6) → wN g k < 10 ^ k := by
  intro k
  induction k with
  | zero => intro _; exact Nat.one_pos
  | succ k ih =>
    intro h
    have h1 := ih (fun i hi => h i (by omega))
    have h2 := h k (by omega)
    rw [wN, Nat.pow_succ]
    omega
theorem wOf_n {f : Nat → Int32} {g : Nat → Nat} : ∀ k, (∀ i, i < k → f i = nI (g i)) → mWOf f k = nI (wN g k) := by
  intro k
  induction k with
  | zero => intro _; rfl
  | succ k ih =>
    intro h
    rw [mWOf, ih (fun i hi => h i (by omega)), h k (by omega), show (10 : Int32) = nI 10 from rfl, pk_mul, nI_add, nI_1]
    rfl
theorem ten7 {k : Nat} (h : k ≤ 7) : 10 ^ k ≤ 10000000 := by
  rcases (show k = 0 ∨ k = 1 ∨ k = 2 ∨ k = 3 ∨ k = 4 ∨ k = 5 ∨ k = 6 ∨ k = 7 by omega) with rfl | rfl | rfl | rfl | rfl | rfl | rfl | rfl <;> decide
theorem wN_div {g : Nat → Nat} {k : Nat} (hk : k + 1 ≤ 7) (h : ∀ i, i < k + 1 → g i ≤ 6) : (nI (wN g (k + 1)) : Int32) / 10 = nI (wN g k) := by
  have h1 := wN_lt (k + 1) h
  have h2 := ten7 hk
  have h3 := h k (by omega)
  have e := pk_div (a := wN g (k + 1)) (d := 10) (by omega) (by decide) (by decide)
  rw [show (10 : Int32) = nI 10 from rfl, e]
  congr 1
  rw [wN]
  omega
theorem dg_n {g : Nat → Nat} : ∀ (k m : Nat), k ≤ m → k ≤ 7 → (∀ i, i < k → g i ≤ 6) → dg m (nI (wN g k)) = k := by
  intro k
  induction k with
  | zero =>
    intro m _ _ _
    cases m with
    | zero => rfl
    | succ m => exact if_pos (show (nI 0 : Int32) ≤ 0 by decide)
  | succ k ih =>
    intro m hm h7 h
    obtain ⟨m, rfl⟩ : ∃ m', m = m' + 1 := ⟨m - 1, by omega⟩
    have h1 := wN_lt (k + 1) h
    have h2 := ten7 h7
    rw [dg, if_neg (nI_nle (by rw [wN]; omega) (by omega)), wN_div h7 h, ih m (by omega) (by omega) (fun i hi => h i (by omega))]
theorem divN_n {g : Nat → Nat} {k : Nat} (h7 : k ≤ 7) (h : ∀ i, i < k → g i ≤ 6) : ∀ t, t ≤ k → sDivN (nI (wN g k)) t = nI (wN g (k - t)) := by
  intro t
  induction t with
  | zero => intro _; rfl
  | succ t ih =>
    intro ht
    rw [sDivN, ih (by omega), show k - t = (k - (t + 1)) + 1 by omega]
    exact wN_div (by omega) (fun i hi => h i (by omega))
theorem stopOf_n {g : Nat → Nat} {k i : Nat} (h7 : k ≤ 7) (h : ∀ i, i < k → g i ≤ 6) (hi : i < k) : mStopOf (nI (wN g k)) i = nI (g i) := by
  unfold mStopOf
  rw [dg_n k 10 (by omega) h7 h, divN_n h7 h (k - 1 - i) (by omega), show k - (k - 1 - i) = i + 1 by omega, wN_div (by omega) (fun j hj => h j (by omega)), show (10 : Int32) = nI 10 from rfl, pk_mul, pk_sub (by rw [wN]; omega), show wN g (i + 1) - wN g i * 10 = g i + 1 by rw [wN]; omega, nI_pred]
def rOk (f : Nat → Int32) (k n : Nat) : Prop := (∀ t, t < k → ∃ q : Nat, q < n ∧ f t = nI q) ∧ (∀ s t, s < k → t < k → f s = f t → s = t)
theorem rOk.g {f : Nat → Int32} {k n : Nat} (h : rOk f k n) (h7 : n ≤ 7) : ∀ t, t < k → f t = nI (f t).toNatClampNeg ∧ (f t).toNatClampNeg < n := by
  intro t ht
  obtain ⟨q, hq, e⟩ := h.1 t ht
  rw [e, cl_nI (by omega)]
  exact ⟨rfl, hq⟩
theorem rOk.way {f : Nat → Int32} {k n : Nat} (h : rOk f k n) (h7 : n ≤ 7) (hk : k ≤ 7) : mWok (mWOf f k) n := by
  have hg := h.g h7
  have e := wOf_n (f := f) (g := fun t => (f t).toNatClampNeg) k (fun t ht => (hg t ht).1)
  have h6 : ∀ i, i < k → (fun t => (f t).toNatClampNeg) i ≤ 6 := by intro i hi; have := (hg i hi).2; dsimp only; omega
  intro i hi
  rw [e] at hi ⊢
  rw [dg_n k 10 (by omega) hk h6] at hi
  exact ⟨_, (hg i hi).2, stopOf_n hk h6 hi⟩
def pO (π : Nat → Nat) (a b : Nat) : Prop := (∀ s t, π s = π t → s = t) ∧ (∀ t, (t < a ∨ b < t) → π t = t) ∧ (∀ t, a ≤ t → t ≤ b → a ≤ π t ∧ π t ≤ b)
def tr (a b t : Nat) : Nat := if t = b then a else if t = a then b else t
theorem swp_tr (f : Nat → Int32) (a b : Nat) : ∀ t, swp f a b t = f (tr a b t) := by
  intro t
  unfold swp upd tr
  split
  · rfl
  · split <;> rfl
theorem tr_pO {a b c d : Nat} (h1 : c ≤ a) (h2 : a ≤ d) (h3 : c ≤ b) (h4 : b ≤ d) : pO (tr a b) c d := by
  refine ⟨?_, ?_, ?_⟩
  · intro s t h
    unfold tr at h
    split at h <;> split at h <;> (try split at h) <;> (try split at h) <;> omega
  · intro t h
    unfold tr
    split
    · omega
    · split <;> omega
  · intro t ha hb
    unfold tr
    split
    · omega
    · split <;> omega
theorem pO.comp {π ρ : Nat → Nat} {a b : Nat} (h : pO π a b) (g : pO ρ a b) : pO (fun t => π (ρ t)) a b := by
  refine ⟨fun s t e => g.1 _ _ (h.1 _ _ e), fun t q => ?_, fun t q1 q2 => ?_⟩
  · dsimp only; rw [g.2.1 t q, h.2.1 t q]
  · exact h.2.2 _ (g.2.2 t q1 q2).1 (g.2.2 t q1 q2).2
theorem pO.wide {π : Nat → Nat} {a b c d : Nat} (h : pO π a b) (h1 : c ≤ a) (h2 : b ≤ d) (hab : a ≤ b + 1) : pO π c d := by
  refine ⟨h.1, fun t q => h.2.1 t (by omega), fun t q1 q2 => ?_⟩
  by_cases hc : a ≤ t ∧ t ≤ b
  · have := h.2.2 t hc.1 hc.2; omega
  · rw [h.2.1 t (by omega)]; omega
theorem rev_pO : ∀ (k : Nat) (f : Nat → Int32) (a b : Nat), a ≤ b + 1 → ∃ π, pO π a b ∧ ∀ t, mRev k f a b t = f (π t) := by
  intro k
  induction k with
  | zero => intro f a b _; exact ⟨fun t => t, ⟨fun _ _ e => e, fun _ _ => rfl, fun _ q1 q2 => ⟨q1, q2⟩⟩, fun _ => rfl⟩
  | succ k ih =>
    intro f a b hab
    rw [mRev]
    split
    · next h =>
      obtain ⟨π, hπ, e⟩ := ih (swp f a b) (a + 1) (b - 1) (by omega)
      refine ⟨fun t => tr a b (π t), (tr_pO (Nat.le_refl _) (by omega) (by omega) (Nat.le_refl _)).comp (hπ.wide (by omega) (by omega) (by omega)), fun t => ?_⟩
      rw [e, swp_tr]
    · exact ⟨fun t => t, ⟨fun _ _ e => e, fun _ _ => rfl, fun _ q1 q2 => ⟨q1, q2⟩⟩, fun _ => rfl⟩
theorem piv_ok {f : Nat → Int32} : ∀ k i, mPiv f k = i + 1 → i < k ∧ f i ≤ f (i + 1) := by
  intro k
  induction k with
  | zero => intro i h; exact absurd h (by rw [mPiv]; omega)
  | succ k ih =>
    intro i h
    rw [mPiv] at h
    split at h
    · next q => have : i = k := by omega
                subst this
                exact ⟨by omega, q⟩
    · have := ih i h; exact ⟨by omega, this.2⟩
theorem suc_ok {f : Nat → Int32} {i : Nat} (hp : f i ≤ f (i + 1)) : ∀ j, i ≤ j → i + 1 ≤ mSuc f (f i) (j + 1) ∧ mSuc f (f i) (j + 1) ≤ j + 1 ∧ f i ≤ f (mSuc f (f i) (j + 1)) := by
  intro j
  induction j with
  | zero => intro h; have : i = 0 := by omega
            subst this
            rw [mSuc, if_pos hp]; exact ⟨by omega, by omega, hp⟩
  | succ j ih =>
    intro h
    rw [mSuc]
    split
    · next q => exact ⟨by omega, by omega, q⟩
    · next q =>
      have hij : i ≤ j := by
        rcases Nat.lt_or_ge j i with q' | q'
        · have : i = j + 1 := by omega
          subst this
          exact absurd hp q
        · exact q'
      have := ih hij
      exact ⟨this.1, by omega, this.2.2⟩
theorem nx_ok {f f' : Nat → Int32} {m : Nat} (h : nx f m = some f') : ∃ (i j : Nat) (π : Nat → Nat), i < j ∧ j < m ∧ f i ≤ f j ∧ f' i = f j ∧ (∀ t, t < i → f' t = f t) ∧ pO π 0 (m - 1) ∧ ∀ t, f' t = f (π t) := by
  unfold nx at h
  split at h
  · exact absurd h (by simp)
  · next i hi =>
    obtain ⟨h1, h2⟩ := piv_ok _ _ hi
    obtain ⟨c, hc⟩ : ∃ c, m - 1 = c + 1 := ⟨m - 2, by omega⟩
    obtain ⟨g1, g2, g3⟩ := suc_ok h2 c (by omega)
    rw [hc] at h
    obtain ⟨π, hπ, e⟩ := rev_pO 7 (swp f i (mSuc f (f i) (c + 1))) (i + 1) (c + 1) (by omega)
    have ef : mRev 7 (swp f i (mSuc f (f i) (c + 1))) (i + 1) (c + 1) = f' := Option.some.inj h
    rw [ef] at e
    refine ⟨i, mSuc f (f i) (c + 1), fun t => tr i (mSuc f (f i) (c + 1)) (π t), by omega, by omega, g3, ?_, ?_, ?_, ?_⟩
    · rw [e, hπ.2.1 i (by omega), swp_tr]
      unfold tr
      rw [if_neg (by omega), if_pos rfl]
    · intro t ht
      rw [e, hπ.2.1 t (by omega), swp_tr]
      unfold tr
      rw [if_neg (by omega), if_neg (by omega)]
    · rw [hc]
      exact (tr_pO (by omega) (by omega) (by omega) (by omega)).comp (hπ.wide (by omega) (by omega) (by omega))
    · intro t
      rw [e, swp_tr]
theorem rOk.nxt {f f' : Nat → Int32} {k n : Nat} (h : rOk f k n) (e : nx f k = some f') : rOk f' k n := by
  obtain ⟨i, j, π, hij, hjm, -, -, -, hπ, ef⟩ := nx_ok e
  refine ⟨fun t ht => ?_, fun s t hs ht q => ?_⟩
  · rw [ef]; exact h.1 _ (by have := hπ.2.2 t (by omega) (by omega); omega)
  · rw [ef, ef] at q
    exact hπ.1 _ _ (h.2 _ _ (by have := hπ.2.2 s (by omega) (by omega); omega) (by have := hπ.2.2 t (by omega) (by omega); omega) q)
def vl (f : Nat → Int32) : Nat → Nat
  | 0 => 0
  | i + 1 => vl f i * 7 + (f i).toNatClampNeg
theorem vl_eq {f f' : Nat → Int32} : ∀ i, (∀ t, t < i → f' t = f t) → vl f' i = vl f i := by
  intro i
  induction i with
  | zero => intro _; rfl
  | succ i ih => intro h; rw [vl, vl, ih (fun t ht => h t (by omega)), h i (by omega)]
theorem vl_lt {f : Nat → Int32} : ∀ k, (∀ t, t < k → (f t).toNatClampNeg ≤ 6) → vl f k < 7 ^ k := by
  intro k
  induction k with
  | zero => intro _; exact Nat.one_pos
  | succ k ih =>
    intro h
    have h1 := ih (fun t ht => h t (by omega))
    have h2 := h k (by omega)
    rw [vl, Nat.pow_succ]
    omega
theorem vl_inc {f f' : Nat → Int32} {i : Nat} (he : ∀ t, t < i → f' t = f t) (hl : (f i).toNatClampNeg < (f' i).toNatClampNeg) : ∀ c, (∀ t, t < i + 1 + c → (f t).toNatClampNeg ≤ 6) → vl f (i + 1 + c) < vl f' (i + 1 + c) := by
  intro c
  induction c with
  | zero => intro _; rw [Nat.add_zero, vl, vl, vl_eq i he]; omega
  | succ c ih =>
    intro h
    have h1 := ih (fun t ht => h t (by omega))
    have h2 := h (i + 1 + c) (by omega)
    rw [← Nat.add_assoc, vl, vl]
    omega
theorem rOk.inc {f f' : Nat → Int32} {k n : Nat} (h : rOk f k n) (h7 : n ≤ 7) (e : nx f k = some f') : vl f k < vl f' k := by
  obtain ⟨i, j, π, hij, hjm, hle, hi, hlt, -, -⟩ := nx_ok e
  have hg := h.g h7
  have g1 := hg i (by omega)
  have g2 := hg j hjm
  have hne : ¬ f i = f j := fun q => by have := h.2 i j (by omega) hjm q; omega
  have hl : (f i).toNatClampNeg < (f' i).toNatClampNeg := by
    rw [hi]
    rw [g1.1, g2.1] at hle
    have := (nI_leI (by omega) (by omega)).mp hle
    rcases Nat.lt_or_ge (f i).toNatClampNeg (f j).toNatClampNeg with q | q
    · exact q
    · exact absurd (by rw [g1.1, g2.1, show (f i).toNatClampNeg = (f j).toNatClampNeg by omega]) hne
  have := vl_inc hlt hl (k - (i + 1)) (fun t ht => by have := (hg t (by omega)).2; omega)
  rw [show i + 1 + (k - (i + 1)) = k by omega] at this
  exact this
