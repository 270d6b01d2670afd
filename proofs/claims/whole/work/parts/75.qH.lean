theorem cnt_cg {f g : Nat → Int32} : ∀ n, (∀ s, s < n → f s = g s) → mCnt f n = mCnt g n := by
  intro n
  induction n with
  | zero => intro _; rfl
  | succ n ih => intro h; rw [mCnt, mCnt, ih (fun s q => h s (by omega)), h n (by omega)]
theorem cnt_bit {f : Nat → Int32} : ∀ n, n ≤ 7 → ∀ q, q < 7 → sBit (mCnt f n) (nI q) = (decide (q < n) && sCounts (f q)) := by
  intro n
  induction n with
  | zero =>
    intro _ q hq
    rw [decide_eq_false (by omega), Bool.false_and]
    exact (by decide +kernel : ∀ j, j < 7 → sBit 0 (nI j) = false) q hq
  | succ n ih =>
    intro h7 q hq
    rw [mCnt]
    by_cases c : sCounts (f n) = true
    · rw [if_pos c, bit_or2 hq (by omega), ih (by omega) q hq]
      by_cases e : q = n
      · subst e; rw [decide_eq_true rfl, Bool.or_true, decide_eq_true (by omega), c]; rfl
      · rw [decide_eq_false e, Bool.or_false, Bool.eq_iff_iff]
        simp only [Bool.and_eq_true, decide_eq_true_iff]
        exact ⟨fun w => ⟨by omega, w.2⟩, fun w => ⟨by omega, w.2⟩⟩
    · rw [if_neg c, ih (by omega) q hq]
      by_cases e : q = n
      · subst e
        rw [decide_eq_false (by omega), Bool.false_and, Bool.eq_false_iff.mpr c, Bool.and_false]
      · rw [Bool.eq_iff_iff]
        simp only [Bool.and_eq_true, decide_eq_true_iff]
        exact ⟨fun w => ⟨by omega, w.2⟩, fun w => ⟨by omega, w.2⟩⟩
theorem bits_0 {op : Int32} {q : Nat} (hq : q < 7) : sBit (op &&& (0 ^^^ (-1))) (nI q) = sBit op (nI q) := by
  rw [bit_bt (by omega), bit_bt (by omega), b_and, b_xor, b_m1 q (by omega), show bt 0 q = false from BitVec.getLsbD_zero]
  simp
theorem pW_gv {μ : Me} {hs : Int32} {f : Nat → Int32} {n k : Nat} (hg : cG μ n) (hk : k ≤ 7) (hf : ∀ t, t < k → (f t).toNatClampNeg < n) : ∀ i, i ≤ k → nW i (pW μ hs f i).1 (pW μ hs f i).2.1 (pW μ hs f i).2.2 := by
  intro i
  induction i with
  | zero => intro _; exact ⟨0, 0, 0, rfl, by omega, rfl, by omega, rfl, by omega⟩
  | succ i ih =>
    intro hi
    rw [pW]
    exact ((ih (by omega)).child hg (by omega) (hf i (by omega))).1
theorem b2_first {μ : Me} {hs x y : Int32} {k r : Nat} {f : Nat → Int32} (hg : ¬ (pW μ hs f k).2.2 < 0) : mB2 μ hs k (r + 1) (-1, -1, x) f = mB2 μ hs k (r + 1) (-1, -1, y) f := by
  have e : ∀ x, uB μ hs k (-1, -1, x) f = (mWOf f k, (pW μ hs f k).2.2, (pW μ hs f k).2.1 + sBetw μ 10 (pW μ hs f k).1 0) := fun x => by
    unfold uB
    rw [if_pos]
    unfold sBeat
    have q : (-1 : Int32) < (pW μ hs f k).2.2 := Int32.lt_of_lt_of_le (show (-1 : Int32) < 0 by decide) (Int32.not_lt.mp hg)
    rw [decide_eq_true q]; rfl
  rw [mB2, mB2, e x, e y]
theorem p_best {μ ν : Me} {n d : Nat} {hs w : Int32} (h : Rel μ ν n d) : Pr (oBest μ n hs w, μ) μ (qBest ν n hs w) ν := by
  have h7 := h.1.1.2.1
  have hn := h.1.2.1.1
  have hi : ∀ s, s < n → μ 18 s = ν 137 s := fun s q => (h.is (by omega) (show s < 7 by omega)).1
  unfold oBest qBest
  by_cases c1 : sWithin hs 0 3 = true
  · rw [if_pos c1, if_pos c1]
    by_cases c2 : sWithin w 0 2 = true
    · rw [if_pos c2, if_pos c2]
      have eO : sOpen μ n = mCnt (ν 137) n := by unfold sOpen; rw [open_eq, cnt_cg n hi]
      obtain ⟨m, hm, em⟩ := cnt_n (f := ν 137) n h7
      have hm7 : m < 128 := Nat.lt_of_lt_of_le hm (Nat.pow_le_pow_right (n := 2) (by omega) (show n ≤ 7 from h7))
      have ek := col_n (mask := mCnt (ν 137) n) (f := ν 148) n
      have eB : sBC (mCnt (ν 137) n) = nI (mCol (mCnt (ν 137) n) (ν 148) n).1 := by rw [ek, em]; exact bc_n m hm7 n (by omega) hm
      have ho := col_ok (mask := mCnt (ν 137) n) (f := ν 148) n h7
      obtain ⟨ha, hb⟩ := col_asc (mask := mCnt (ν 137) n) (f := ν 148) n h7
      have hle := col_le (mask := mCnt (ν 137) n) (f := ν 148) n
      unfold sSeek mBest
      rw [eO, eB]
      have hbit := cnt_bit (f := ν 137) n h7
      generalize mCnt (ν 137) n = op at eO eB ho ha hb hle hbit ⊢
      generalize mCol op (ν 148) n = R at eB ho ha hb hle ⊢
      obtain ⟨k, row⟩ := R
      dsimp only at eB ho ha hb hle ⊢
      by_cases ck : k = 0
      · subst ck
        rw [if_pos rfl, if_pos (show (nI 0 : Int32) ≤ 0 by decide)]
        refine ⟨?_, ⟨n, d, h.row⟩, fun _ _ => rfl, fun a q => mr_ne (by omega)⟩
        dsimp only
        split
        · rfl
        · split
          · rfl
          · rfl
      · rw [if_neg ck, if_neg (nI_nle (by omega) (by omega))]
        have hk7 : k ≤ 7 := by omega
        have hg := h.1.cG
        have hcnt : ∀ t, t < k → sCounts (μ 18 (row t).toNatClampNeg) = true := fun t ht => by
          obtain ⟨q, hq, eq⟩ := ho.1 t ht
          rw [eq, cl_nI (by omega), hi q hq]
          have := (hb q hq).mpr ⟨t, ht, eq⟩
          rw [hbit q (by omega), Bool.and_eq_true] at this
          exact this.2
        have e148 : mr ν 148 row 148 = row := mr_same _ _ _
        obtain ⟨b1, b2, b3⟩ := bst_eq (μ := μ) (hs := hs) c1 hk7 (by omega) 823543 (-1, -1, 99999999) (mr ν 148 row) h.row (by rw [e148]; exact ho) (by rw [e148]; exact hcnt)
        obtain ⟨c, g, g1, g2, g3, -⟩ := ext_run (μ := μ) (hs := hs) (op := op) h7 hk7 k 0 8 row (-1, -1, -1) 0 (by omega) (by omega) ho (fun s t _ q2 q3 => ha s t q2 q3) (fun s hs' => by
          rw [bits_0 (by omega), hb s hs']
          exact ⟨fun ⟨t, q1, q2⟩ => ⟨t, Nat.zero_le _, q1, q2⟩, fun ⟨t, _, q1, q2⟩ => ⟨t, q1, q2⟩⟩)
        have hp7 := seven7 hk7
        have hrow := ho.g h7
        have hgv := pW_gv (μ := μ) (hs := hs) (f := row) hg hk7 (fun t ht => (hrow t ht).2) k (Nat.le_refl _)
        have hgn : ¬ (pW μ hs row k).2.2 < 0 := by
          obtain ⟨-, -, a, -, -, -, -, ea, ha'⟩ := hgv
          rw [ea]; exact nI_pos (by omega)
        have hR := g2 (823543 - (c + 1))
        rw [nx_no g3, show 823543 - (c + 1) + c + 1 = 823542 + 1 by omega, b2_first (x := -1) (y := 99999999) hgn] at hR
        rw [e148] at b1
        have eE : sExt μ n hs op (nI k) 8 0 0 0 0 0 0 (-1, -1, -1) = (mBst hs k 823543 (-1, -1, 99999999) (mr ν 148 row)).1 := by
          rw [ext_0 hg hk7 k 0 8 0 0 0 0 0 (-1, -1, -1) (by omega) (by omega) ⟨0, 0, 0, rfl, by omega, rfl, by omega, rfl, by omega⟩, b1]
          exact hR.symm
        rw [eE]
        refine ⟨rfl, ⟨n, d, b2⟩, fun _ _ => rfl, fun a q => ?_⟩
        refine (b3 a q).trans ?_
        rw [mr_ne (by omega)]
    · rw [if_neg c2, if_neg c2]; exact Pr.same h rfl
  · rw [if_neg c1, if_neg c1]; exact Pr.same h rfl
