theorem sDigm_ge (f : Nat → Int32) : ∀ (m t : Nat) (v : Int32), t ≤ (mDig f m t v).1 := by
  intro m
  induction m with
  | zero => intro t v; exact Nat.le_refl _
  | succ m ih =>
    intro t v
    rw [mDig]
    split
    · have := ih (t + 1) (if v ≤ 99999 then 10 * v + f t - 48 else v); omega
    · exact Nat.le_refl _
theorem at_of {ν ν' : Me} (e : ν' 136 15 = ν 136 15) : mAt ν' = mAt ν := by unfold mAt; rw [e]
theorem at_put {ν : Me} {t : Nat} (h : t ≤ 100000) : mAt (mu ν 136 15 (nI t)) = t := by unfold mAt; rw [mu_same, cl_nI (by omega)]
theorem uOk.atv {B : Nat} {ν : Me} (h : uOk B ν) (hB : B ≤ 100000) : ν 136 15 = nI (mAt ν) ∧ mAt ν ≤ B := by
  obtain ⟨l, t, h1, h2, h3, h4⟩ := h
  obtain ⟨e1, e2⟩ := uOk.r h1 h2 h3 h4 hB
  rw [e2]; exact ⟨h3, h4⟩
theorem at_here {B : Nat} {ν : Me} (h : uOk B ν) (hB : 240 ≤ B) (hB9 : B ≤ 100000) : mAt (mHere ν).2 = mPos ν := at_put (Nat.le_trans (h.pos hB hB9) hB9)
theorem pos_ge (ν : Me) : mAt ν ≤ mPos ν := sSkip_ge _ _ _
theorem at_want {ν : Me} {g : Bool} {k w : Int32} : mAt (mWant ν g k w) = mAt ν := at_of (mWant_j (by decide) (by decide))
theorem at_inc {B : Nat} {ν : Me} (h : uOk B ν) (hB9 : B ≤ 90000) : mAt (mInc ν) = mAt ν + 1 := by
  have h1 := h.atv (by omega)
  unfold mInc
  rw [h1.1, nI_1]
  exact at_put (by omega)
theorem at_mu {ν : Me} {a j : Nat} {x : Int32} (h : a = 136 → j ≠ 15) : mAt (mu ν a j x) = mAt ν := by
  refine at_of ?_
  rw [mu_at, if_neg]
  rintro ⟨q1, q2⟩; exact h q1.symm q2.symm
theorem at_numB {B : Nat} {ν : Me} (h : uOk B ν) (hB : 240 ≤ B) (hB9 : B ≤ 100000) : mAt ν ≤ mAt (mNumB ν).2 := by
  unfold mNumB; split
  · show mAt ν ≤ mAt (mWant _ _ _ _)
    have hd : (mDig (ν 146) (mLen ν - mAt ν) (mAt ν) 0).1 ≤ 100000 := by
      obtain ⟨l, t, h1, h2, h3, h4⟩ := h
      obtain ⟨e1, e2⟩ := uOk.r h1 h2 h3 h4 hB9
      rw [e1, e2]
      have := mDig_le (ν 146) (l - t) t 0
      omega
    rw [at_want, at_put hd]
    exact sDigm_ge _ _ _ _
  · exact Nat.le_refl _
theorem at_num {B : Nat} {ν : Me} (h : uOk B ν) (hB : 240 ≤ B) (hB9 : B ≤ 100000) : mAt ν ≤ mAt (mNum ν).2 := by
  unfold mNum; split
  · have h1 : mAt (mNumA ν) = mPos ν := (at_mu (fun _ => by decide)).trans (at_here h hB hB9)
    have h2 := at_numB ((h.numA hB hB9).want (g := sIsFig (mHere ν).1) (k := 1) (w := mNumA ν 136 15)) hB hB9
    rw [at_want, h1] at h2
    exact Nat.le_trans (pos_ge ν) h2
  · exact Nat.le_refl _
theorem at_in {B : Nat} {lo hi : Int32} {ν : Me} (h : uOk B ν) (hB : 240 ≤ B) (hB9 : B ≤ 100000) : mAt ν ≤ mAt (mIn ν lo hi).2 := by
  show mAt ν ≤ mAt (mWant _ _ _ _)
  rw [at_want]; exact at_num h hB hB9
theorem at_inTo {B a j : Nat} {lo hi : Int32} {ν : Me} (h : uOk B ν) (hB : 240 ≤ B) (hB9 : B ≤ 100000) (ha : a ≠ 136) : mAt ν ≤ mAt (mInTo ν a j lo hi) := by
  unfold mInTo; rw [at_mu (fun q => absurd q ha)]; exact at_in h hB hB9
theorem uOk.ruleB {B : Nat} {ν : Me} (h : uOk B ν) (hB : 240 ≤ B) (hB9 : B ≤ 90000) : uOk B (mRuleB ν) ∧ mAt ν ≤ mAt (mRuleB ν) := by
  have a1 := h.inn (lo := 1) (hi := 90) hB (by omega)
  have a2 := a1.inTo (a := 139) (j := 4) (lo := 0) (hi := 99) hB (by omega) (by decide)
  have a3 := a2.inTo (a := 139) (j := 5) (lo := 1) (hi := 30) hB (by omega) (by decide)
  refine ⟨a3.mset (a := 139) (fun q => absurd q (by decide)), ?_⟩
  have b1 := at_in (lo := 1) (hi := 90) h hB (by omega)
  have b2 := at_inTo (a := 139) (j := 4) (lo := 0) (hi := 99) a1 hB (by omega) (by decide)
  have b3 := at_inTo (a := 139) (j := 5) (lo := 1) (hi := 30) a2 hB (by omega) (by decide)
  have e : mAt (mRuleB ν) = mAt (mInTo (mInTo (mIn ν 1 90).2 139 4 0 99) 139 5 1 30) := at_mu (fun q => absurd q (by decide))
  omega
theorem uOk.rule {B : Nat} {w : Int32} {ν : Me} (h : uOk B ν) (hB : 240 ≤ B) (hB9 : B ≤ 90000) : uOk B (mRule ν w) ∧ mAt ν ≤ mAt (mRule ν w) := by
  unfold mRule; split
  · have := (h.want (g := decide (ν 139 3 = 0)) (k := 3) (w := w)).ruleB hB hB9
    rw [at_want] at this; exact this
  · exact ⟨h.want, by rw [at_want]; exact Nat.le_refl _⟩
theorem uOk.stopB {B n : Nat} {ν : Me} (h : uOk B ν) (hB : 240 ≤ B) (hB9 : B ≤ 90000) : uOk B (mStopB ν n) ∧ mAt ν ≤ mAt (mStopB ν n) := by
  have a1 := h.inTo (a := 140) (j := 7 + n) (lo := 0) (hi := 99) hB (by omega) (by decide)
  have a2 := a1.inTo (a := 141) (j := 7 + n) (lo := 0) (hi := 4095) hB (by omega) (by decide)
  have a3 := a2.inTo (a := 142) (j := 7 + n) (lo := 0) (hi := 9) hB (by omega) (by decide)
  have b1 := at_inTo (a := 140) (j := 7 + n) (lo := 0) (hi := 99) h hB (by omega) (by decide)
  have b2 := at_inTo (a := 141) (j := 7 + n) (lo := 0) (hi := 4095) a1 hB (by omega) (by decide)
  have b3 := at_inTo (a := 142) (j := 7 + n) (lo := 0) (hi := 9) a2 hB (by omega) (by decide)
  refine ⟨((a3.mset (a := 143) (fun q => absurd q (by decide))).mset (a := 144) (fun q => absurd q (by decide))).mset (fun _ => ⟨by decide, by decide⟩), ?_⟩
  unfold mStopB
  rw [at_mu (fun _ => by decide), at_mu (fun q => absurd q (by decide)), at_mu (fun q => absurd q (by decide))]
  omega
theorem uOk.stop {B : Nat} {w : Int32} {ν : Me} (h : uOk B ν) (hB : 240 ≤ B) (hB9 : B ≤ 90000) : uOk B (mStop ν w) ∧ mAt ν ≤ mAt (mStop ν w) := by
  unfold mStop; split
  · have := (h.want (g := !decide (7 ≤ ν 136 9)) (k := 3) (w := w)).stopB (n := mnOf ν) hB hB9
    rw [at_want] at this; exact this
  · exact ⟨h.want, by rw [at_want]; exact Nat.le_refl _⟩
theorem uOk.mdinL : ∀ (m dn B : Nat) (ν : Me), uOk B ν → 240 ≤ B → B + m ≤ 80000 → uOk (B + m) (mDinL m dn ν) ∧ mAt ν ≤ mAt (mDinL m dn ν) := by
  intro m
  induction m with
  | zero => intro dn B ν h _ _; exact ⟨h, Nat.le_refl _⟩
  | succ m ih =>
    intro dn B ν h hB hB9
    have a1 : uOk B (mDinM ν dn) := h.dinM hB (by omega)
    have b1 : mAt ν ≤ mAt (mDinM ν dn) := by
      unfold mDinM; rw [at_mu (fun _ => by decide)]; exact at_inTo h hB (by omega) (by decide)
    have a2 := a1.here hB (by omega)
    have b2 : mAt ν ≤ mAt (mHere (mDinM ν dn)).2 := by rw [at_here a1 hB (by omega)]; exact Nat.le_trans b1 (pos_ge _)
    rw [mDinL]
    split
    · split
      · split
        · have a3 : uOk (B + 1) (mInc (mWant (mHere (mDinM ν dn)).2 (decide (dn + 1 < 12)) 1 ((mHere (mDinM ν dn)).2 136 15))) := uOk.inc a2.want
          have := ih (dn + 1) (B + 1) _ a3 (by omega) (by omega)
          rw [at_inc (a2.want) (by omega), at_want] at this
          exact ⟨this.1.up (by omega), by omega⟩
        · exact ⟨a2.want.up (by omega), by rw [at_want]; exact b2⟩
      · exact ⟨a2.up (by omega), b2⟩
    · exact ⟨a1.up (by omega), b1⟩
theorem uOk.mdins {B : Nat} {w : Int32} {ν : Me} (h : uOk B ν) (hB : 240 ≤ B) (hB9 : B ≤ 70000) : uOk (B + 12) (mDins ν w) ∧ mAt ν ≤ mAt (mDins ν w) := by
  unfold mDins; split
  · have := uOk.mdinL 12 0 B _ (h.want (g := decide (ν 136 12 = 0)) (k := 3) (w := w)) hB (by omega)
    rw [at_want] at this; exact this
  · exact ⟨h.want.up (by omega), by rw [at_want]; exact Nat.le_refl _⟩
theorem uOk.neiC {B : Nat} {s t : Int32} {ν : Me} (h : uOk B ν) (hB : 240 ≤ B) (hB9 : B ≤ 90000) : uOk B (mNeiC ν s t) ∧ mAt ν ≤ mAt (mNeiC ν s t) := by
  refine ⟨(h.inTo hB (by omega) (by decide)).mset (fun q => absurd q (by decide)), ?_⟩
  unfold mNeiC; rw [at_mu (fun q => absurd q (by decide))]; exact at_inTo h hB (by omega) (by decide)
theorem uOk.neiB {B : Nat} {s : Int32} {ν : Me} (h : uOk B ν) (hB : 240 ≤ B) (hB9 : B ≤ 90000) : uOk B (mNeiB ν s) ∧ mAt ν ≤ mAt (mNeiB ν s) := by
  have a1 := h.inn (lo := 0) (hi := ν 136 9 - 1) hB (by omega)
  have b1 := at_in (lo := 0) (hi := ν 136 9 - 1) h hB (by omega)
  unfold mNeiB
  dsimp only
  split
  · split
    · have := (a1.want (g := !decide ((mIn ν 0 (ν 136 9 - 1)).1 = s)) (k := 4) (w := (mIn ν 0 (ν 136 9 - 1)).2 136 16)).neiC (s := s) (t := (mIn ν 0 (ν 136 9 - 1)).1) hB hB9
      rw [at_want] at this
      exact ⟨this.1, by omega⟩
    · exact ⟨a1.want, by rw [at_want]; exact b1⟩
  · exact ⟨a1, b1⟩
theorem uOk.nei {B : Nat} {ν : Me} (h : uOk B ν) (hB : 240 ≤ B) (hB9 : B ≤ 90000) : uOk B (mNei ν) ∧ mAt ν ≤ mAt (mNei ν) := by
  have a1 := h.inn (lo := 0) (hi := ν 136 9 - 1) hB (by omega)
  have b1 := at_in (lo := 0) (hi := ν 136 9 - 1) h hB (by omega)
  unfold mNei
  dsimp only
  split
  · split
    · have := (a1.want (g := decide ((mIn ν 0 (ν 136 9 - 1)).2 143 (7 + (mIn ν 0 (ν 136 9 - 1)).1.toNatClampNeg) = -1)) (k := 4) (w := (mIn ν 0 (ν 136 9 - 1)).2 136 16)).neiB (s := (mIn ν 0 (ν 136 9 - 1)).1) hB hB9
      rw [at_want] at this
      exact ⟨this.1, by omega⟩
    · exact ⟨a1.want, by rw [at_want]; exact b1⟩
  · exact ⟨a1, b1⟩
theorem uOk.clauseB {B : Nat} {x w : Int32} {ν : Me} (h : uOk B ν) (hB : 240 ≤ B) (hB9 : B ≤ 70000) : uOk (B + 12) (mClauseB ν x w) ∧ mAt ν ≤ mAt (mClauseB ν x w) := by
  unfold mClauseB
  split
  · have := h.rule (w := w) hB (by omega); exact ⟨this.1.up (by omega), this.2⟩
  · split
    · have := h.stop (w := w) hB (by omega); exact ⟨this.1.up (by omega), this.2⟩
    · split
      · exact h.mdins hB hB9
      · split
        · have := (h.want (g := decide (x = 110)) (k := 1) (w := w)).nei hB (by omega)
          rw [at_want] at this
          exact ⟨this.1.up (by omega), this.2⟩
        · exact ⟨h.want.up (by omega), by rw [at_want]; exact Nat.le_refl _⟩
theorem uOk.mclause {B : Nat} {ν : Me} (h : uOk B ν) (hB : 240 ≤ B) (hB9 : B ≤ 60000) : uOk (B + 13) (mClause ν) ∧ mPos ν + 1 ≤ mAt (mClause ν) := by
  have a1 := h.here hB (by omega)
  have a2 : uOk (B + 1) (mClA ν) := uOk.want (uOk.inc a1)
  have b2 : mAt (mClA ν) = mPos ν + 1 := by
    unfold mClA; rw [at_want, at_inc a1 (by omega), at_here h hB (by omega)]
  unfold mClause; split
  · have := a2.clauseB (x := (mHere ν).1) (w := (mHere ν).2 136 15) (by omega) (by omega)
    exact ⟨this.1.up (by omega), by omega⟩
  · exact ⟨a2.up (by omega), by omega⟩
