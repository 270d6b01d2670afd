def gS (μ μ' : Me) : Prop := ∀ a, a ≠ 1 → (a < 3 ∨ 9 < a) → μ' a = μ a
def gM (ν ν' : Me) : Prop := (∀ a, a ≠ 136 → (a < 139 ∨ 145 < a) → ν' a = ν a) ∧ (∀ j, j ≠ 9 → j ≠ 12 → (j < 15 ∨ 18 < j) → ν' 136 j = ν 136 j) ∧ (∀ j, j < 3 → ν' 139 j = ν 139 j) ∧ (∀ a s, 140 ≤ a → a ≤ 144 → s < 7 → ν' a s = ν a s) ∧ (∀ h, h < 12 → ν' 145 h = ν 145 h)
theorem gS.rfl' (μ : Me) : gS μ μ := fun _ _ _ => rfl
theorem gM.rfl' (ν : Me) : gM ν ν := ⟨fun _ _ _ => rfl, fun _ _ _ _ => rfl, fun _ _ => rfl, fun _ _ _ _ _ => rfl, fun _ _ => rfl⟩
theorem gS.trans {a b c : Me} (h1 : gS a b) (h2 : gS b c) : gS a c := fun i q1 q2 => (h2 i q1 q2).trans (h1 i q1 q2)
theorem gM.trans {a b c : Me} (h1 : gM a b) (h2 : gM b c) : gM a c := ⟨fun i q1 q2 => (h2.1 i q1 q2).trans (h1.1 i q1 q2), fun j q1 q2 q3 => (h2.2.1 j q1 q2 q3).trans (h1.2.1 j q1 q2 q3), fun j q => (h2.2.2.1 j q).trans (h1.2.2.1 j q), fun i s q1 q2 q3 => (h2.2.2.2.1 i s q1 q2 q3).trans (h1.2.2.2.1 i s q1 q2 q3), fun h q => (h2.2.2.2.2 h q).trans (h1.2.2.2.2 h q)⟩
theorem gS.set {μ : Me} {a j : Nat} {x : Int32} (h : a = 1 ∨ (3 ≤ a ∧ a ≤ 9)) : gS μ (mu μ a j x) := fun i q1 q2 => mu_ne (by omega)
theorem gM.set {ν : Me} {a j : Nat} {x : Int32} (h : (a = 136 ∧ (j = 9 ∨ j = 12 ∨ (15 ≤ j ∧ j ≤ 18))) ∨ (a = 139 ∧ 3 ≤ j) ∨ (140 ≤ a ∧ a ≤ 144 ∧ 7 ≤ j) ∨ (a = 145 ∧ 12 ≤ j)) : gM ν (mu ν a j x) :=
  ⟨fun i q1 q2 => mu_ne (by omega), fun i q1 q2 q3 => mu_oth (by omega), fun i q => mu_oth (by omega), fun i s q1 q2 q3 => mu_oth (by omega), fun i q => mu_oth (by omega)⟩
theorem gS.fail {μ : Me} {k w : Int32} : gS μ (sFail μ k w) := fun i q1 _ => sFail_ne q1
theorem gS.peek {μ : Me} : gS μ (sPeek μ).2 := fun i q1 _ => sPeek_ne q1
theorem gS.num {μ : Me} {lo hi : Int32} : gS μ (sNum μ lo hi).2 := fun i q1 _ => sNum_ne q1
theorem gS.endc {μ : Me} : gS μ (sEnd μ) := fun i q1 _ => sEnd_ne q1
theorem gS.inc {μ : Me} : gS μ (sInc μ) := fun i q1 _ => sInc_ne q1
theorem gS.numTo {μ : Me} {j : Nat} {lo hi : Int32} : gS μ (sNumTo μ j lo hi) := gS.num.trans (gS.set (by omega))
theorem gS.addStop {μ : Me} {n : Nat} {x i b : Int32} : gS μ (sAddStop μ 3 n x i b) := by
  unfold sAddStop
  split
  · exact (((((gS.set (by omega)).trans (gS.set (by omega))).trans (gS.set (by omega))).trans (gS.set (by omega))).trans (gS.set (by omega))).trans (gS.set (by omega))
  · exact gS.rfl' _
theorem gS.addDin {μ : Me} {n : Nat} {x : Int32} : gS μ (sAddDin μ 3 n x) := by
  unfold sAddDin
  split
  · exact (gS.set (by omega)).trans (gS.set (by omega))
  · exact gS.rfl' _
theorem gS.vanB {μ : Me} : gS μ (sVanB μ) := (((gS.inc.trans gS.numTo).trans gS.numTo).trans gS.numTo).trans gS.endc
theorem gS.van {μ : Me} {b : Bool} : gS μ (sVan μ b) := by
  unfold sVan
  split
  · exact gS.fail.trans gS.vanB
  · exact gS.vanB
theorem gS.stopB {μ : Me} : gS μ (sStopB μ) := by
  unfold sStopB
  dsimp only
  exact ((((gS.inc.trans gS.num).trans gS.num).trans gS.num).trans gS.endc).trans gS.addStop
theorem gS.stop {μ : Me} : gS μ (sStop μ) := by
  unfold sStop
  split
  · exact gS.stopB
  · exact gS.fail.trans gS.stopB
theorem gS.dinA {μ : Me} : gS μ (sDinA μ) := (gS.inc.trans gS.num).trans gS.addDin
theorem gS.dinS {μ : Me} {m : Nat} : gS μ (sDinS m μ) := by
  unfold sDinS
  split
  · exact gS.fail.trans gS.dinA
  · exact gS.dinA
theorem gS.dinL : ∀ (m k : Nat) (μ : Me), gS μ (sDinL m k μ) := by
  intro m
  induction m with
  | zero => intro k μ; exact gS.endc
  | succ m ih =>
    intro k μ
    rw [sDinL]
    split
    · exact gS.endc
    · split
      · exact (gS.peek.trans gS.dinS).trans (ih _ _)
      · exact gS.peek.trans gS.endc
theorem gS.din {μ : Me} : gS μ (sDin μ) := by
  unfold sDin
  split
  · exact gS.dinA.trans (gS.dinL _ _ _)
  · exact (gS.fail.trans gS.dinA).trans (gS.dinL _ _ _)
theorem gS.neiC {μ : Me} {s t o : Int32} : gS μ (sNeiC μ s t o) := by
  unfold sNeiC
  split
  · split
    · exact (gS.set (by omega)).trans (gS.set (by omega))
    · exact gS.rfl' _
  · exact gS.rfl' _
theorem gS.neiB {μ : Me} {s t : Int32} : gS μ (sNeiB μ s t) := (gS.num.trans gS.endc).trans gS.neiC
theorem gS.neiA {μ : Me} {s : Int32} : gS μ (sNeiA μ s) := by
  unfold sNeiA
  dsimp only
  split
  · exact (gS.num.trans gS.fail).trans gS.neiB
  · exact gS.num.trans gS.neiB
theorem gS.nei {μ : Me} : gS μ (sNei μ) := by
  unfold sNei
  dsimp only
  split
  · split
    · exact (gS.inc.trans gS.num).trans gS.neiA
    · exact ((gS.inc.trans gS.num).trans gS.fail).trans gS.neiA
  · exact (gS.inc.trans gS.num).trans gS.neiA
theorem gS.clause {μ : Me} {w : Int32} : gS μ (sClause μ w) := by
  unfold sClause
  split
  · split
    · exact gS.van
    · exact gS.fail
  · split
    · exact gS.van
    · split
      · exact gS.stop
      · split
        · exact gS.din
        · split
          · exact gS.nei
          · exact gS.fail
theorem gS.read : ∀ (m : Nat) (μ : Me), gS μ (sRead m μ) := by
  intro m
  induction m with
  | zero => intro μ; exact gS.rfl' _
  | succ m ih =>
    intro μ
    rw [sRead]
    split
    · split
      · exact gS.peek
      · exact (gS.peek.trans gS.clause).trans (ih _)
    · exact gS.rfl' _
theorem gS.sbeg {μ : Me} : gS μ (sSBegin μ 3) := ((((gS.set (by omega)).trans (gS.set (by omega))).trans (gS.set (by omega))).trans (gS.set (by omega))).trans (gS.set (by omega))
theorem gS.readInto {μ : Me} : gS μ (sReadInto μ) := (((gS.sbeg.trans (gS.set (by omega))).trans (gS.set (by omega))).trans (gS.set (by omega))).trans (gS.read _ _)
theorem gM.fail {ν : Me} {k w : Int32} : gM ν (mFail ν k w) := by
  unfold mFail
  split
  · exact (gM.set (by omega)).trans (gM.set (by omega))
  · exact gM.rfl' _
theorem gM.want {ν : Me} {g : Bool} {k w : Int32} : gM ν (mWant ν g k w) := by
  unfold mWant
  split
  · exact gM.rfl' _
  · exact gM.fail
theorem gM.here {ν : Me} : gM ν (mHere ν).2 := gM.set (by omega)
theorem gM.inc {ν : Me} : gM ν (mInc ν) := gM.set (by omega)
theorem gM.numB {ν : Me} : gM ν (mNumB ν).2 := by
  unfold mNumB
  split
  · exact (gM.set (by omega)).trans gM.want
  · exact gM.rfl' _
theorem gM.num {ν : Me} : gM ν (mNum ν).2 := by
  unfold mNum
  split
  · exact ((gM.here.trans (gM.set (by omega))).trans gM.want).trans gM.numB
  · exact gM.rfl' _
theorem gM.inn {ν : Me} {lo hi : Int32} : gM ν (mIn ν lo hi).2 := gM.num.trans gM.want
theorem gM.inTo {ν : Me} {a j : Nat} {lo hi : Int32} (h : (a = 139 ∧ 3 ≤ j) ∨ (140 ≤ a ∧ a ≤ 144 ∧ 7 ≤ j) ∨ (a = 145 ∧ 12 ≤ j)) : gM ν (mInTo ν a j lo hi) := gM.inn.trans (gM.set (by omega))
theorem gM.ruleB {ν : Me} : gM ν (mRuleB ν) := by
  unfold mRuleB
  dsimp only
  exact ((((gM.inn.trans gM.inn).trans (gM.set (by omega))).trans gM.inn).trans (gM.set (by omega))).trans (gM.set (by omega))
theorem gM.rule {ν : Me} {w : Int32} : gM ν (mRule ν w) := by
  unfold mRule
  split
  · exact gM.want.trans gM.ruleB
  · exact gM.want
theorem gM.stopB {ν : Me} {n : Nat} : gM ν (mStopB ν n) := (((((gM.inTo (by omega)).trans (gM.inTo (by omega))).trans (gM.inTo (by omega))).trans (gM.set (by omega))).trans (gM.set (by omega))).trans (gM.set (by omega))
theorem gM.stop {ν : Me} {w : Int32} : gM ν (mStop ν w) := by
  unfold mStop
  split
  · exact gM.want.trans gM.stopB
  · exact gM.want
theorem gM.dinM {ν : Me} {dn : Nat} : gM ν (mDinM ν dn) := (gM.inTo (by omega)).trans (gM.set (by omega))
theorem gM.dinL : ∀ (m dn : Nat) (ν : Me), gM ν (mDinL m dn ν) := by
  intro m
  induction m with
  | zero => intro dn ν; exact gM.rfl' _
  | succ m ih =>
    intro dn ν
    rw [mDinL]
    split
    · split
      · split
        · exact (((gM.dinM.trans gM.here).trans gM.want).trans gM.inc).trans (ih _ _)
        · exact (gM.dinM.trans gM.here).trans gM.want
      · exact gM.dinM.trans gM.here
    · exact gM.dinM
theorem gM.dins {ν : Me} {w : Int32} : gM ν (mDins ν w) := by
  unfold mDins
  split
  · exact gM.want.trans (gM.dinL _ _ _)
  · exact gM.want
theorem gM.neiC {ν : Me} {s t : Int32} : gM ν (mNeiC ν s t) := (gM.inTo (by omega)).trans (gM.set (by omega))
theorem gM.neiB {ν : Me} {s : Int32} : gM ν (mNeiB ν s) := by
  unfold mNeiB
  dsimp only
  split
  · split
    · exact (gM.inn.trans gM.want).trans gM.neiC
    · exact gM.inn.trans gM.want
  · exact gM.inn
theorem gM.nei {ν : Me} : gM ν (mNei ν) := by
  unfold mNei
  dsimp only
  split
  · split
    · exact (gM.inn.trans gM.want).trans gM.neiB
    · exact gM.inn.trans gM.want
  · exact gM.inn
theorem gM.clauseB {ν : Me} {c w : Int32} : gM ν (mClauseB ν c w) := by
  unfold mClauseB
  split
  · exact gM.rule
  · split
    · exact gM.stop
    · split
      · exact gM.dins
      · split
        · exact gM.want.trans gM.nei
        · exact gM.want
theorem gM.clA {ν : Me} : gM ν (mClA ν) := (gM.here.trans gM.inc).trans gM.want
theorem gM.clause {ν : Me} : gM ν (mClause ν) := by
  unfold mClause
  split
  · exact gM.clA.trans gM.clauseB
  · exact gM.clA
theorem gM.strS {ν : Me} : gM ν (mStrS ν) := by
  unfold mStrS
  split
  · split
    · exact ((gM.clause.trans gM.here).trans gM.want).trans gM.inc
    · exact (gM.clause.trans gM.here).trans gM.want
  · exact gM.clause
theorem gM.strL : ∀ (m : Nat) (ν : Me), gM ν (mStrL m ν) := by
  intro m
  induction m with
  | zero => intro ν; exact gM.rfl' _
  | succ m ih =>
    intro ν
    rw [mStrL]
    split
    · split
      · exact gM.here
      · exact (gM.here.trans gM.strS).trans (ih _)
    · exact gM.rfl' _
theorem gM.r0 {ν : Me} : ∀ i, gM ν (mR0 ν i) := by
  intro i
  induction i with
  | zero => exact gM.rfl' _
  | succ i ih => rw [mR0]; exact ih.trans (gM.set (by omega))
theorem gM.str0 {ν : Me} : gM ν (mStr0 ν) := (((((gM.set (by omega)).trans (gM.set (by omega))).trans (gM.set (by omega))).trans (gM.set (by omega))).trans (gM.set (by omega))).trans (gM.r0 3)
theorem start_eq {l : Nat} {μ ν : Me} (h9 : l ≤ 240) (h1 : μ 1 1 = nI l) (h2 : ν 136 14 = nI l) (h3 : ∀ i, i < l → μ 2 i = ν 146 i ∧ ¬ ν 146 i < 0) : FI (sReadInto μ) (mStrL 241 (mStr0 ν)) := by
  have b2 : ∀ a, a ≠ 3 → sSBegin μ 3 a = μ a := fun a q => by unfold sSBegin; rw [mu_ne q, mu_ne q, mu_ne q, mu_ne q, mu_ne q]
  refine read_eq (l := l) 240 0 0 0 _ _ ⟨⟨h9, ?_, ?_, ?_⟩, ⟨mu_same _ _ _ _, ?_, Nat.zero_le _⟩, ?_, ?_, ?_⟩ ⟨⟨by omega, by omega, ?_, ?_, ?_, ?_⟩, ⟨0, 0, 0, ⟨?_, ?_, by omega⟩, ⟨?_, ?_, by omega⟩, ?_, ?_, by omega⟩, fun s hs => absurd hs (Nat.not_lt_zero _), fun s hs => absurd hs (Nat.not_lt_zero _)⟩ (by omega)
  · rw [mu_nj (by decide), mu_nj (by decide), mu_nj (by decide), b2 1 (by decide)]; exact h1
  · unfold mStr0; rw [mR0_ne (by decide), mu_nj (by decide), mu_nj (by decide), mu_nj (by decide), mu_nj (by decide), mu_nj (by decide)]; exact h2
  · rw [mu_ne (by decide), mu_ne (by decide), mu_ne (by decide), b2 2 (by decide)]; unfold mStr0; rw [mR0_ne (by decide), mu_ne (by decide), mu_ne (by decide), mu_ne (by decide), mu_ne (by decide), mu_ne (by decide)]; exact h3
  · unfold mStr0; rw [mR0_ne (by decide), mu_nj (by decide), mu_nj (by decide), mu_nj (by decide), mu_nj (by decide), mu_same]; rfl
  · rw [mu_nj (by decide), mu_nj (by decide), mu_same]
  · unfold mStr0; rw [mR0_ne (by decide), mu_nj (by decide), mu_nj (by decide), mu_nj (by decide), mu_same]
  · rw [mu_nj (by decide), mu_same]; unfold mStr0; rw [mR0_ne (by decide), mu_nj (by decide), mu_nj (by decide), mu_same]
  · rw [mu_ne (by decide), mu_ne (by decide), mu_ne (by decide)]; unfold sSBegin; rw [mu_nj (by decide), mu_same]; rfl
  · unfold mStr0; rw [mR0_ne (by decide), mu_nj (by decide), mu_same]; rfl
  · rw [mu_ne (by decide), mu_ne (by decide), mu_ne (by decide)]; unfold sSBegin; rw [mu_same]; rfl
  · unfold mStr0; rw [mR0_ne (by decide), mu_same]; rfl
  · rw [mu_ne (by decide), mu_ne (by decide), mu_ne (by decide)]; unfold sSBegin; rw [mu_nj (by decide), mu_nj (by decide), mu_nj (by decide), mu_nj (by decide), mu_same]; rfl
  · unfold mStr0; rw [mR0, mu_nj (by decide), mR0, mu_nj (by decide), mR0, mu_same]; rfl
  · rw [mu_ne (by decide), mu_ne (by decide), mu_ne (by decide)]; unfold sSBegin; rw [mu_nj (by decide), mu_nj (by decide), mu_nj (by decide), mu_same]; rfl
  · unfold mStr0; rw [mR0, mu_nj (by decide), mR0, mu_same]; rfl
  · rw [mu_ne (by decide), mu_ne (by decide), mu_ne (by decide)]; unfold sSBegin; rw [mu_nj (by decide), mu_nj (by decide), mu_same]; rfl
  · unfold mStr0; rw [mR0, mu_same]; rfl
