def nOf (μ : Me) : Nat := (μ 3 3).toNatClampNeg
def dnOf (μ : Me) : Nat := (μ 3 4).toNatClampNeg
def sInc (μ : Me) : Me := mu μ 1 4 (μ 1 4 + 1)
def sNumTo (μ : Me) (j : Nat) (lo hi : Int32) : Me := mu (sNum μ lo hi).2 3 j (sNum μ lo hi).1
def sVanB (μ : Me) : Me := sEnd (sNumTo (sNumTo (sNumTo (sInc μ) 0 1 90) 1 0 99) 2 1 30)
def sVan (μ : Me) (again : Bool) : Me := if again then sVanB (sFail μ 3 (μ 1 4)) else sVanB μ
def sStopB (μ : Me) : Me :=
  let r1 := sNum (sInc μ) 0 99
  let r2 := sNum r1.2 0 4095
  let r3 := sNum r2.2 0 9
  sAddStop (sEnd r3.2) 3 (nOf μ) r1.1 r2.1 r3.1
def sStop (μ : Me) : Me := if μ 3 3 < 7 then sStopB μ else sStopB (sFail μ 3 (μ 1 4))
def sDinA (μ : Me) : Me := sAddDin (sNum (sInc μ) 0 9).2 3 (dnOf μ) (sNum (sInc μ) 0 9).1
def sDinS (more : Nat) (μ : Me) : Me := if more = 12 then sDinA (sFail μ 1 (μ 1 4)) else sDinA μ
def sDinL : Nat → Nat → Me → Me
  | 0, _, μ => sEnd μ
  | m + 1, more, μ => if 12 < more then sEnd μ else if (sPeek μ).1 = 44 then sDinL m (more + 1) (sDinS more (sPeek μ).2) else sEnd (sPeek μ).2
def sDin (μ : Me) : Me := if μ 3 4 ≤ 0 then sDinL 12 1 (sDinA μ) else sDinL 12 1 (sDinA (sFail μ 3 (μ 1 4)))
def sNeiC (μ : Me) (s t mo : Int32) : Me := if μ 1 2 = 0 then (if sHas (μ 3 3) s then mu (mu μ 7 s.toNatClampNeg t) 8 s.toNatClampNeg mo else μ) else μ
def sNeiB (μ : Me) (s t : Int32) : Me := sNeiC (sEnd (sNum μ 1 9).2) s t (sNum μ 1 9).1
def sNeiA (μ : Me) (s : Int32) : Me :=
  let r := sNum μ 0 (μ 3 3 - 1)
  if r.1 = s then sNeiB (sFail r.2 4 (r.2 1 5)) s r.1 else sNeiB r.2 s r.1
def sNei (μ : Me) : Me :=
  let r := sNum (sInc μ) 0 (μ 3 3 - 1)
  if sHas (μ 3 3) r.1 then (if μ 7 r.1.toNatClampNeg = -1 then sNeiA r.2 r.1 else sNeiA (sFail r.2 4 (r.2 1 5)) r.1) else sNeiA r.2 r.1
def sClause (μ : Me) (w : Int32) : Me :=
  if μ 3 0 ≤ 0 then (if w = 118 then sVan μ false else sFail μ 1 (μ 1 4))
  else if w = 118 then sVan μ true else if w = 115 then sStop μ else if w = 100 then sDin μ else if w = 110 then sNei μ else sFail μ 1 (μ 1 4)
def sRead : Nat → Me → Me
  | 0, μ => μ
  | m + 1, μ => if μ 1 2 = 0 then (if (sPeek μ).1 = -1 then (sPeek μ).2 else sRead m (sClause (sPeek μ).2 (sPeek μ).1)) else μ
def sReadInto (μ : Me) : Me := sRead 240 (mu (mu (mu (sSBegin μ 3) 1 2 0) 1 3 (-1)) 1 4 0)
/-- the draft's numbers -/
def dOk (μ : Me) : Prop := ∃ n dn : Nat, μ 3 3 = nI n ∧ n ≤ 7 ∧ μ 3 4 = nI dn ∧ dn ≤ 12
theorem dOk.of {μ ν : Me} (h : dOk μ) (e : ν 3 = μ 3) : dOk ν := by
  obtain ⟨n, dn, h1, h2, h3, h4⟩ := h
  exact ⟨n, dn, by rw [e]; exact h1, h2, by rw [e]; exact h3, h4⟩
theorem dOk.n {μ : Me} (h : dOk μ) : μ 3 3 = nI (nOf μ) ∧ nOf μ ≤ 7 := by
  obtain ⟨n, dn, h1, h2, h3, h4⟩ := h
  have e : nOf μ = n := by unfold nOf; rw [h1, cl_nI (by omega)]
  rw [e]; exact ⟨h1, h2⟩
theorem dOk.dn {μ : Me} (h : dOk μ) : μ 3 4 = nI (dnOf μ) ∧ dnOf μ ≤ 12 := by
  obtain ⟨n, dn, h1, h2, h3, h4⟩ := h
  have e : dnOf μ = dn := by unfold dnOf; rw [h3, cl_nI (by omega)]
  rw [e]; exact ⟨h3, h4⟩
theorem nOf_eq {μ ν : Me} (e : ν 3 = μ 3) : nOf ν = nOf μ := by unfold nOf; rw [e]
theorem dnOf_eq {μ ν : Me} (e : ν 3 = μ 3) : dnOf ν = dnOf μ := by unfold dnOf; rw [e]
theorem dOk.addStop {μ : Me} {x i b : Int32} (h : dOk μ) : dOk (sAddStop μ 3 (nOf μ) x i b) := by
  have h1 := h.n
  have h2 := h.dn
  unfold sAddStop
  split
  · exact ⟨nOf μ + 1, dnOf μ, mu_same _ _ _ _, by omega, by simp [mu_at]; exact h2.1, h2.2⟩
  · exact h
theorem dOk.addDin {μ : Me} {x : Int32} (h : dOk μ) : dOk (sAddDin μ 3 (dnOf μ) x) := by
  have h1 := h.n
  have h2 := h.dn
  unfold sAddDin
  split
  · exact ⟨nOf μ, dnOf μ + 1, by simp [mu_at]; exact h1.1, h1.2, mu_same _ _ _ _, by omega⟩
  · exact h
theorem tOk.addStop {B n : Nat} {μ : Me} {x i b : Int32} (h : tOk B μ) : tOk B (sAddStop μ 3 n x i b) := by
  unfold sAddStop
  split
  · exact (((((h.mset (fun q => absurd q (by decide))).mset (fun q => absurd q (by decide))).mset (fun q => absurd q (by decide))).mset (fun q => absurd q (by decide))).mset (fun q => absurd q (by decide))).mset (fun q => absurd q (by decide))
  · exact h
theorem tOk.addDin {B n : Nat} {μ : Me} {x : Int32} (h : tOk B μ) : tOk B (sAddDin μ 3 n x) := by
  unfold sAddDin
  split
  · exact (h.mset (fun q => absurd q (by decide))).mset (fun q => absurd q (by decide))
  · exact h
theorem tOk.numTo {B j : Nat} {lo hi : Int32} {μ : Me} (h : tOk B μ) (hB : 240 ≤ B) (hB9 : B ≤ 100000) : tOk B (sNumTo μ j lo hi) := (h.num hB hB9).mset (fun q => absurd q (by decide))
theorem sInc_ne {μ : Me} {i : Nat} (h : i ≠ 1) : sInc μ i = μ i := mu_ne h
theorem tOk.vanB {B : Nat} {μ : Me} (h : tOk B μ) (hB : 240 ≤ B) (hB9 : B ≤ 90000) : tOk (B + 2) (sVanB μ) :=
  ((((tOk.inc h).numTo (by omega) (by omega)).numTo (by omega) (by omega)).numTo (by omega) (by omega)).endc (by omega) (by omega)
theorem tOk.van {B : Nat} {b : Bool} {μ : Me} (h : tOk B μ) (hB : 240 ≤ B) (hB9 : B ≤ 90000) : tOk (B + 2) (sVan μ b) := by
  unfold sVan; split
  · exact h.fail.vanB hB hB9
  · exact h.vanB hB hB9
theorem tOk.stopB {B : Nat} {μ : Me} (h : tOk B μ) (hB : 240 ≤ B) (hB9 : B ≤ 90000) : tOk (B + 2) (sStopB μ) :=
  tOk.addStop (((((tOk.inc h).num (by omega) (by omega)).num (by omega) (by omega)).num (by omega) (by omega)).endc (by omega) (by omega))
theorem tOk.stop {B : Nat} {μ : Me} (h : tOk B μ) (hB : 240 ≤ B) (hB9 : B ≤ 90000) : tOk (B + 2) (sStop μ) := by
  unfold sStop; split
  · exact h.stopB hB hB9
  · exact h.fail.stopB hB hB9
theorem tOk.dinA {B : Nat} {μ : Me} (h : tOk B μ) (hB : 240 ≤ B) (hB9 : B ≤ 90000) : tOk (B + 1) (sDinA μ) := tOk.addDin ((tOk.inc h).num (by omega) (by omega))
theorem tOk.dinS {B m : Nat} {μ : Me} (h : tOk B μ) (hB : 240 ≤ B) (hB9 : B ≤ 90000) : tOk (B + 1) (sDinS m μ) := by
  unfold sDinS; split
  · exact h.fail.dinA hB hB9
  · exact h.dinA hB hB9
theorem tOk.dinL : ∀ (m k B : Nat) (μ : Me), tOk B μ → 240 ≤ B → B + m ≤ 90000 → tOk (B + m + 1) (sDinL m k μ) := by
  intro m
  induction m with
  | zero => intro k B μ h hB hB9; exact h.endc hB (by omega)
  | succ m ih =>
    intro k B μ h hB hB9
    rw [sDinL]
    split
    · exact (h.endc hB (by omega)).up (by omega)
    · split
      · have := ih (k + 1) (B + 1) _ ((h.peek hB (by omega)).dinS (m := k) hB (by omega)) (by omega) (by omega)
        exact this.up (by omega)
      · exact ((h.peek hB (by omega)).endc hB (by omega)).up (by omega)
theorem tOk.din {B : Nat} {μ : Me} (h : tOk B μ) (hB : 240 ≤ B) (hB9 : B ≤ 80000) : tOk (B + 14) (sDin μ) := by
  unfold sDin; split
  · exact (tOk.dinL 12 1 (B + 1) _ (h.dinA hB (by omega)) (by omega) (by omega)).up (by omega)
  · exact (tOk.dinL 12 1 (B + 1) _ (h.fail.dinA hB (by omega)) (by omega) (by omega)).up (by omega)
theorem tOk.neiC {B : Nat} {s t o : Int32} {μ : Me} (h : tOk B μ) : tOk B (sNeiC μ s t o) := by
  unfold sNeiC; split
  · split
    · exact (h.mset (fun q => absurd q (by decide))).mset (fun q => absurd q (by decide))
    · exact h
  · exact h
theorem tOk.neiB {B : Nat} {s t : Int32} {μ : Me} (h : tOk B μ) (hB : 240 ≤ B) (hB9 : B ≤ 90000) : tOk (B + 1) (sNeiB μ s t) := tOk.neiC ((h.num hB (by omega)).endc hB (by omega))
theorem tOk.neiA {B : Nat} {s : Int32} {μ : Me} (h : tOk B μ) (hB : 240 ≤ B) (hB9 : B ≤ 90000) : tOk (B + 1) (sNeiA μ s) := by
  unfold sNeiA
  dsimp only
  split
  · exact ((h.num hB (by omega)).fail).neiB hB hB9
  · exact (h.num hB (by omega)).neiB hB hB9
theorem tOk.nei {B : Nat} {μ : Me} (h : tOk B μ) (hB : 240 ≤ B) (hB9 : B ≤ 80000) : tOk (B + 2) (sNei μ) := by
  have h1 : tOk (B + 1) (sNum (sInc μ) 0 (μ 3 3 - 1)).2 := (tOk.inc h).num (by omega) (by omega)
  unfold sNei
  dsimp only
  split
  · split
    · exact h1.neiA (by omega) (by omega)
    · exact h1.fail.neiA (by omega) (by omega)
  · exact h1.neiA (by omega) (by omega)
theorem tOk.clause {B : Nat} {w : Int32} {μ : Me} (h : tOk B μ) (hB : 240 ≤ B) (hB9 : B ≤ 80000) : tOk (B + 14) (sClause μ w) := by
  unfold sClause
  split
  · split
    · exact (h.van hB (by omega)).up (by omega)
    · exact h.fail.up (by omega)
  · split
    · exact (h.van hB (by omega)).up (by omega)
    · split
      · exact (h.stop hB (by omega)).up (by omega)
      · split
        · exact h.din hB hB9
        · split
          · exact (h.nei hB hB9).up (by omega)
          · exact h.fail.up (by omega)
theorem dOk.numTo {j : Nat} {lo hi : Int32} {μ : Me} (h : dOk μ) (hj : j < 3) : dOk (sNumTo μ j lo hi) := by
  obtain ⟨n, dn, h1, h2, h3, h4⟩ := h
  refine ⟨n, dn, ?_, h2, ?_, h4⟩
  · unfold sNumTo; rw [mu_nj (by omega), sNum_ne (by decide)]; exact h1
  · unfold sNumTo; rw [mu_nj (by omega), sNum_ne (by decide)]; exact h3
theorem dOk.vanB {μ : Me} (h : dOk μ) : dOk (sVanB μ) :=
  ((((h.of (sInc_ne (by decide))).numTo (by decide)).numTo (by decide)).numTo (by decide)).of (sEnd_ne (by decide))
theorem dOk.van {b : Bool} {μ : Me} (h : dOk μ) : dOk (sVan μ b) := by
  unfold sVan; split
  · exact (h.of (sFail_ne (by decide))).vanB
  · exact h.vanB
theorem sStopB_3 (μ : Me) : (sEnd (sNum (sNum (sNum (sInc μ) 0 99).2 0 4095).2 0 9).2) 3 = μ 3 := by
  rw [sEnd_ne (by decide), sNum_ne (by decide), sNum_ne (by decide), sNum_ne (by decide), sInc_ne (by decide)]
theorem dOk.stopB {μ : Me} (h : dOk μ) : dOk (sStopB μ) := by
  unfold sStopB
  dsimp only
  rw [← nOf_eq (sStopB_3 μ)]
  exact (h.of (sStopB_3 μ)).addStop
theorem dOk.stop {μ : Me} (h : dOk μ) : dOk (sStop μ) := by
  unfold sStop; split
  · exact h.stopB
  · exact (h.of (sFail_ne (by decide))).stopB
theorem sDinA_3 (μ : Me) : (sNum (sInc μ) 0 9).2 3 = μ 3 := by rw [sNum_ne (by decide), sInc_ne (by decide)]
theorem dOk.dinA {μ : Me} (h : dOk μ) : dOk (sDinA μ) := by
  unfold sDinA
  rw [← dnOf_eq (sDinA_3 μ)]
  exact (h.of (sDinA_3 μ)).addDin
theorem dOk.dinS {m : Nat} {μ : Me} (h : dOk μ) : dOk (sDinS m μ) := by
  unfold sDinS; split
  · exact (h.of (sFail_ne (by decide))).dinA
  · exact h.dinA
theorem dOk.dinL : ∀ (m k : Nat) (μ : Me), dOk μ → dOk (sDinL m k μ) := by
  intro m
  induction m with
  | zero => intro k μ h; exact h.of (sEnd_ne (by decide))
  | succ m ih =>
    intro k μ h
    rw [sDinL]
    split
    · exact h.of (sEnd_ne (by decide))
    · split
      · exact ih _ _ (h.of (sPeek_ne (by decide))).dinS
      · exact (h.of (sPeek_ne (by decide))).of (sEnd_ne (by decide))
theorem dOk.din {μ : Me} (h : dOk μ) : dOk (sDin μ) := by
  unfold sDin; split
  · exact dOk.dinL _ _ _ h.dinA
  · exact dOk.dinL _ _ _ (h.of (sFail_ne (by decide))).dinA
theorem dOk.neiC {s t o : Int32} {μ : Me} (h : dOk μ) : dOk (sNeiC μ s t o) := by
  unfold sNeiC; split
  · split
    · exact h.of (by rw [mu_ne (by decide), mu_ne (by decide)])
    · exact h
  · exact h
theorem dOk.neiB {s t : Int32} {μ : Me} (h : dOk μ) : dOk (sNeiB μ s t) := dOk.neiC (h.of (by rw [sEnd_ne (by decide), sNum_ne (by decide)]))
theorem dOk.neiA {s : Int32} {μ : Me} (h : dOk μ) : dOk (sNeiA μ s) := by
  unfold sNeiA
  dsimp only
  split
  · exact dOk.neiB (h.of (by rw [sFail_ne (by decide), sNum_ne (by decide)]))
  · exact dOk.neiB (h.of (by rw [sNum_ne (by decide)]))
theorem dOk.nei {μ : Me} (h : dOk μ) : dOk (sNei μ) := by
  have e1 : (sNum (sInc μ) 0 (μ 3 3 - 1)).2 3 = μ 3 := by rw [sNum_ne (by decide), sInc_ne (by decide)]
  unfold sNei
  dsimp only
  split
  · split
    · exact (h.of e1).neiA
    · exact (h.of (by rw [sFail_ne (by decide), e1])).neiA
  · exact (h.of e1).neiA
theorem dOk.clause {w : Int32} {μ : Me} (h : dOk μ) : dOk (sClause μ w) := by
  unfold sClause
  split
  · split
    · exact h.van
    · exact h.of (sFail_ne (by decide))
  · split
    · exact h.van
    · split
      · exact h.stop
      · split
        · exact h.din
        · split
          · exact h.nei
          · exact h.of (sFail_ne (by decide))
