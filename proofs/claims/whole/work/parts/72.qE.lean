def uB (μ : Me) (hs : Int32) (k : Nat) (B : sB3) (f : Nat → Int32) : sB3 := if sBeat B.2.1 B.2.2 (pW μ hs f k).2.2 ((pW μ hs f k).2.1 + sBetw μ 10 (pW μ hs f k).1 0) then (mWOf f k, (pW μ hs f k).2.2, (pW μ hs f k).2.1 + sBetw μ 10 (pW μ hs f k).1 0) else B
def mB2 (μ : Me) (hs : Int32) (k : Nat) : Nat → sB3 → (Nat → Int32) → sB3
  | 0, B, _ => B
  | r + 1, B, f => (nx f k).elim (uB μ hs k B f) (fun f' => mB2 μ hs k r (uB μ hs k B f) f')
theorem Rel.tr {μ ν : Me} {n d : Nat} {way h : Int32} (hr : Rel μ ν n d) (hw : sIsWay (nI n) way = true) : Rel μ (mTry ν way h).2 n d := by
  have h7 := hr.1.1.2.1
  have fr := mTry_fr (ν := ν) (haste := h) (mWok.of rfl h7 hw) h7
  exact hr.tried (fun a q _ => rfl) (fun j q => by rw [fr.2.1 j q.1 q.2, copy_ne (by decide)]) (fun a q1 q2 => by rw [fr.1 a (by omega) (by omega) (by omega), copy_ne (by omega)]) (fun j q => by rw [fr.2.2 j (by omega), copy_lo (by omega)])
theorem Rel.row {μ ν : Me} {n d : Nat} {f : Nat → Int32} (h : Rel μ ν n d) : Rel μ (mr ν 148 f) n d := h.tried (fun a q _ => rfl) (fun j q => by rw [mr_ne (by decide)]) (fun a q1 q2 => mr_ne (by omega)) (fun j q => by rw [mr_ne (by decide)])
theorem bsN_eq {μ ν : Me} {n d k : Nat} {hs : Int32} {B : sB3} (h : Rel μ ν n d) (hh : sWithin hs 0 3 = true) (hk : k ≤ 7) (h0 : 0 < k) (hr : rOk (ν 148) k n) (hc : ∀ t, t < k → sCounts (μ 18 (ν 148 t).toNatClampNeg) = true) : mBsN hs k B ν = uB μ hs k B (ν 148) := by
  have h7 := h.1.1.2.1
  obtain ⟨t1, t2, -⟩ := h.try (hr.isWay h7 hk h0) hh
  obtain ⟨r1, r2⟩ := run_pW (hs := hs) h.1.2.1.1 h7 hk h0 hr hc
  unfold mBsN uB
  rw [← t1, ← t2, r1, r2]
  rfl
theorem bst_eq {μ : Me} {n d k : Nat} {hs : Int32} (hh : sWithin hs 0 3 = true) (hk : k ≤ 7) (h0 : 0 < k) : ∀ (r : Nat) (B : sB3) (ν : Me), Rel μ ν n d → rOk (ν 148) k n → (∀ t, t < k → sCounts (μ 18 (ν 148 t).toNatClampNeg) = true) → (mBst hs k r B ν).1 = mB2 μ hs k r B (ν 148) ∧ Rel μ (mBst hs k r B ν).2 n d ∧ ∀ a, a < 136 → (mBst hs k r B ν).2 a = ν a := by
  intro r
  induction r with
  | zero => intro B ν h _ _; exact ⟨rfl, h, fun _ _ => rfl⟩
  | succ r ih =>
    intro B ν h hr hc
    have h7 := h.1.1.2.1
    have hw := hr.isWay h7 hk h0
    have h2 := h.tr (h := hs) hw
    have f8 := (h.try hw hh).2.2.2.2.2.2.2
    rw [mBst, mB2, bsN_eq h hh hk h0 hr hc]
    cases e : nx (ν 148) k with
    | none =>
      refine ⟨rfl, h2.row, fun a q => ?_⟩
      show mr (mTry ν (mWOf (ν 148) k) hs).2 148 (ν 148) a = ν a
      rw [mr_ne (by omega)]; exact f8 a q
    | some f' =>
      obtain ⟨i, j, π, -, -, -, -, -, hπ, ef⟩ := nx_ok e
      have e148 : mr (mTry ν (mWOf (ν 148) k) hs).2 148 f' 148 = f' := mr_same _ _ _
      obtain ⟨g1, g2, g3⟩ := ih (uB μ hs k B (ν 148)) (mr (mTry ν (mWOf (ν 148) k) hs).2 148 f') h2.row (by rw [e148]; exact hr.nxt e) (fun t ht => by
        rw [e148, ef]
        exact hc _ (by have := hπ.2.2 t (by omega) (by omega); omega))
      refine ⟨?_, g2, fun a q => ?_⟩
      · rw [e148] at g1; exact g1
      · refine (g3 a q).trans ?_
        rw [mr_ne (by omega)]; exact f8 a q
