theorem abs_n {y : Nat} (h : y ≤ 99) : sAbs (nI y - 0) = nI y := by
  unfold sAbs
  rw [show (nI y : Int32) - 0 = nI y from pk_sub (b := 0) (Nat.zero_le _), if_pos (nI_pos' (by omega))]
theorem way_pos {n : Nat} {way : Int32} (h7 : n ≤ 7) (hw : sIsWay (nI n) way = true) : 0 < n := by
  obtain ⟨w, -, -, -, e1, -⟩ := way_all h7 hw
  obtain ⟨j, hj, -⟩ := mWok.of rfl h7 hw 0 (by omega)
  omega
theorem trip {μ ν : Me} {n d a b : Nat} {way haste : Int32} (hR : RS μ ν n d) (hday : dR n μ a ν b) (ha : a + 2 < 24 ∨ 26 < a) (hw : sIsWay (nI n) way = true) (hh : sWithin haste 0 3 = true) :
    sRun μ way a haste 23 2 = (mRoundIn ν b way haste).1 ∧ sRun μ way a haste 23 3 = (mRoundIn ν b way haste).2 136 20 ∧ sRun μ way a haste 23 4 = (mRoundIn ν b way haste).2 136 21 ∧ (∀ s, s < 7 → sRun μ way a haste 27 s = (mRoundIn ν b way haste).2 147 s) ∧ dR n (sRun μ way a haste) 24 (mRoundIn ν b way haste).2 b := by
  have h7 := hR.1.2.1
  have hT := TR.all (haste := haste) h7 hw hh (TR.start (o2 := 0) (o3 := 0) (o4 := 0) (way := way) hR (by rw [Int32.add_zero, Int32.add_zero, Int32.add_zero]; exact ⟨hday.1 (way_pos h7 hw), hday.2⟩) ha)
  unfold sRun mRoundIn
  generalize sRL way haste (sFE way 9 0 + 1) (sTBeg μ a) = M at hT ⊢
  generalize mRL b way haste (mRI0 ν) (dg 10 way) = q at hT ⊢
  obtain ⟨tm, yd, tn, N⟩ := q
  obtain ⟨hR', ⟨c6, c7, c5, c3, c4⟩, hd', ⟨f2, f3, f4⟩, -, t, y, et, ht, ey, hy⟩ := hT
  dsimp only at hR' c6 c7 c5 c3 c4 hd' f2 f3 f4 et ey
  rw [Int32.add_zero] at f2 f3 f4
  have eB : M 23 6 + sBetw M 10 (M 23 7) 0 = tm + yd * N 139 1 := by
    unfold sBetw
    rw [c6, c7, ey, abs_n hy, hR'.2.1.2.2.2.1]
  unfold sRunT mRE
  dsimp only
  rw [eB]
  refine ⟨?_, ?_, ?_, fun s hs => ?_, fun _ s hs => ⟨?_, ?_⟩, ?_, ?_, ?_⟩
  · rw [mu_ne (by decide), mu_ne (by decide), mu_ne (by decide), mu_same]
  · rw [mu_ne (by decide), mu_ne (by decide), mu_ne (by decide), mu_nj (by decide), mu_ne (by decide), mu_ne (by decide), c3]
  · rw [mu_ne (by decide), mu_ne (by decide), mu_ne (by decide), mu_nj (by decide), mu_ne (by decide), mu_ne (by decide), c4]
  · rw [mu_ne (by decide), mu_ne (by decide), mu_ne (by decide), mu_ne (by decide), mu_ne (by decide), mu_ne (by decide), (hd' s hs).1]
  · rw [mu_ne (by decide), mu_ne (by decide), mu_ne (by decide), mu_ne (by decide), mu_nj (by omega), mu_nj (by omega), (hd' s hs).2.1]
  · rw [mu_ne (by decide), mu_ne (by decide), mu_ne (by decide), mu_ne (by decide), mu_nj (by omega), mu_nj (by omega), (hd' s hs).2.2]
  · rw [mu_nj (by decide), mu_nj (by decide), mu_same, mu_nj (by omega), mu_same, mu_ne (by decide), f2]
  · rw [mu_nj (by decide), mu_same, mu_same, mu_nj (by decide), mu_ne (by decide), mu_nj (by omega), f3, mu_ne (by decide), mu_same]
  · rw [mu_same, mu_nj (by decide), mu_nj (by decide), mu_ne (by decide), mu_ne (by decide), mu_ne (by decide), mu_nj (by decide), mu_nj (by omega), mu_nj (by omega)]; exact f4
theorem trip0 {μ ν : Me} {n d a b : Nat} {way haste : Int32} (hR : RS μ ν n d) (hday : ∀ s, s < 7 → μ (a + 1) s = ν 137 (b + s) ∧ μ (a + 2) s = ν 137 (b + 7 + s)) (ha : a + 2 < 24 ∨ 26 < a) (hw : sIsWay (nI n) way = true) (hh : sWithin haste 0 3 = true) : sRun μ way a haste 23 4 = (mRoundIn ν b way haste).2 136 21 := by
  have h7 := hR.1.2.1
  have e : ∀ x y : Int32, x + (y - x) = y := fun x y => by rw [Int32.sub_eq_add_neg, Int32.add_comm y, ← Int32.add_assoc, Int32.add_right_neg, Int32.zero_add]
  have hT := TR.all (haste := haste) h7 hw hh (TR.start (o2 := ν 137 (b + 14) - μ a 2) (o3 := ν 137 (b + 15) - μ a 3) (o4 := ν 137 (b + 16) - μ a 4) (way := way) hR ⟨hday, e _ _, e _ _, e _ _⟩ ha)
  unfold sRun mRoundIn
  generalize sRL way haste (sFE way 9 0 + 1) (sTBeg μ a) = M at hT ⊢
  generalize mRL b way haste (mRI0 ν) (dg 10 way) = q at hT ⊢
  obtain ⟨tm, yd, tn, N⟩ := q
  obtain ⟨-, ⟨-, -, -, -, c4⟩, -⟩ := hT
  dsimp only at c4
  unfold sRunT mRE
  dsimp only
  rw [mu_ne (by decide), mu_ne (by decide), mu_ne (by decide), mu_nj (by decide), mu_ne (by decide), mu_ne (by decide), c4]
