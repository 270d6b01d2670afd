theorem l_and (a b : Nat) : lN a &&& lN b = lN (a &&& b) := by
  apply Int64.toBitVec_inj.1
  show BitVec.ofNat 64 a &&& BitVec.ofNat 64 b = BitVec.ofNat 64 (a &&& b)
  apply BitVec.eq_of_getLsbD_eq
  intro i hi
  simp [hi]
theorem diceC_n {z : Nat} (hz : z < 2147483648) : ((nI z).toInt64 * 1103515245 + 12345 &&& 2147483647).toInt32 = mDiceV (nI z) := by
  rw [diceV_n hz, nI_l hz]
  have e : lN z * 1103515245 + 12345 = lN (z * 1103515245 + 12345) := by rw [← lN_add, ← lN_mul]; rfl
  rw [e, show (2147483647 : Int64) = lN (2 ^ 31 - 1) from rfl, l_and, Nat.and_two_pow_sub_one_eq_mod, lN_i]
theorem Rel.setDice {μ ν : Me} {n d z : Nat} (h : Rel μ ν n d) (hz : z < 2147483648) : Rel (mu μ 0 11 (nI z)) (mu ν 137 17 (nI z)) n d := by
  have h0 := h
  obtain ⟨hS, -, -, ⟨hd, hzb, -, hb⟩, hP, -⟩ := h
  have h7 := hS.1.2.1
  refine h0.deed (fun a q _ => mu_ne (by omega)) (fun j' q => by rw [mu_ne (by decide)]) (fun a _ q => mu_ne (by omega)) (fun c q => mu_nj (by omega)) ⟨?_, ?_, ⟨z, hz, mu_same _ _ _ _, mu_same _ _ _ _⟩, ?_⟩ ?_
  · exact hd.fr (mu_ne (by decide)) (mu_ne (by decide)) (mu_ne (by decide)) (fun c q1 q2 => mu_nj (by omega))
  · exact hzb.fr h7 (fun s _ => by rw [mu_ne (by decide)]) (fun c q1 q2 => mu_nj (by omega))
  · rw [mu_ne (by decide), mu_ne (by decide)]; exact hb
  · exact hP.fr h7 (fun a q1 q2 => mu_ne (by omega)) (by rw [mu_ne (by decide)]) (fun s _ => by rw [mu_ne (by decide)]) (fun c q1 q2 => mu_nj (by omega))
theorem Rel.dice {μ ν : Me} {n d : Nat} (h : Rel μ ν n d) : Rel (sDice μ) (mDice ν) n d ∧ sDice μ 0 11 = mDiceV (ν 137 17) := by
  obtain ⟨-, -, ⟨z, z9, z1, z2⟩, -⟩ := h.2.2.2.1
  obtain ⟨q, e, hq⟩ := diceV_ok z2 z9
  have e1 : sDice μ = mu μ 0 11 (nI q) := by unfold sDice; rw [z1, diceC_n z9, ← z2, e]
  have e2 : mDice ν = mu ν 137 17 (nI q) := by unfold mDice; rw [e]
  rw [e1, e2, e]
  exact ⟨h.setDice hq, mu_same _ _ _ _⟩
theorem Rel.draw {μ ν : Me} {n d k : Nat} (h : Rel μ ν n d) (hk0 : 0 < k) (hk : k ≤ 7) : sDraw μ (nI k) = mDraw ν (nI k) ∧ ∃ q : Nat, q < k ∧ mDraw ν (nI k) = nI q := by
  obtain ⟨-, e⟩ := h.dice
  obtain ⟨-, -, ⟨z, z9, z1, z2⟩, -⟩ := h.2.2.2.1
  refine ⟨?_, draw_n z2 z9 hk0 (by omega)⟩
  unfold sDraw mDraw
  rw [if_pos (show (1 : Int32) ≤ nI k from nI_le (a := 1) hk0 (by omega)), e]
theorem Rel.past {μ ν : Me} {n d : Nat} (h : Rel μ ν n d) : μ 28 1 = nI (xOf μ) ∧ xOf μ < 30 ∧ μ 28 2 = nI (yOf μ) ∧ yOf μ ≤ 30 ∧ uOf ν = yOf μ := by
  obtain ⟨x, y, hx, hy, x1, y1, y2, -⟩ := h.2.2.2.2.1
  have ex : xOf μ = x := by unfold xOf; rw [x1, cl_nI (by omega)]
  have ey : yOf μ = y := by unfold yOf; rw [y1, cl_nI (by omega)]
  have eu : uOf ν = y := by unfold uOf; rw [y2, cl_nI (by omega)]
  rw [ex, ey, eu]
  exact ⟨x1, hx, y1, hy, rfl⟩
theorem Rel.driftS {μ ν : Me} {n d : Nat} {way : Int32} (h : Rel μ ν n d) (h0 : 0 < n) (hw : sIsWay (nI n) way = true) : Rel (sDriftS way μ) (mDriftS way ν) n d ∧ (∀ a, 136 ≤ a → sDriftS way μ a = μ a) ∧ (∀ a, a < 136 → mDriftS way ν a = ν a) := by
  have h7 := h.1.1.2.1
  obtain ⟨x1, x9, y1, y9, eu⟩ := h.past
  have p1 := h.push x1 x9 y1 y9
  have hb : ∀ a, a < 136 → mRem ν (yOf μ) a = ν a := fun a q => rem_ge q
  have ha : ∀ a, 136 ≤ a → sPush μ (xOf μ) (yOf μ) 17 a = μ a := fun a q => push_ge x9 q
  unfold sDriftS mDriftS
  rw [eu]
  generalize sPush μ (xOf μ) (yOf μ) 17 = μ1 at p1 ha ⊢
  generalize mRem ν (yOf μ) = ν1 at p1 hb ⊢
  obtain ⟨dr, q, hq, eq⟩ := p1.draw h0 h7
  have n3 := p1.1.2.1.1
  have e8 := p1.1.1.1
  obtain ⟨p2, -⟩ := p1.dice
  have ed : mDraw ν1 (ν1 136 8) = nI q := by rw [e8]; exact eq
  have es : sDraw μ1 (μ1 10 3) = nI q := by rw [n3, dr]; exact eq
  have p3 : Rel (sObd μ1) (mu (mDice ν1) 137 q (if mDice ν1 137 q = 2 then 1 else mDice ν1 137 q)) n d := by
    unfold sObd
    dsimp only
    rw [es, n3, has_n h7 hq, if_pos rfl, cl_nI (by omega), (p2.is (by omega) (show q < 7 by omega)).1]
    by_cases c : mDice ν1 137 q = 2
    · rw [if_pos c, if_pos c]; exact p2.setIs (by omega)
    · rw [if_neg c, if_neg c, mu_self]; exact p2
  dsimp only
  rw [ed, cl_nI (by omega)]
  have fb : ∀ a, a < 136 → mu (mDice ν1) 137 q (if mDice ν1 137 q = 2 then 1 else mDice ν1 137 q) a = ν a := fun a w => by unfold mDice; rw [mu_ne (by omega), mu_ne (by omega)]; exact hb a w
  have fa : ∀ a, 136 ≤ a → sObd μ1 a = μ a := fun a w => by rw [sObd_ne (by omega) (by omega)]; exact ha a w
  generalize sObd μ1 = μ3 at p3 fa ⊢
  generalize mu (mDice ν1) 137 q (if mDice ν1 137 q = 2 then 1 else mDice ν1 137 q) = ν3 at p3 fb ⊢
  obtain ⟨dr4, k, hk, ek⟩ := p3.draw (k := 4) (by omega) (by omega)
  obtain ⟨p4, -⟩ := p3.dice
  have ek' : mDraw ν3 4 = nI k := ek
  have es' : sDraw μ3 4 = nI k := dr4.trans ek
  rw [ek', es']
  refine ⟨(p4.drive hw (win4 hk)).2, fun a w => ?_, fun a w => ?_⟩
  · rw [drive_ge w, sDice_ne (by omega)]; exact fa a w
  · rw [round_lt (mWok.of rfl h7 hw) h7 w]; unfold mDice; rw [mu_ne (by omega)]; exact fb a w
theorem Rel.driftL {n d : Nat} {way : Int32} (h0 : 0 < n) (hw : sIsWay (nI n) way = true) : ∀ (k : Nat) (μ ν : Me), Rel μ ν n d → Rel (sDriftL way k μ) (mDriftL way k ν) n d ∧ (∀ a, 136 ≤ a → sDriftL way k μ a = μ a) ∧ (∀ a, a < 136 → mDriftL way k ν a = ν a) := by
  intro k
  induction k with
  | zero => intro μ ν h; exact ⟨h, fun _ _ => rfl, fun _ _ => rfl⟩
  | succ k ih =>
    intro μ ν h
    obtain ⟨h1, h2, h3⟩ := h.driftS h0 hw
    obtain ⟨g1, g2, g3⟩ := ih _ _ h1
    rw [sDriftL, mDriftL]
    exact ⟨g1, fun a q => (g2 a q).trans (h2 a q), fun a q => (g3 a q).trans (h3 a q)⟩
theorem p_drift {μ ν : Me} {n d : Nat} {k : Int32} (h : Rel μ ν n d) : Pr (oDrift μ n k) μ (qDrift ν n k) ν := by
  have h7 := h.1.1.2.1
  unfold oDrift qDrift
  rw [h.1.1.1, h.1.2.1.1, h.2.2.2.1.1.s0.2.1]
  by_cases c1 : sWithin k 1 20 = true
  · rw [if_pos c1, if_pos c1]
    by_cases c2 : (nI n : Int32) = 0
    · rw [if_pos c2, if_pos c2]; exact Pr.same h rfl
    · rw [if_neg c2, if_neg c2]
      have h0 : 0 < n := Nat.pos_of_ne_zero (fun q => c2 (by rw [q]; rfl))
      by_cases c3 : ν 137 14 ≤ 9000
      · rw [if_pos c3, if_pos c3]
        obtain ⟨g1, g2, g3⟩ := Rel.driftL h0 (rise_way n h0 h7) k.toNatClampNeg μ ν h
        exact ⟨g1.2.2.2.1.1.s0.2.2.1, ⟨n, d, g1⟩, g2, g3⟩
      · rw [if_neg c3, if_neg c3]; exact Pr.same h rfl
  · rw [if_neg c1, if_neg c1]; exact Pr.same h rfl
