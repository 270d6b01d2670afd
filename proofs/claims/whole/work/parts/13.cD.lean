def sSkip (f : Nat → Int32) : Nat → Nat → Nat
  | 0, t => t
  | m + 1, t => if f t = 32 then sSkip f m (t + 1) else t
def tLen (μ : Me) : Nat := (μ 1 1).toNatClampNeg
def tAt (μ : Me) : Nat := (μ 1 4).toNatClampNeg
def sLook (f : Nat → Int32) (l q : Nat) : Int32 := if q < l then f q else -1
def sPos (μ : Me) : Nat := sSkip (μ 2) (tLen μ - tAt μ) (tAt μ)
def sPeek (μ : Me) : Int32 × Me := (sLook (μ 2) (tLen μ) (sPos μ), mu μ 1 4 (nI (sPos μ)))
def sIsFig (c : Int32) : Bool := sWithin c 48 57
def sFail (μ : Me) (k w : Int32) : Me := if μ 1 2 = 0 then mu (mu μ 1 2 k) 1 3 w else μ
def sDig (f : Nat → Int32) : Nat → Nat → Int32 → Int32 → Nat × Int32 × Int32
  | 0, t, v, g => (t, v, g)
  | m + 1, t, v, g => if sIsFig (f t) then sDig f m (t + 1) (if 4 < g + 1 then v else v * 10 + f t - 48) (g + 1) else (t, v, g)
def sNumE (μ : Me) (lo hi : Int32) (d : Nat × Int32 × Int32) : Int32 × Me :=
  if 4 < d.2.2 then (-1, sFail (mu μ 1 4 (nI d.1)) 2 (μ 1 5)) else if sWithin d.2.1 lo hi then (d.2.1, mu μ 1 4 (nI d.1)) else (-1, sFail (mu μ 1 4 (nI d.1)) 2 (μ 1 5))
def sNumB (μ : Me) (lo hi : Int32) : Int32 × Me := if μ 1 2 = 0 then sNumE (mu μ 1 5 (μ 1 4)) lo hi (sDig (μ 2) (tLen μ - tAt μ) (tAt μ) 0 0) else (-1, μ)
def sNum (μ : Me) (lo hi : Int32) : Int32 × Me :=
  if sIsFig (sPeek μ).1 then sNumB (sPeek μ).2 lo hi else sNumB (sFail (sPeek μ).2 1 ((sPeek μ).2 1 4)) lo hi
def sEnd (μ : Me) : Me :=
  let m1 := if (sPeek μ).1 = 59 then (sPeek μ).2 else sFail (sPeek μ).2 1 ((sPeek μ).2 1 4)
  mu m1 1 4 (m1 1 4 + 1)
/-- the text's own numbers: its length, and where the reading stands, B at most -/
def tOk (B : Nat) (μ : Me) : Prop := ∃ l t : Nat, μ 1 1 = nI l ∧ l ≤ 240 ∧ μ 1 4 = nI t ∧ t ≤ B
theorem tOk.r {B l t : Nat} {μ : Me} (h1 : μ 1 1 = nI l) (h2 : l ≤ 240) (h3 : μ 1 4 = nI t) (h4 : t ≤ B) (hB : B ≤ 100000) : tLen μ = l ∧ tAt μ = t := by
  unfold tLen tAt
  rw [h1, h3, cl_nI (by omega), cl_nI (by omega)]
  exact ⟨rfl, rfl⟩
theorem sSkip_le (f : Nat → Int32) : ∀ (m t : Nat), sSkip f m t ≤ t + m := by
  intro m
  induction m with
  | zero => intro t; exact Nat.le_refl _
  | succ m ih =>
    intro t
    rw [sSkip]
    split
    · have := ih (t + 1); omega
    · omega
theorem sSkip_ge (f : Nat → Int32) : ∀ (m t : Nat), t ≤ sSkip f m t := by
  intro m
  induction m with
  | zero => intro t; exact Nat.le_refl _
  | succ m ih =>
    intro t
    rw [sSkip]
    split
    · have := ih (t + 1); omega
    · omega
theorem sDig_le (f : Nat → Int32) : ∀ (m t : Nat) (v g : Int32), (sDig f m t v g).1 ≤ t + m := by
  intro m
  induction m with
  | zero => intro t v g; exact Nat.le_refl _
  | succ m ih =>
    intro t v g
    rw [sDig]
    split
    · have := ih (t + 1) (if 4 < g + 1 then v else v * 10 + f t - 48) (g + 1); omega
    · show t ≤ _; omega
theorem win_at {l t : Nat} (hl : l ≤ 240) (ht : t ≤ 100000) : sWithin (nI t) 0 (nI l - 1) = decide (t < l) := by
  rcases Nat.eq_zero_or_pos l with h | h
  · subst h
    have : (nI 0 - 1 : Int32) < nI t := by
      refine Int32.lt_of_lt_of_le (b := 0) (by decide) (nI_pos' (by omega))
    simp [sWithin, this]
  · have e : (nI l : Int32) - 1 = nI (l - 1) := by
      have := pk_sub (a := l) (b := 1) h
      exact this
    rw [e]
    have q1 := nI_pos (n := t) (by omega)
    by_cases q : t < l
    · have q2 := nI_nlt (a := l - 1) (b := t) (by omega) (by omega)
      simp [sWithin, q1, q2, q]
    · have q2 := nI_lt (a := l - 1) (b := t) (by omega) (by omega)
      simp [sWithin, q1, q2, q]
set_option maxHeartbeats 4000000 in
set_option maxRecDepth 100000 in
theorem l_X6_isWay {μ : Me} {e : Nat × (Nat → aC)} {a n : Nat} {way : Int32} (ha : sS a) (hn : μ a 3 = nI n) (h7 : n ≤ 7) : ∀ (m : Nat) (rest used : Int32) (L4 : Option Value), (rest ≤ 0 ∨ ∃ r : Nat, rest = nI r ∧ r < 10 ^ m ∧ r < 2147483648) → AW none 1 0 0 mX6_isWay 0 0 4 [some (.ref a), some (.int way), some (.int used), some (.int rest), L4] [] (wS μ e) (a_eq (some (.int (b2i (sWay (μ a 3) m rest used)))) (wS μ e)) := by
  intro m
  induction m with
  | zero =>
    intro rest used L4 hr
    have hz : rest ≤ 0 := by
      rcases hr with h | ⟨r, rfl, h, -⟩
      · exact h
      · have : r = 0 := by omega
        subst this
        decide
    refine AW.iload_n (n := 5) dX6_isWay_4 rfl rfl ?_
    refine AW.if_le (n := 8) (t := 51) dX6_isWay_5 rfl rfl (fun h5 => ?_) (fun h5 => ?_)
    · refine AW.iload_n (n := 52) dX6_isWay_51 rfl rfl ?_
      refine AW.if_eq (n := 55) (t := 59) dX6_isWay_52 rfl rfl (fun h52 => ?_) (fun h52 => ?_)
      · refine AW.iconst (n := 60) (v := 0) dX6_isWay_59 rfl rfl ?_
        refine AW.iret dX6_isWay_60 rfl rfl (Nat.zero_le _) (Nat.zero_le _) ?_
        exact ⟨by simp [sWay, b2i, h5, h52], rfl⟩
      · refine AW.iconst (n := 56) (v := 1) dX6_isWay_55 rfl rfl ?_
        refine AW.goto (t := 60) dX6_isWay_56 rfl ?_
        refine AW.iret dX6_isWay_60 rfl rfl (Nat.zero_le _) (Nat.zero_le _) ?_
        exact ⟨by simp [sWay, b2i, h5, h52], rfl⟩
    · exact absurd hz h5
  | succ m ih =>
    intro rest used L4 hr
    refine AW.iload_n (n := 5) dX6_isWay_4 rfl rfl ?_
    refine AW.if_le (n := 8) (t := 51) dX6_isWay_5 rfl rfl (fun h5 => ?_) (fun h5 => ?_)
    · refine AW.iload_n (n := 52) dX6_isWay_51 rfl rfl ?_
      refine AW.if_eq (n := 55) (t := 59) dX6_isWay_52 rfl rfl (fun h52 => ?_) (fun h52 => ?_)
      · refine AW.iconst (n := 60) (v := 0) dX6_isWay_59 rfl rfl ?_
        refine AW.iret dX6_isWay_60 rfl rfl (Nat.zero_le _) (Nat.zero_le _) ?_
        exact ⟨by simp [sWay, b2i, sBit, h5, h52], rfl⟩
      · refine AW.iconst (n := 56) (v := 1) dX6_isWay_55 rfl rfl ?_
        refine AW.goto (t := 60) dX6_isWay_56 rfl ?_
        refine AW.iret dX6_isWay_60 rfl rfl (Nat.zero_le _) (Nat.zero_le _) ?_
        exact ⟨by simp [sWay, b2i, sBit, h5, h52], rfl⟩
    · refine AW.iload_n (n := 9) dX6_isWay_8 rfl rfl ?_
      refine AW.bipush (n := 11) (v := 10) dX6_isWay_9 rfl rfl ?_
      refine AW.irem (n := 12) dX6_isWay_11 (by decide) rfl ?_
      refine AW.iconst (n := 13) (v := 1) dX6_isWay_12 rfl rfl ?_
      refine AW.isub (n := 14) dX6_isWay_13 rfl ?_
      refine AW.ist4 (n := 16) dX6_isWay_14 (Nat.le_of_ble_eq_true rfl) rfl rfl ?_
      refine AW.aload_n (n := 17) dX6_isWay_16 rfl rfl ?_
      refine AW.iload (n := 19) dX6_isWay_17 rfl rfl ?_
      refine AW.ev1i (Mc := mX6_has) (n := 22) dX6_isWay_19 lk_X6_52 k_mX6_has ha.1 rfl rfl (c_X6_has ha) (Nat.le_of_ble_eq_true rfl) (by decide) (Nat.zero_le _) (Nat.zero_le _) rfl ?_
      refine AW.bif_eq (n := 25) (t := 34) dX6_isWay_22 rfl rfl (fun h22 => ?_) (fun h22 => ?_)
      · refine AW.iconst (n := 35) (v := 0) dX6_isWay_34 rfl rfl ?_
        refine AW.iret dX6_isWay_35 rfl rfl (Nat.zero_le _) (Nat.zero_le _) ?_
        exact ⟨by simp [sWay, b2i, sBit, h5, h22], rfl⟩
      · refine AW.iload_n (n := 26) dX6_isWay_25 rfl rfl ?_
        refine AW.iload (n := 28) dX6_isWay_26 rfl rfl ?_
        refine AW.ishr (n := 29) dX6_isWay_28 rfl ?_
        refine AW.iconst (n := 30) (v := 1) dX6_isWay_29 rfl rfl ?_
        refine AW.iand (n := 31) dX6_isWay_30 rfl ?_
        refine AW.if_eq (n := 34) (t := 36) dX6_isWay_31 rfl rfl (fun h31 => ?_) (fun h31 => ?_)
        · refine AW.iload_n (n := 37) dX6_isWay_36 rfl rfl ?_
          refine AW.iconst (n := 38) (v := 1) dX6_isWay_37 rfl rfl ?_
          refine AW.iload (n := 40) dX6_isWay_38 rfl rfl ?_
          refine AW.ishl (n := 41) dX6_isWay_40 rfl ?_
          refine AW.ior (n := 42) dX6_isWay_41 rfl ?_
          refine AW.ist2 (n := 43) dX6_isWay_42 (Nat.le_of_ble_eq_true rfl) rfl rfl ?_
          refine AW.iload_n (n := 44) dX6_isWay_43 rfl rfl ?_
          refine AW.bipush (n := 46) (v := 10) dX6_isWay_44 rfl rfl ?_
          refine AW.idiv (n := 47) dX6_isWay_46 (by decide) rfl ?_
          refine AW.ist3 (n := 48) dX6_isWay_47 (Nat.le_of_ble_eq_true rfl) rfl rfl ?_
          refine AW.goto (t := 4) dX6_isWay_48 rfl ?_
          have e9 : sWay (μ a 3) (m + 1) rest used = sWay (μ a 3) m (rest / 10) (used ||| ((1 : Int32) <<< ((rest - rest / 10 * 10 - 1) &&& 31))) := by simp [sWay, sBit, h5, h22, h31]
          rw [e9]
          refine ih _ _ _ ?_
          rcases hr with h | ⟨r, rfl, h, h9⟩
          · exact absurd h h5
          · refine Or.inr ⟨r / 10, pk_div (d := 10) h9 (by decide) (by decide), ?_, by omega⟩
            rw [Nat.pow_succ] at h
            omega
        · refine AW.iconst (n := 35) (v := 0) dX6_isWay_34 rfl rfl ?_
          refine AW.iret dX6_isWay_35 rfl rfl (Nat.zero_le _) (Nat.zero_le _) ?_
          exact ⟨by simp [sWay, b2i, sBit, h5, h22, h31], rfl⟩
def sIsWay (n way : Int32) : Bool := sWay n 10 way 0
theorem way_ok (way : Int32) : way ≤ 0 ∨ ∃ r : Nat, way = nI r ∧ r < 10 ^ 10 ∧ r < 2147483648 := by
  by_cases h : way < 0
  · exact Or.inl (Int32.le_of_lt h)
  · obtain ⟨r, hr, e⟩ := nI_of h
    exact Or.inr ⟨r, e, by omega, hr⟩
set_option maxHeartbeats 4000000 in
set_option maxRecDepth 100000 in
theorem c_X6_isWay {μ : Me} {e : Nat × (Nat → aC)} {a n : Nat} {way : Int32} (ha : sS a) (hn : μ a 3 = nI n) (h7 : n ≤ 7) : AC 1 0 0 mX6_isWay [.ref a, .int way] (wS μ e) (a_eq (some (.int (b2i (sIsWay (μ a 3) way)))) (wS μ e)) := by
  refine AC.of (L := [some (.ref a), some (.int way), none, none, none]) (j := 3) (by decide) rfl (Nat.le_of_ble_eq_true rfl) ?_
  refine AW.iconst (n := 1) (v := 0) dX6_isWay_0 rfl rfl ?_
  refine AW.ist2 (n := 2) dX6_isWay_1 (Nat.le_of_ble_eq_true rfl) rfl rfl ?_
  refine AW.iload_n (n := 3) dX6_isWay_2 rfl rfl ?_
  refine AW.ist3 (n := 4) dX6_isWay_3 (Nat.le_of_ble_eq_true rfl) rfl rfl ?_
  exact l_X6_isWay ha hn h7 10 _ _ _ (way_ok way)
set_option maxHeartbeats 4000000 in
set_option maxRecDepth 100000 in
theorem c_X7_add {μ : Me} {e : Nat × (Nat → aC)} {z : Nat} {x : Int32} (hz : μ 1 1 = nI z) (hz9 : z ≤ 240) : AC 0 0 0 mX7_add [.ref 1, .int x] (wS μ e) (a_eq (some (.int (b2i (decide (z < 240))))) (wS (if z < 240 then sTAdd μ z x else μ) e)) := by
  refine AC.of (L := [some (.ref 1), some (.int x)]) (j := 0) (by decide) rfl (Nat.le_of_ble_eq_true rfl) ?_
  refine AW.aload_n (n := 1) dX7_add_0 rfl rfl ?_
  refine AW.gi (n := 4) dX7_add_1 fl_X7_15 s_1 rfl rfl ?_
  refine AW.sipush (n := 7) (v := 240) dX7_add_4 rfl rfl ?_
  refine AW.icmp_lt (n := 10) (t := 12) dX7_add_7 rfl rfl (fun h7 => ?_) (fun h7 => ?_)
  · have hz1 := lt_lit (b := 240) hz (by omega) (by omega) h7
    refine AW.aload_n (n := 13) dX7_add_12 rfl rfl ?_
    refine AW.gr (n := 16) dX7_add_13 fl_X7_9 s_1 rfl rfl ?_
    refine AW.aload_n (n := 17) dX7_add_16 rfl rfl ?_
    refine AW.gi (n := 20) dX7_add_17 fl_X7_15 s_1 rfl rfl ?_
    refine AW.iload_n (n := 21) dX7_add_20 rfl rfl ?_
    refine AW.is (n := 22) z dX7_add_21 s_2 hz (by omega) (by decide) rfl ?_
    refine AW.aload_n (n := 23) dX7_add_22 rfl rfl ?_
    refine AW.dup (n := 24) dX7_add_23 rfl rfl ?_
    refine AW.gi (n := 27) dX7_add_24 fl_X7_15 s_1 rfl rfl ?_
    refine AW.iconst (n := 28) (v := 1) dX7_add_27 rfl rfl ?_
    refine AW.iadd (n := 29) dX7_add_28 rfl ?_
    refine AW.pi (n := 32) dX7_add_29 fp_X7_15 s_1 rfl ⟨rfl, rfl⟩ rfl ?_
    refine AW.iconst (n := 33) (v := 1) dX7_add_32 rfl rfl ?_
    refine AW.iret dX7_add_33 rfl rfl (Nat.zero_le _) (Nat.zero_le _) ?_
    exact ⟨by simp [sTAdd, b2i, mu_at, nI_1, hz, hz1], by simp [sTAdd, b2i, mu_at, nI_1, hz, hz1]⟩
  · have hz1 := nlt_lit (b := 240) hz (by omega) (by omega) h7
    refine AW.iconst (n := 11) (v := 0) dX7_add_10 rfl rfl ?_
    refine AW.iret dX7_add_11 rfl rfl (Nat.zero_le _) (Nat.zero_le _) ?_
    exact ⟨by simp [sTAdd, b2i, mu_at, nI_1, hz, Nat.not_lt.mpr hz1], by simp [sTAdd, b2i, mu_at, nI_1, hz, Nat.not_lt.mpr hz1]⟩
set_option maxHeartbeats 4000000 in
set_option maxRecDepth 100000 in
theorem c_X7_fail {μ : Me} {e : Nat × (Nat → aC)} {k w : Int32}  : AC 0 0 0 mX7_fail [.ref 1, .int k, .int w] (wS μ e) (a_eq none (wS (sFail μ k w) e)) := by
  refine AC.of (L := [some (.ref 1), some (.int k), some (.int w)]) (j := 0) (by decide) rfl (Nat.le_of_ble_eq_true rfl) ?_
  refine AW.aload_n (n := 1) dX7_fail_0 rfl rfl ?_
  refine AW.gi (n := 4) dX7_fail_1 fl_X7_19 s_1 rfl rfl ?_
  refine AW.if_ne (n := 7) (t := 17) dX7_fail_4 rfl rfl (fun h4 => ?_) (fun h4 => ?_)
  · refine AW.ret dX7_fail_17 rfl (Nat.zero_le _) (Nat.zero_le _) ?_
    exact ⟨rfl, by simp [sFail, h4]⟩
  · refine AW.aload_n (n := 8) dX7_fail_7 rfl rfl ?_
    refine AW.iload_n (n := 9) dX7_fail_8 rfl rfl ?_
    refine AW.pi (n := 12) dX7_fail_9 fp_X7_19 s_1 rfl ⟨rfl, rfl⟩ rfl ?_
    refine AW.aload_n (n := 13) dX7_fail_12 rfl rfl ?_
    refine AW.iload_n (n := 14) dX7_fail_13 rfl rfl ?_
    refine AW.pi (n := 17) dX7_fail_14 fp_X7_22 s_1 rfl ⟨rfl, rfl⟩ rfl ?_
    refine AW.ret dX7_fail_17 rfl (Nat.zero_le _) (Nat.zero_le _) ?_
    exact ⟨rfl, by simp [sFail, h4]⟩
set_option maxHeartbeats 4000000 in
set_option maxRecDepth 100000 in
theorem c_X7_isFigure {σ : aS} {c : Int32}  : AC 1 0 0 mX7_isFigure [.int c] σ (a_eq (some (.int (b2i (sIsFig c)))) σ) := by
  refine AC.of (L := [some (.int c)]) (j := 0) (by decide) rfl (Nat.le_of_ble_eq_true rfl) ?_
  refine AW.iload_n (n := 1) dX7_isFigure_0 rfl rfl ?_
  refine AW.bipush (n := 3) (v := 48) dX7_isFigure_1 rfl rfl ?_
  refine AW.bipush (n := 5) (v := 57) dX7_isFigure_3 rfl rfl ?_
  refine AW.es3i (Mc := mX9_within) (n := 8) dX7_isFigure_5 lk_X7_105 k_mX9_within (c_X9_within) (Nat.le_of_ble_eq_true rfl) (by decide) (Nat.zero_le _) (Nat.zero_le _) rfl ?_
  refine AW.iret dX7_isFigure_8 rfl nar_b2i (Nat.zero_le _) (Nat.zero_le _) ?_
  exact ⟨rfl, rfl⟩
set_option maxHeartbeats 4000000 in
set_option maxRecDepth 100000 in
theorem l_X7_peek {μ : Me} {e : Nat × (Nat → aC)} {l : Nat} (hl : μ 1 1 = nI l) (hl9 : l ≤ 240) : ∀ (m : Nat) (t : Nat), l - t < m → t ≤ 100000 → AW none 1 0 0 mX7_peek 0 0 0 [some (.ref 1)] [] (wS (mu μ 1 4 (nI t)) e) (a_eq (some (.int (sLook (μ 2) l (sSkip (μ 2) (l - t) t)))) (wS (mu μ 1 4 (nI (sSkip (μ 2) (l - t) t))) e)) := by
  intro m
  induction m with
  | zero => intro t hm; exact absurd hm (Nat.not_lt_zero _)
  | succ m ih =>
    intro t hm hc
    have ea : (mu μ 1 4 (nI t)) 1 4 = nI t := mu_same _ _ _ _
    have el : (mu μ 1 4 (nI t)) 1 1 = nI l := (mu_nj (by decide)).trans hl
    have e2 : (mu μ 1 4 (nI t)) 2 = μ 2 := mu_ne (by decide)
    refine AW.aload_n (n := 1) dX7_peek_0 rfl rfl ?_
    refine AW.gi (n := 4) dX7_peek_1 fl_X7_25 s_1 rfl rfl ?_
    refine AW.aload_n (n := 5) dX7_peek_4 rfl rfl ?_
    refine AW.gi (n := 8) dX7_peek_5 fl_X7_15 s_1 rfl rfl ?_
    rw [ea, el]
    refine AW.icmp_ge (n := 11) (t := 38) dX7_peek_8 rfl rfl (fun h8 => ?_) (fun h8 => ?_)
    · have ht : l ≤ t := le_lit (b := l) (x := nI t) rfl (by omega) (by omega) h8
      have e9 : sSkip (μ 2) (l - t) t = t := by rw [show l - t = 0 by omega, sSkip]
      have e8 : sLook (μ 2) l t = -1 := by unfold sLook; rw [if_neg (by omega)]
      rw [e9, e8]
      refine AW.aload_n (n := 39) dX7_peek_38 rfl rfl ?_
      refine AW.gi (n := 42) dX7_peek_39 fl_X7_25 s_1 rfl rfl ?_
      refine AW.iconst (n := 43) (v := 0) dX7_peek_42 rfl rfl ?_
      refine AW.aload_n (n := 44) dX7_peek_43 rfl rfl ?_
      refine AW.gi (n := 47) dX7_peek_44 fl_X7_15 s_1 rfl rfl ?_
      refine AW.iconst (n := 48) (v := 1) dX7_peek_47 rfl rfl ?_
      refine AW.isub (n := 49) dX7_peek_48 rfl ?_
      refine AW.es3i (Mc := mX9_within) (n := 52) dX7_peek_49 lk_X7_105 k_mX9_within (c_X9_within) (Nat.le_of_ble_eq_true rfl) (by decide) (Nat.zero_le _) (Nat.zero_le _) rfl ?_
      refine AW.bif_eq (n := 55) (t := 67) dX7_peek_52 rfl rfl (fun h52 => ?_) (fun h52 => ?_)
      · refine AW.iconst (n := 68) (v := -1) dX7_peek_67 rfl rfl ?_
        refine AW.iret dX7_peek_68 rfl rfl (Nat.zero_le _) (Nat.zero_le _) ?_
        exact ⟨rfl, rfl⟩
      · exact absurd h52 (by rw [ea, el, win_at hl9 hc]; simp; omega)
    · have ht : t < l := nle_lit (b := l) (x := nI t) rfl (by omega) (by omega) h8
      have hs : l - t = (l - (t + 1)) + 1 := by omega
      refine AW.aload_n (n := 12) dX7_peek_11 rfl rfl ?_
      refine AW.gr (n := 15) dX7_peek_12 fl_X7_9 s_1 rfl rfl ?_
      refine AW.aload_n (n := 16) dX7_peek_15 rfl rfl ?_
      refine AW.gi (n := 19) dX7_peek_16 fl_X7_25 s_1 rfl rfl ?_
      refine AW.ia (n := 20) t dX7_peek_19 s_2 ea (by omega) (by decide) rfl ?_
      refine AW.bipush (n := 22) (v := 32) dX7_peek_20 rfl rfl ?_
      rw [e2]
      refine AW.icmp_ne (n := 25) (t := 38) dX7_peek_22 rfl rfl (fun h22 => ?_) (fun h22 => ?_)
      · have e9 : sSkip (μ 2) (l - t) t = t := by rw [hs, sSkip, if_neg h22]
        have e8 : sLook (μ 2) l t = μ 2 t := by unfold sLook; rw [if_pos ht]
        rw [e9, e8]
        refine AW.aload_n (n := 39) dX7_peek_38 rfl rfl ?_
        refine AW.gi (n := 42) dX7_peek_39 fl_X7_25 s_1 rfl rfl ?_
        refine AW.iconst (n := 43) (v := 0) dX7_peek_42 rfl rfl ?_
        refine AW.aload_n (n := 44) dX7_peek_43 rfl rfl ?_
        refine AW.gi (n := 47) dX7_peek_44 fl_X7_15 s_1 rfl rfl ?_
        refine AW.iconst (n := 48) (v := 1) dX7_peek_47 rfl rfl ?_
        refine AW.isub (n := 49) dX7_peek_48 rfl ?_
        refine AW.es3i (Mc := mX9_within) (n := 52) dX7_peek_49 lk_X7_105 k_mX9_within (c_X9_within) (Nat.le_of_ble_eq_true rfl) (by decide) (Nat.zero_le _) (Nat.zero_le _) rfl ?_
        refine AW.bif_eq (n := 55) (t := 67) dX7_peek_52 rfl rfl (fun h52 => ?_) (fun h52 => ?_)
        · exact absurd h52 (by rw [ea, el, win_at hl9 hc]; simp; omega)
        · refine AW.aload_n (n := 56) dX7_peek_55 rfl rfl ?_
          refine AW.gr (n := 59) dX7_peek_56 fl_X7_9 s_1 rfl rfl ?_
          refine AW.aload_n (n := 60) dX7_peek_59 rfl rfl ?_
          refine AW.gi (n := 63) dX7_peek_60 fl_X7_25 s_1 rfl rfl ?_
          refine AW.ia (n := 64) t dX7_peek_63 s_2 ea (by omega) (by decide) rfl ?_
          refine AW.goto (t := 68) dX7_peek_64 rfl ?_
          refine AW.iret dX7_peek_68 rfl rfl (Nat.zero_le _) (Nat.zero_le _) ?_
          exact ⟨by rw [e2], rfl⟩
      · refine AW.aload_n (n := 26) dX7_peek_25 rfl rfl ?_
        refine AW.dup (n := 27) dX7_peek_26 rfl rfl ?_
        refine AW.gi (n := 30) dX7_peek_27 fl_X7_25 s_1 rfl rfl ?_
        refine AW.iconst (n := 31) (v := 1) dX7_peek_30 rfl rfl ?_
        refine AW.iadd (n := 32) dX7_peek_31 rfl ?_
        refine AW.pi (n := 35) dX7_peek_32 fp_X7_25 s_1 rfl ⟨rfl, rfl⟩ rfl ?_
        refine AW.goto (t := 0) dX7_peek_35 rfl ?_
        rw [ea]
        have e9 : sSkip (μ 2) (l - t) t = sSkip (μ 2) (l - (t + 1)) (t + 1) := by rw [hs, sSkip, if_pos h22]
        rw [e9]
        refine AW.eqS (by rw [mu_mu, nI_1]) (ih (t + 1) (by omega) (by omega))
set_option maxHeartbeats 4000000 in
set_option maxRecDepth 100000 in
theorem c_X7_peek {μ : Me} {e : Nat × (Nat → aC)} {B : Nat} (ho : tOk B μ) (hB : B ≤ 100000) : AC 1 0 0 mX7_peek [.ref 1] (wS μ e) (a_eq (some (.int ((sPeek μ).1))) (wS ((sPeek μ).2) e)) := by
  refine AC.of (L := [some (.ref 1)]) (j := 0) (by decide) rfl (Nat.le_of_ble_eq_true rfl) ?_
  obtain ⟨l, t, h1, h2, h3, h4⟩ := ho
  obtain ⟨e1, e2⟩ := tOk.r h1 h2 h3 h4 hB
  have h := l_X7_peek (e := e) h1 h2 (l - t + 1) t (by omega) (by omega)
  rw [mu_self' h3] at h
  unfold sPeek sPos
  rw [e1, e2]
  exact h
