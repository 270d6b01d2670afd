def mDiceV (x : Int32) : Int32 := (x.toInt64 * 1103515245 + 12345 - (x.toInt64 * 1103515245 + 12345) / 2147483648 * 2147483648).toInt32
def mDice (ν : Me) : Me := mu ν 137 17 (mDiceV (ν 137 17))
def mDraw (ν : Me) (n : Int32) : Int32 := mDiceV (ν 137 17) / 65536 - mDiceV (ν 137 17) / 65536 / n * n
theorem diceV_n {z : Nat} (hz : z < 2147483648) : mDiceV (nI z) = nI ((z * 1103515245 + 12345) % 2147483648) := by
  unfold mDiceV
  rw [nI_l hz]
  have e : lN z * 1103515245 + 12345 = lN (z * 1103515245 + 12345) := by rw [← lN_add, ← lN_mul]; rfl
  rw [e]
  have e2 := pk_lRem (a := z * 1103515245 + 12345) (b := 2147483648) (by omega) (by omega) (by omega)
  have e3 : (2147483648 : Int64) = lN 2147483648 := rfl
  rw [e3, e2, lN_i]
theorem diceV_ok {x : Int32} {z : Nat} (h : x = nI z) (hz : z < 2147483648) : ∃ q : Nat, mDiceV x = nI q ∧ q < 2147483648 := by
  subst h
  exact ⟨_, diceV_n hz, Nat.mod_lt _ (by decide)⟩
theorem draw_n {ν : Me} {z n : Nat} (h : ν 137 17 = nI z) (hz : z < 2147483648) (h0 : 0 < n) (hn : n < 2147483648) : ∃ q : Nat, q < n ∧ mDraw ν (nI n) = nI q := by
  obtain ⟨q, e, hq⟩ := diceV_ok h hz
  refine ⟨q / 65536 % n, Nat.mod_lt _ h0, ?_⟩
  unfold mDraw
  rw [e]
  have e1 : (nI q : Int32) / 65536 = nI (q / 65536) := pk_div (d := 65536) hq (by decide) (by decide)
  rw [e1]
  exact pk_rem (by omega) h0 hn
def uOf (ν : Me) : Nat := (ν 136 22).toNatClampNeg
def mI (ν : Me) (n d : Nat) : Prop := mG ν n d ∧ (∃ u : Nat, ν 136 22 = nI u ∧ u ≤ 30) ∧ (∃ z : Nat, ν 137 17 = nI z ∧ z < 2147483648)
theorem mI.u {ν : Me} {n d : Nat} (h : mI ν n d) : ν 136 22 = nI (uOf ν) ∧ uOf ν ≤ 30 := by
  obtain ⟨-, ⟨u, e, hu⟩, -⟩ := h
  unfold uOf
  rw [e, cl_nI (by omega)]
  exact ⟨rfl, hu⟩
theorem mI.rem {ν : Me} {n d u : Nat} (h : mI ν n d) (hu : u ≤ 30) : mI (mRem ν u) n d := by
  refine ⟨h.1.rem, ?_, ?_⟩
  · unfold mRem
    split
    · exact ⟨30, mu_same _ _ _ _, by omega⟩
    · exact ⟨u + 1, mu_same _ _ _ _, by omega⟩
  · rw [rem_lo (by omega)]; exact h.2.2
theorem mI.dice {ν : Me} {n d : Nat} (h : mI ν n d) : mI (mDice ν) n d := by
  obtain ⟨h1, h2, z, hz, hz9⟩ := h
  refine ⟨h1.mu (Or.inl rfl), ?_, ?_⟩
  · unfold mDice; rw [mu_ne (by decide)]; exact h2
  · unfold mDice; rw [mu_same]; exact diceV_ok hz hz9
theorem mI.mu7 {ν : Me} {n d j : Nat} {x : Int32} (h : mI ν n d) (hj : j < 17) : mI (mu ν 137 j x) n d := by
  refine ⟨h.1.mu (Or.inl rfl), ?_, ?_⟩
  · rw [mu_ne (by decide)]; exact h.2.1
  · rw [mu_nj (by omega)]; exact h.2.2
theorem mI.fr {ν ν' : Me} {n d : Nat} (h : mI ν n d) (f : mFr 0 ν ν') : mI ν' n d := by
  refine ⟨h.1.fr f, ?_, ?_⟩
  · rw [f.2.1 22 (by decide) (by decide)]; exact h.2.1
  · rw [f.2.2 17 (by omega)]; exact h.2.2
def mDriftS (way : Int32) (ν : Me) : Me :=
  let m1 := mRem ν (uOf ν)
  let s := (mDraw m1 (m1 136 8)).toNatClampNeg
  let m2 := mDice m1
  let m3 := mu m2 137 s (if m2 137 s = 2 then 1 else m2 137 s)
  (mRoundIn (mDice m3) 0 way (mDraw m3 4)).2
def mDriftL (way : Int32) : Nat → Me → Me
  | 0, ν => ν
  | k + 1, ν => mDriftL way k (mDriftS way ν)
def qDrift (ν : Me) (n : Nat) (k : Int32) : Int32 × Me :=
  if sWithin k 1 20 then (if ν 136 8 = 0 then (-1000000003, ν) else if ν 137 14 ≤ 9000 then (mDriftL (sRise n) k.toNatClampNeg ν 137 15, mDriftL (sRise n) k.toNatClampNeg ν) else (-1000000004, ν)) else (-1000000002, ν)
theorem rise_way : ∀ n : Nat, 0 < n → n ≤ 7 → sIsWay (nI n) (sRise n) = true := by
  intro n h0 h7
  rcases (show n = 1 ∨ n = 2 ∨ n = 3 ∨ n = 4 ∨ n = 5 ∨ n = 6 ∨ n = 7 by omega) with rfl | rfl | rfl | rfl | rfl | rfl | rfl <;> decide +kernel
set_option maxHeartbeats 4000000 in
set_option maxRecDepth 100000 in
theorem c_X10_draw {μ : Me} {e : Nat × (Nat → aC)} {x : Int32} (hx : ¬ x = 0) : AC 0 0 0 mX10_draw [.ref 136, .int x] (wS μ e) (a_eq (some (.int (mDraw μ x))) (wS (mDice μ) e)) := by
  refine AC.of (L := [some (.ref 136), some (.int x)]) (j := 0) (by decide) rfl (Nat.le_of_ble_eq_true rfl) ?_
  refine AW.aload_n (n := 1) dX10_draw_0 rfl rfl ?_
  refine AW.gr (n := 4) dX10_draw_1 fl_X10_7 s_136 rfl rfl ?_
  refine AW.bipush (n := 6) (v := 17) dX10_draw_4 rfl rfl ?_
  refine AW.aload_n (n := 7) dX10_draw_6 rfl rfl ?_
  refine AW.gr (n := 10) dX10_draw_7 fl_X10_7 s_136 rfl rfl ?_
  refine AW.bipush (n := 12) (v := 17) dX10_draw_10 rfl rfl ?_
  refine AW.ia (n := 13) 17 dX10_draw_12 s_137 rfl (by omega) (by decide) rfl ?_
  refine AW.i2l (n := 14) dX10_draw_13 rfl ?_
  refine AW.ldc2 (n := 17) dX10_draw_14 kl_X10_210 rfl ?_
  refine AW.lmul (n := 18) dX10_draw_17 rfl ?_
  refine AW.ldc2 (n := 21) dX10_draw_18 kl_X10_212 rfl ?_
  refine AW.ladd (n := 22) dX10_draw_21 rfl ?_
  refine AW.ldc2 (n := 25) dX10_draw_22 kl_X10_214 rfl ?_
  refine AW.lrem (n := 26) dX10_draw_25 (by decide) rfl ?_
  refine AW.l2i (n := 27) dX10_draw_26 rfl ?_
  refine AW.is (n := 28) 17 dX10_draw_27 s_137 rfl (by omega) (by decide) rfl ?_
  refine AW.aload_n (n := 29) dX10_draw_28 rfl rfl ?_
  refine AW.gr (n := 32) dX10_draw_29 fl_X10_7 s_136 rfl rfl ?_
  refine AW.bipush (n := 34) (v := 17) dX10_draw_32 rfl rfl ?_
  refine AW.ia (n := 35) 17 dX10_draw_34 s_137 rfl (by omega) (by decide) rfl ?_
  refine AW.ldc (n := 37) dX10_draw_35 kc_X10_216 rfl ?_
  refine AW.idiv (n := 38) dX10_draw_37 (by decide) rfl ?_
  refine AW.iload_n (n := 39) dX10_draw_38 rfl rfl ?_
  refine AW.irem (n := 40) dX10_draw_39 hx rfl ?_
  refine AW.iret dX10_draw_40 rfl rfl (Nat.zero_le _) (Nat.zero_le _) ?_
  exact ⟨by rw [mu_same]; rfl, rfl⟩
set_option maxHeartbeats 4000000 in
set_option maxRecDepth 100000 in
theorem l_X10_drift {e : Nat × (Nat → aC)} {n d k : Nat} {way : Int32} (hk : k ≤ 20) (hn0 : 0 < n) (hw : mWok way n) : ∀ (m i : Nat) (μ : Me) (L4 L5 : Option Value), k = i + m → mI μ n d → AW none 4 0 0 mX10_drift 0 0 70 [some (.ref 136), some (.int (nI k)), some (.int way), some (.int (nI i)), L4, L5] [] (wS μ e) (a_eq (some (.int (mDriftL way m μ 137 15))) (wS (mDriftL way m μ) e)) := by
  intro m
  induction m with
  | zero =>
    intro i μ L4 L5 hm hI
    refine AW.iload_n (n := 71) dX10_drift_70 rfl rfl ?_
    refine AW.iload_n (n := 72) dX10_drift_71 rfl rfl ?_
    refine AW.icmp_ge (n := 75) (t := 137) dX10_drift_72 rfl rfl (fun h72 => ?_) (fun h72 => ?_)
    · refine AW.aload_n (n := 138) dX10_drift_137 rfl rfl ?_
      refine AW.gr (n := 141) dX10_drift_138 fl_X10_7 s_136 rfl rfl ?_
      refine AW.bipush (n := 143) (v := 15) dX10_drift_141 rfl rfl ?_
      refine AW.ia (n := 144) 15 dX10_drift_143 s_137 rfl (by omega) (by decide) rfl ?_
      refine AW.iret dX10_drift_144 rfl rfl (Nat.zero_le _) (Nat.zero_le _) ?_
      exact ⟨rfl, rfl⟩
    · exact absurd (nI_le (a := k) (b := i) (by omega) (by omega)) h72
  | succ m ih =>
    intro i μ L4 L5 hm hI
    have hu := hI.u
    have h7 := hI.1.2.1
    have hI1 := hI.rem hu.2
    have hI2 := hI1.dice
    have hn1 : mRem μ (uOf μ) 136 8 = nI n := hI1.1.1
    obtain ⟨z, hz, hz9⟩ := hI1.2.2
    obtain ⟨j, hj, ej⟩ := draw_n (n := n) hz hz9 hn0 (by omega)
    have hI3 : ∀ x, mI (mu (mDice (mRem μ (uOf μ))) 137 j x) n d := fun x => hI2.mu7 (by omega)
    have hd4 : ∀ x, sWithin (mDraw (mu (mDice (mRem μ (uOf μ))) 137 j x) 4) 0 3 = true := by
      intro x
      obtain ⟨z', hz', hz9'⟩ := (hI3 x).2.2
      obtain ⟨q, hq, eq⟩ := draw_n (n := 4) hz' hz9' (by omega) (by omega)
      rw [show (4 : Int32) = nI 4 from rfl, eq]
      exact win_nI (a := 0) (b := 3) (by omega) (by omega) (by omega)
    refine AW.iload_n (n := 71) dX10_drift_70 rfl rfl ?_
    refine AW.iload_n (n := 72) dX10_drift_71 rfl rfl ?_
    refine AW.icmp_ge (n := 75) (t := 137) dX10_drift_72 rfl rfl (fun h72 => ?_) (fun h72 => ?_)
    · exact absurd ((nI_leI (a := k) (b := i) (by omega) (by omega)).mp h72) (by omega)
    · refine AW.aload_n (n := 76) dX10_drift_75 rfl rfl ?_
      refine AW.ev0v (Mc := mX10_remember) (n := 79) dX10_drift_76 lk_X10_206 k_mX10_remember s_136 rfl rfl (c_X10_remember hu.1 hu.2) (Nat.le_of_ble_eq_true rfl) (by decide) (Nat.zero_le _) (Nat.zero_le _) rfl ?_
      refine AW.aload_n (n := 80) dX10_drift_79 rfl rfl ?_
      refine AW.aload_n (n := 81) dX10_drift_80 rfl rfl ?_
      refine AW.gi (n := 84) dX10_drift_81 fl_X10_131 s_136 rfl rfl ?_
      rw [hn1]
      refine AW.ev1i (Mc := mX10_draw) (n := 87) dX10_drift_84 lk_X10_219 k_mX10_draw s_136 rfl rfl (c_X10_draw (nI_ne0 hn0 (by omega))) (Nat.le_of_ble_eq_true rfl) (by decide) (Nat.zero_le _) (Nat.zero_le _) rfl ?_
      rw [ej]
      refine AW.ist4 (n := 89) dX10_drift_87 (Nat.le_of_ble_eq_true rfl) rfl rfl ?_
      refine AW.aload_n (n := 90) dX10_drift_89 rfl rfl ?_
      refine AW.gr (n := 93) dX10_drift_90 fl_X10_7 s_136 rfl rfl ?_
      refine AW.iload (n := 95) dX10_drift_93 rfl rfl ?_
      refine AW.aload_n (n := 96) dX10_drift_95 rfl rfl ?_
      refine AW.gr (n := 99) dX10_drift_96 fl_X10_7 s_136 rfl rfl ?_
      refine AW.iload (n := 101) dX10_drift_99 rfl rfl ?_
      refine AW.ia (n := 102) j dX10_drift_101 s_137 rfl (by omega) (by decide) rfl ?_
      refine AW.iconst (n := 103) (v := 2) dX10_drift_102 rfl rfl ?_
      refine AW.icmp_ne (n := 106) (t := 110) dX10_drift_103 rfl rfl (fun h103 => ?_) (fun h103 => ?_)
      · refine AW.aload_n (n := 111) dX10_drift_110 rfl rfl ?_
        refine AW.gr (n := 114) dX10_drift_111 fl_X10_7 s_136 rfl rfl ?_
        refine AW.iload (n := 116) dX10_drift_114 rfl rfl ?_
        refine AW.ia (n := 117) j dX10_drift_116 s_137 rfl (by omega) (by decide) rfl ?_
        refine AW.is (n := 118) j dX10_drift_117 s_137 rfl (by omega) (by decide) rfl ?_
        refine AW.aload_n (n := 119) dX10_drift_118 rfl rfl ?_
        refine AW.iconst (n := 120) (v := 0) dX10_drift_119 rfl rfl ?_
        refine AW.iload_n (n := 121) dX10_drift_120 rfl rfl ?_
        refine AW.aload_n (n := 122) dX10_drift_121 rfl rfl ?_
        refine AW.iconst (n := 123) (v := 4) dX10_drift_122 rfl rfl ?_
        refine AW.ev1i (Mc := mX10_draw) (n := 126) dX10_drift_123 lk_X10_219 k_mX10_draw s_136 rfl rfl (c_X10_draw (by decide)) (Nat.le_of_ble_eq_true rfl) (by decide) (Nat.zero_le _) (Nat.zero_le _) rfl ?_
        refine AW.ev3i (Mc := mX10_roundIn) (n := 129) dX10_drift_126 lk_X10_196 k_mX10_roundIn s_136 rfl rfl (c_X10_roundIn (b := 0) (by omega) (hd4 _) hw (hI3 _).dice.1) (Nat.le_of_ble_eq_true rfl) (by decide) (Nat.zero_le _) (Nat.zero_le _) rfl ?_
        refine AW.ist5 (n := 131) dX10_drift_129 (Nat.le_of_ble_eq_true rfl) rfl rfl ?_
        refine AW.inc3 (n := 134) (1) dX10_drift_131 rfl (Nat.le_of_ble_eq_true rfl) rfl rfl ?_
        refine AW.goto (t := 70) dX10_drift_134 rfl ?_
        have e9 : mDriftS way μ = (mRoundIn (mDice (mu (mDice (mRem μ (uOf μ))) 137 j (mDice (mRem μ (uOf μ)) 137 j))) 0 way (mDraw (mu (mDice (mRem μ (uOf μ))) 137 j (mDice (mRem μ (uOf μ)) 137 j)) 4)).2 := by
          unfold mDriftS
          dsimp only
          rw [hn1, ej, cl_nI (by omega), if_neg h103]
        rw [nI_1, mDriftL, e9]
        exact ih (i + 1) _ _ _ (by omega) (((hI3 _).dice).fr (mRI_fr hw h7))
      · refine AW.iconst (n := 107) (v := 1) dX10_drift_106 rfl rfl ?_
        refine AW.goto (t := 117) dX10_drift_107 rfl ?_
        refine AW.is (n := 118) j dX10_drift_117 s_137 rfl (by omega) (by decide) rfl ?_
        refine AW.aload_n (n := 119) dX10_drift_118 rfl rfl ?_
        refine AW.iconst (n := 120) (v := 0) dX10_drift_119 rfl rfl ?_
        refine AW.iload_n (n := 121) dX10_drift_120 rfl rfl ?_
        refine AW.aload_n (n := 122) dX10_drift_121 rfl rfl ?_
        refine AW.iconst (n := 123) (v := 4) dX10_drift_122 rfl rfl ?_
        refine AW.ev1i (Mc := mX10_draw) (n := 126) dX10_drift_123 lk_X10_219 k_mX10_draw s_136 rfl rfl (c_X10_draw (by decide)) (Nat.le_of_ble_eq_true rfl) (by decide) (Nat.zero_le _) (Nat.zero_le _) rfl ?_
        refine AW.ev3i (Mc := mX10_roundIn) (n := 129) dX10_drift_126 lk_X10_196 k_mX10_roundIn s_136 rfl rfl (c_X10_roundIn (b := 0) (by omega) (hd4 _) hw (hI3 _).dice.1) (Nat.le_of_ble_eq_true rfl) (by decide) (Nat.zero_le _) (Nat.zero_le _) rfl ?_
        refine AW.ist5 (n := 131) dX10_drift_129 (Nat.le_of_ble_eq_true rfl) rfl rfl ?_
        refine AW.inc3 (n := 134) (1) dX10_drift_131 rfl (Nat.le_of_ble_eq_true rfl) rfl rfl ?_
        refine AW.goto (t := 70) dX10_drift_134 rfl ?_
        have e9 : mDriftS way μ = (mRoundIn (mDice (mu (mDice (mRem μ (uOf μ))) 137 j (1))) 0 way (mDraw (mu (mDice (mRem μ (uOf μ))) 137 j (1)) 4)).2 := by
          unfold mDriftS
          dsimp only
          rw [hn1, ej, cl_nI (by omega), if_pos h103]
        rw [nI_1, mDriftL, e9]
        exact ih (i + 1) _ _ _ (by omega) (((hI3 _).dice).fr (mRI_fr hw h7))
set_option maxHeartbeats 4000000 in
set_option maxRecDepth 100000 in
set_option maxHeartbeats 4000000 in
set_option maxRecDepth 100000 in
theorem l_X10_dr45 {μ : Me} {e : Nat × (Nat → aC)} {n : Nat} {k : Int32} {Q : Option Value → aS → Prop} (hn : μ 136 8 = nI n) (h7 : n ≤ 7) (hk : ∀ L3 : Option Value, AW none 4 0 0 mX10_drift 0 0 68 [some (.ref 136), some (.int k), some (.int (sRise n)), L3, none, none] [] (wS μ e) Q) : ∀ (m : Nat) (i : Nat), n - i < m → i ≤ n → AW none 4 0 0 mX10_drift 0 0 45 [some (.ref 136), some (.int k), some (.int (sRise i)), some (.int (nI i)), none, none] [] (wS μ e) Q := by
  intro m
  induction m with
  | zero => intro i hm; exact absurd hm (Nat.not_lt_zero _)
  | succ m ih =>
    intro i hm hc
    refine AW.iload_n (n := 46) dX10_drift_45 rfl rfl ?_
    refine AW.aload_n (n := 47) dX10_drift_46 rfl rfl ?_
    refine AW.gi (n := 50) dX10_drift_47 fl_X10_131 s_136 rfl rfl ?_
    refine AW.icmp_ge (n := 53) (t := 68) dX10_drift_50 rfl rfl (fun h50 => ?_) (fun h50 => ?_)
    · have hi : i = n := by have := le_lit (b := n) (x := nI i) rfl (by omega) (by omega) (by rw [← hn]; exact h50); omega
      subst hi
      exact hk _
    · have hi : i < n := nle_lit (b := n) (x := nI i) rfl (by omega) (by omega) (by rw [← hn]; exact h50)
      refine AW.bipush (n := 55) (v := 10) dX10_drift_53 rfl rfl ?_
      refine AW.iload_n (n := 56) dX10_drift_55 rfl rfl ?_
      refine AW.imul (n := 57) dX10_drift_56 rfl ?_
      refine AW.iload_n (n := 58) dX10_drift_57 rfl rfl ?_
      refine AW.iadd (n := 59) dX10_drift_58 rfl ?_
      refine AW.iconst (n := 60) (v := 1) dX10_drift_59 rfl rfl ?_
      refine AW.iadd (n := 61) dX10_drift_60 rfl ?_
      refine AW.ist2 (n := 62) dX10_drift_61 (Nat.le_of_ble_eq_true rfl) rfl rfl ?_
      refine AW.inc3 (n := 65) (1) dX10_drift_62 rfl (Nat.le_of_ble_eq_true rfl) rfl rfl ?_
      refine AW.goto (t := 45) dX10_drift_65 rfl ?_
      rw [nI_1]
      refine AW.eqL ?_ (ih (i + 1) (by omega) (by omega))
      rw [sRise, Int32.mul_comm]
set_option maxHeartbeats 4000000 in
set_option maxRecDepth 100000 in
theorem c_X10_drift {μ : Me} {e : Nat × (Nat → aC)} {n d : Nat} {k : Int32} (hI : mI μ n d) : AC 4 0 0 mX10_drift [.ref 136, .int k] (wS μ e) (a_eq (some (.int ((qDrift μ n k).1))) (wS ((qDrift μ n k).2) e)) := by
  refine AC.of (L := [some (.ref 136), some (.int k), none, none, none, none]) (j := 4) (by decide) rfl (Nat.le_of_ble_eq_true rfl) ?_
  refine AW.iload_n (n := 1) dX10_drift_0 rfl rfl ?_
  refine AW.i2l (n := 2) dX10_drift_1 rfl ?_
  refine AW.lconst (n := 3) (v := 1) dX10_drift_2 rfl rfl ?_
  refine AW.ldc2 (n := 6) dX10_drift_3 kl_X10_217 rfl ?_
  refine AW.es3i (Mc := mX10_in) (n := 9) dX10_drift_6 lk_X10_68 k_mX10_in (c_X10_in k 1 20 rfl (by decide) (by decide)) (Nat.le_of_ble_eq_true rfl) (by decide) (Nat.zero_le _) (Nat.zero_le _) rfl ?_
  refine AW.bif_ne (n := 12) (t := 15) dX10_drift_9 rfl rfl (fun h9 => ?_) (fun h9 => ?_)
  · refine AW.aload_n (n := 16) dX10_drift_15 rfl rfl ?_
    refine AW.gi (n := 19) dX10_drift_16 fl_X10_131 s_136 rfl rfl ?_
    refine AW.if_ne (n := 22) (t := 25) dX10_drift_19 rfl rfl (fun h19 => ?_) (fun h19 => ?_)
    · refine AW.aload_n (n := 26) dX10_drift_25 rfl rfl ?_
      refine AW.gr (n := 29) dX10_drift_26 fl_X10_7 s_136 rfl rfl ?_
      refine AW.bipush (n := 31) (v := 14) dX10_drift_29 rfl rfl ?_
      refine AW.ia (n := 32) 14 dX10_drift_31 s_137 rfl (by omega) (by decide) rfl ?_
      refine AW.sipush (n := 35) (v := 9000) dX10_drift_32 rfl rfl ?_
      refine AW.icmp_le (n := 38) (t := 41) dX10_drift_35 rfl rfl (fun h35 => ?_) (fun h35 => ?_)
      · refine AW.iconst (n := 42) (v := 0) dX10_drift_41 rfl rfl ?_
        refine AW.ist2 (n := 43) dX10_drift_42 (Nat.le_of_ble_eq_true rfl) rfl rfl ?_
        refine AW.iconst (n := 44) (v := 0) dX10_drift_43 rfl rfl ?_
        refine AW.ist3 (n := 45) dX10_drift_44 (Nat.le_of_ble_eq_true rfl) rfl rfl ?_
        have hn0 : 0 < n := by
          rcases Nat.eq_zero_or_pos n with h0 | h0
          · subst h0; exact absurd hI.1.1 h19
          · exact h0
        obtain ⟨j, hj1, hj2, rfl⟩ := win_j (a := 1) (b := 20) (by omega) h9 (by omega)
        have hjc := cl_nI (show j < 2147483648 by omega)
        refine l_X10_dr45 hI.1.1 hI.1.2.1 ?_ (n + 1) 0 (by omega) (by omega)
        intro L3
        refine AW.iconst (n := 69) (v := 0) dX10_drift_68 rfl rfl ?_
        refine AW.ist3 (n := 70) dX10_drift_69 (Nat.le_of_ble_eq_true rfl) rfl rfl ?_
        have h := l_X10_drift (e := e) (way := sRise n) hj2 hn0 (mWok.of rfl hI.1.2.1 (rise_way n hn0 hI.1.2.1)) j 0 μ none none (by omega) hI
        simp only [qDrift, h9, h19, h35, if_true, if_false, hjc]
        exact h
      · refine AW.ldc (n := 40) dX10_drift_38 kc_X10_76 rfl ?_
        refine AW.iret dX10_drift_40 rfl rfl (Nat.zero_le _) (Nat.zero_le _) ?_
        exact ⟨by simp [qDrift, h9, h19, h35], by simp [qDrift, h9, h19, h35]⟩
    · refine AW.ldc (n := 24) dX10_drift_22 kc_X10_209 rfl ?_
      refine AW.iret dX10_drift_24 rfl rfl (Nat.zero_le _) (Nat.zero_le _) ?_
      exact ⟨by simp [qDrift, h9, h19], by simp [qDrift, h9, h19]⟩
  · refine AW.ldc (n := 14) dX10_drift_12 kc_X10_72 rfl ?_
    refine AW.iret dX10_drift_14 rfl rfl (Nat.zero_le _) (Nat.zero_le _) ?_
    exact ⟨by simp [qDrift, h9], by simp [qDrift, h9]⟩
set_option maxHeartbeats 4000000 in
set_option maxRecDepth 100000 in
theorem l_X10_bath {μ : Me} {e : Nat × (Nat → aC)} {s wa wb a b : Int32} {mm : Nat} (hm1 : 1 ≤ mm) (hm2 : mm ≤ 99) : ∀ (m t : Nat), 720 = t + m → AW none 6 0 0 mX10_bath 0 0 62 [some (.ref 136), some (.int s), some (.int wa), some (.int wb), some (.int (nI mm)), some (.int a), some (.int b), some (.int (nI t))] [] (wS μ e) (a_eq (some (.int (sBath a b (nI mm) m t))) (wS μ e)) := by
  have e7 : (719 : Int32) - nI mm = nI (719 - mm) := pk_sub (a := 719) (by omega)
  intro m
  induction m with
  | zero =>
    intro t hm
    refine AW.iload (n := 64) dX10_bath_62 rfl rfl ?_
    refine AW.sipush (n := 67) (v := 719) dX10_bath_64 rfl rfl ?_
    refine AW.iload (n := 69) dX10_bath_67 rfl rfl ?_
    refine AW.isub (n := 70) dX10_bath_69 rfl ?_
    refine AW.icmp_gt (n := 73) (t := 134) dX10_bath_70 rfl rfl (fun h70 => ?_) (fun h70 => ?_)
    · refine AW.iconst (n := 135) (v := -1) dX10_bath_134 rfl rfl ?_
      refine AW.iret dX10_bath_135 rfl rfl (Nat.zero_le _) (Nat.zero_le _) ?_
      exact ⟨rfl, rfl⟩
    · exact absurd (by rw [e7]; exact nI_lt (by omega) (by omega)) h70
  | succ m ih =>
    intro t hm
    refine AW.iload (n := 64) dX10_bath_62 rfl rfl ?_
    refine AW.sipush (n := 67) (v := 719) dX10_bath_64 rfl rfl ?_
    refine AW.iload (n := 69) dX10_bath_67 rfl rfl ?_
    refine AW.isub (n := 70) dX10_bath_69 rfl ?_
    refine AW.icmp_gt (n := 73) (t := 134) dX10_bath_70 rfl rfl (fun h70 => ?_) (fun h70 => ?_)
    · refine AW.iconst (n := 135) (v := -1) dX10_bath_134 rfl rfl ?_
      refine AW.iret dX10_bath_135 rfl rfl (Nat.zero_le _) (Nat.zero_le _) ?_
      exact ⟨by rw [sBath, if_pos h70], rfl⟩
    · refine AW.iload (n := 75) dX10_bath_73 rfl rfl ?_
      refine AW.i2l (n := 76) dX10_bath_75 rfl ?_
      refine AW.bipush (n := 78) (v := 60) dX10_bath_76 rfl rfl ?_
      refine AW.iload (n := 80) dX10_bath_78 rfl rfl ?_
      refine AW.imul (n := 81) dX10_bath_80 rfl ?_
      refine AW.i2l (n := 82) dX10_bath_81 rfl ?_
      refine AW.bipush (n := 84) (v := 60) dX10_bath_82 rfl rfl ?_
      refine AW.iload (n := 86) dX10_bath_84 rfl rfl ?_
      refine AW.iload (n := 88) dX10_bath_86 rfl rfl ?_
      refine AW.iadd (n := 89) dX10_bath_88 rfl ?_
      refine AW.imul (n := 90) dX10_bath_89 rfl ?_
      refine AW.iconst (n := 91) (v := 1) dX10_bath_90 rfl rfl ?_
      refine AW.isub (n := 92) dX10_bath_91 rfl ?_
      refine AW.i2l (n := 93) dX10_bath_92 rfl ?_
      refine AW.es3i (Mc := mX10_in) (n := 96) dX10_bath_93 lk_X10_68 k_mX10_in (c_X10_in a (60 * nI t) (60 * (nI t + nI mm) - 1) rfl rfl rfl) (Nat.le_of_ble_eq_true rfl) (by decide) (Nat.zero_le _) (Nat.zero_le _) rfl ?_
      refine AW.bif_ne (n := 99) (t := 128) dX10_bath_96 rfl rfl (fun h96 => ?_) (fun h96 => ?_)
      · refine AW.inc7 (n := 131) (1) dX10_bath_128 rfl (Nat.le_of_ble_eq_true rfl) rfl rfl ?_
        refine AW.goto (t := 62) dX10_bath_131 rfl ?_
        rw [nI_1]
        rw [sBath, if_neg h70, if_pos h96]
        exact ih (t + 1) (by omega)
      · refine AW.iload (n := 101) dX10_bath_99 rfl rfl ?_
        refine AW.i2l (n := 102) dX10_bath_101 rfl ?_
        refine AW.bipush (n := 104) (v := 60) dX10_bath_102 rfl rfl ?_
        refine AW.iload (n := 106) dX10_bath_104 rfl rfl ?_
        refine AW.imul (n := 107) dX10_bath_106 rfl ?_
        refine AW.i2l (n := 108) dX10_bath_107 rfl ?_
        refine AW.bipush (n := 110) (v := 60) dX10_bath_108 rfl rfl ?_
        refine AW.iload (n := 112) dX10_bath_110 rfl rfl ?_
        refine AW.iload (n := 114) dX10_bath_112 rfl rfl ?_
        refine AW.iadd (n := 115) dX10_bath_114 rfl ?_
        refine AW.imul (n := 116) dX10_bath_115 rfl ?_
        refine AW.iconst (n := 117) (v := 1) dX10_bath_116 rfl rfl ?_
        refine AW.isub (n := 118) dX10_bath_117 rfl ?_
        refine AW.i2l (n := 119) dX10_bath_118 rfl ?_
        refine AW.es3i (Mc := mX10_in) (n := 122) dX10_bath_119 lk_X10_68 k_mX10_in (c_X10_in b (60 * nI t) (60 * (nI t + nI mm) - 1) rfl rfl rfl) (Nat.le_of_ble_eq_true rfl) (by decide) (Nat.zero_le _) (Nat.zero_le _) rfl ?_
        refine AW.bif_ne (n := 125) (t := 128) dX10_bath_122 rfl rfl (fun h122 => ?_) (fun h122 => ?_)
        · refine AW.inc7 (n := 131) (1) dX10_bath_128 rfl (Nat.le_of_ble_eq_true rfl) rfl rfl ?_
          refine AW.goto (t := 62) dX10_bath_131 rfl ?_
          rw [nI_1]
          rw [sBath, if_neg h70, if_neg (by rw [h96]; decide), if_pos h122]
          exact ih (t + 1) (by omega)
        · refine AW.iload (n := 127) dX10_bath_125 rfl rfl ?_
          refine AW.iret dX10_bath_127 rfl rfl (Nat.zero_le _) (Nat.zero_le _) ?_
          exact ⟨by rw [sBath, if_neg h70, if_neg (by rw [h96]; decide), if_neg (by rw [h122]; decide)], rfl⟩
set_option maxHeartbeats 4000000 in
set_option maxRecDepth 100000 in
theorem c_X10_bath {μ : Me} {e : Nat × (Nat → aC)} {n d : Nat} {s wa wb m : Int32} (hG : mG μ n d) : AC 6 0 0 mX10_bath [.ref 136, .int s, .int wa, .int wb, .int m] (wS μ e) (a_eq (some (.int ((qBath μ s wa wb m).1))) (wS ((qBath μ s wa wb m).2) e)) := by
  refine AC.of (L := [some (.ref 136), some (.int s), some (.int wa), some (.int wb), some (.int m), none, none, none]) (j := 3) (by decide) rfl (Nat.le_of_ble_eq_true rfl) ?_
  refine AW.aload_n (n := 1) dX10_bath_0 rfl rfl ?_
  refine AW.iload_n (n := 2) dX10_bath_1 rfl rfl ?_
  refine AW.ev1i (Mc := mX10_isStop) (n := 5) dX10_bath_2 lk_X10_150 k_mX10_isStop s_136 rfl rfl (c_X10_isStop hG.1 hG.2.1) (Nat.le_of_ble_eq_true rfl) (by decide) (Nat.zero_le _) (Nat.zero_le _) rfl ?_
  refine AW.bif_eq (n := 8) (t := 24) dX10_bath_5 rfl rfl (fun h5 => ?_) (fun h5 => ?_)
  · refine AW.ldc (n := 26) dX10_bath_24 kc_X10_167 rfl ?_
    refine AW.iret dX10_bath_26 rfl rfl (Nat.zero_le _) (Nat.zero_le _) ?_
    exact ⟨by simp [qBath, h5], by simp [qBath, h5]⟩
  · refine AW.aload_n (n := 9) dX10_bath_8 rfl rfl ?_
    refine AW.iload_n (n := 10) dX10_bath_9 rfl rfl ?_
    refine AW.ev1i (Mc := mX10_isWay) (n := 13) dX10_bath_10 lk_X10_200 k_mX10_isWay s_136 rfl rfl (c_X10_isWay hG.1 hG.2.1) (Nat.le_of_ble_eq_true rfl) (by decide) (Nat.zero_le _) (Nat.zero_le _) rfl ?_
    refine AW.bif_eq (n := 16) (t := 24) dX10_bath_13 rfl rfl (fun h13 => ?_) (fun h13 => ?_)
    · refine AW.ldc (n := 26) dX10_bath_24 kc_X10_167 rfl ?_
      refine AW.iret dX10_bath_26 rfl rfl (Nat.zero_le _) (Nat.zero_le _) ?_
      exact ⟨by simp [qBath, h5, h13], by simp [qBath, h5, h13]⟩
    · refine AW.aload_n (n := 17) dX10_bath_16 rfl rfl ?_
      refine AW.iload_n (n := 18) dX10_bath_17 rfl rfl ?_
      refine AW.ev1i (Mc := mX10_isWay) (n := 21) dX10_bath_18 lk_X10_200 k_mX10_isWay s_136 rfl rfl (c_X10_isWay hG.1 hG.2.1) (Nat.le_of_ble_eq_true rfl) (by decide) (Nat.zero_le _) (Nat.zero_le _) rfl ?_
      refine AW.bif_ne (n := 24) (t := 27) dX10_bath_21 rfl rfl (fun h21 => ?_) (fun h21 => ?_)
      · refine AW.iload (n := 29) dX10_bath_27 rfl rfl ?_
        refine AW.i2l (n := 30) dX10_bath_29 rfl ?_
        refine AW.lconst (n := 31) (v := 1) dX10_bath_30 rfl rfl ?_
        refine AW.ldc2 (n := 34) dX10_bath_31 kl_X10_227 rfl ?_
        refine AW.es3i (Mc := mX10_in) (n := 37) dX10_bath_34 lk_X10_68 k_mX10_in (c_X10_in m 1 99 rfl (by decide) (by decide)) (Nat.le_of_ble_eq_true rfl) (by decide) (Nat.zero_le _) (Nat.zero_le _) rfl ?_
        refine AW.bif_ne (n := 40) (t := 43) dX10_bath_37 rfl rfl (fun h37 => ?_) (fun h37 => ?_)
        · obtain ⟨j, hj, rfl⟩ := sHas_j hG.1 hG.2.1 h5
          have h7 := hG.2.1
          have hjc := cl_nI (show j < 2147483648 by omega)
          have hwa := mWok.of hG.1 hG.2.1 h13
          have hwb := mWok.of hG.1 hG.2.1 h21
          refine AW.aload_n (n := 44) dX10_bath_43 rfl rfl ?_
          refine AW.iload_n (n := 45) dX10_bath_44 rfl rfl ?_
          refine AW.iload_n (n := 46) dX10_bath_45 rfl rfl ?_
          refine AW.ev2i (Mc := mX10_comesTo) (n := 49) dX10_bath_46 lk_X10_229 k_mX10_comesTo s_136 rfl rfl (c_X10_comesTo hG hwa hj) (Nat.le_of_ble_eq_true rfl) (by decide) (Nat.zero_le _) (Nat.zero_le _) rfl ?_
          refine AW.ist5 (n := 51) dX10_bath_49 (Nat.le_of_ble_eq_true rfl) rfl rfl ?_
          refine AW.aload_n (n := 52) dX10_bath_51 rfl rfl ?_
          refine AW.iload_n (n := 53) dX10_bath_52 rfl rfl ?_
          refine AW.iload_n (n := 54) dX10_bath_53 rfl rfl ?_
          refine AW.ev2i (Mc := mX10_comesTo) (n := 57) dX10_bath_54 lk_X10_229 k_mX10_comesTo s_136 rfl rfl (c_X10_comesTo (hG.try hwa) hwb hj) (Nat.le_of_ble_eq_true rfl) (by decide) (Nat.zero_le _) (Nat.zero_le _) rfl ?_
          refine AW.ist6 (n := 59) dX10_bath_57 (Nat.le_of_ble_eq_true rfl) rfl rfl ?_
          refine AW.iconst (n := 60) (v := 0) dX10_bath_59 rfl rfl ?_
          refine AW.ist7 (n := 62) dX10_bath_60 (Nat.le_of_ble_eq_true rfl) rfl rfl ?_
          obtain ⟨mm, hm1, hm2, rfl⟩ := win_j (a := 1) (b := 99) (by decide) h37 (by decide)
          have h := l_X10_bath (e := e) (s := nI j) (wa := wa) (wb := wb) (a := (mTry μ wa 0).2 147 j) (b := (mTry (mTry μ wa 0).2 wb 0).2 147 j) (μ := (mTry (mTry μ wa 0).2 wb 0).2) hm1 hm2 720 0 rfl
          simp only [qBath, h5, h13, h21, h37, if_true, hjc]
          exact h
        · refine AW.ldc (n := 42) dX10_bath_40 kc_X10_72 rfl ?_
          refine AW.iret dX10_bath_42 rfl rfl (Nat.zero_le _) (Nat.zero_le _) ?_
          exact ⟨by simp [qBath, h5, h13, h21, h37], by simp [qBath, h5, h13, h21, h37]⟩
      · refine AW.ldc (n := 26) dX10_bath_24 kc_X10_167 rfl ?_
        refine AW.iret dX10_bath_26 rfl rfl (Nat.zero_le _) (Nat.zero_le _) ?_
        exact ⟨by simp [qBath, h5, h13, h21], by simp [qBath, h5, h13, h21]⟩
