theorem win_n {x : Int32} {n : Nat} (h7 : n ≤ 7) (h : sWithin x 0 (nI n - 1) = true) : ∃ j : Nat, j < n ∧ x = nI j := by
  rcases Nat.eq_zero_or_pos n with q | q
  · subst q
    exfalso
    simp only [sWithin, Bool.and_eq_true, Bool.not_eq_true', decide_eq_false_iff_not] at h
    have h1 : (nI 0 - 1 : Int32) < 0 := by decide
    exact h.2 (Int32.lt_of_lt_of_le h1 (Int32.not_lt.mp h.1))
  · rw [show (nI n : Int32) - 1 = nI (n - 1) from pk_sub (a := n) (b := 1) q] at h
    obtain ⟨j, -, h2, h3⟩ := win_j (a := 0) (b := n - 1) (by omega) h (by decide)
    exact ⟨j, by omega, h3⟩
def mClauseB (ν : Me) (word w : Int32) : Me :=
  if word = 118 then mRule ν w else if word = 115 then mStop ν w else if word = 100 then mDins ν w
  else if mOkB (mWant ν (decide (word = 110)) 1 w) then mNei (mWant ν (decide (word = 110)) 1 w) else mWant ν (decide (word = 110)) 1 w
def mClA (ν : Me) : Me := mWant (mInc (mHere ν).2) (decide ((mHere ν).1 = 118) || !decide (mInc (mHere ν).2 139 3 ≤ 0)) 1 ((mHere ν).2 136 15)
def mClause (ν : Me) : Me := if mOkB (mClA ν) then mClauseB (mClA ν) (mHere ν).1 ((mHere ν).2 136 15) else mClA ν
/-- the draft's numbers in the model -/
def eOk (ν : Me) : Prop := (∃ n : Nat, ν 136 9 = nI n ∧ n ≤ 7) ∧ fOk ν
theorem eOk.n {ν : Me} (h : eOk ν) : ν 136 9 = nI (mnOf ν) ∧ mnOf ν ≤ 7 := by
  obtain ⟨⟨n, h1, h2⟩, -⟩ := h
  have e : mnOf ν = n := by unfold mnOf; rw [h1, cl_nI (by omega)]
  rw [e]; exact ⟨h1, h2⟩
theorem eOk.want {ν : Me} {g : Bool} {w : Int32} (kk : Nat) (hk : kk ≤ 4) (h : eOk ν) : eOk (mWant ν g (nI kk) w) := by
  obtain ⟨⟨n, h1, h2⟩, h3⟩ := h
  exact ⟨⟨n, by rw [mWant_j (by decide) (by decide)]; exact h1, h2⟩, h3.want kk hk⟩
theorem eOk.inn {ν : Me} {lo hi : Int32} (h : eOk ν) : eOk (mIn ν lo hi).2 := by
  obtain ⟨⟨n, h1, h2⟩, h3⟩ := h
  exact ⟨⟨n, by rw [mIn_j (by decide) (by decide) (by decide) (by decide)]; exact h1, h2⟩, h3.inn⟩
theorem eOk.of {ν ν' : Me} (h : eOk ν) (e1 : ν' 136 9 = ν 136 9) (e2 : ν' 136 17 = ν 136 17) : eOk ν' := by
  obtain ⟨⟨n, h1, h2⟩, h3⟩ := h
  exact ⟨⟨n, by rw [e1]; exact h1, h2⟩, h3.of e2⟩
set_option maxHeartbeats 4000000 in
set_option maxRecDepth 100000 in
theorem l_X10_nei {μ : Me} {e : Nat × (Nat → aC)} {B j : Nat} (ho : uOk B μ) (hB : 240 ≤ B) (hB9 : B ≤ 70000) (he : eOk μ) (hj : j < 7) : AW none 3 0 0 mX10_takeNeighbour 0 0 50 [some (.ref 136), some (.int (nI j)), none] [] (wS μ e) (a_eq none (wS (mNeiB μ (nI j)) e)) := by
  refine AW.aload_n (n := 51) dX10_takeNeighbour_50 rfl rfl ?_
  refine AW.iconst (n := 52) (v := 0) dX10_takeNeighbour_51 rfl rfl ?_
  refine AW.aload_n (n := 53) dX10_takeNeighbour_52 rfl rfl ?_
  refine AW.gi (n := 56) dX10_takeNeighbour_53 fl_X10_106 s_136 rfl rfl ?_
  refine AW.iconst (n := 57) (v := 1) dX10_takeNeighbour_56 rfl rfl ?_
  refine AW.isub (n := 58) dX10_takeNeighbour_57 rfl ?_
  refine AW.ev2i (Mc := mX10_takeIn) (n := 61) dX10_takeNeighbour_58 lk_X10_102 k_mX10_takeIn s_136 rfl rfl (c_X10_takeIn ho hB (by omega)) (Nat.le_of_ble_eq_true rfl) (by decide) (Nat.zero_le _) (Nat.zero_le _) rfl ?_
  have hon : uOk B (mIn μ 0 (μ 136 9 - 1)).2 := ho.inn hB (by omega)
  have hjc := cl_nI (show j < 2147483648 by omega)
  unfold mNeiB
  generalize mIn μ 0 (μ 136 9 - 1) = r at hon ⊢
  refine AW.ist2 (n := 62) dX10_takeNeighbour_61 (Nat.le_of_ble_eq_true rfl) rfl rfl ?_
  refine AW.aload_n (n := 63) dX10_takeNeighbour_62 rfl rfl ?_
  refine AW.gi (n := 66) dX10_takeNeighbour_63 fl_X10_80 s_136 rfl rfl ?_
  refine AW.if_gt (n := 69) (t := 91) dX10_takeNeighbour_66 rfl rfl (fun h66 => ?_) (fun h66 => ?_)
  · refine AW.ret dX10_takeNeighbour_91 rfl (Nat.zero_le _) (Nat.zero_le _) ?_
    rw [if_neg (fun q => Int32.not_lt.mpr q h66)]
    exact ⟨rfl, rfl⟩
  · rw [if_pos (Int32.not_lt.mp h66)]
    refine AW.aload_n (n := 70) dX10_takeNeighbour_69 rfl rfl ?_
    refine AW.iload_n (n := 71) dX10_takeNeighbour_70 rfl rfl ?_
    refine AW.iload_n (n := 72) dX10_takeNeighbour_71 rfl rfl ?_
    refine AW.icmp_eq (n := 75) (t := 79) dX10_takeNeighbour_72 rfl rfl (fun h72 => ?_) (fun h72 => ?_)
    · refine AW.iconst (n := 80) (v := 0) dX10_takeNeighbour_79 rfl rfl ?_
      refine AW.iconst (n := 81) (v := 4) dX10_takeNeighbour_80 rfl rfl ?_
      refine AW.aload_n (n := 82) dX10_takeNeighbour_81 rfl rfl ?_
      refine AW.gi (n := 85) dX10_takeNeighbour_82 fl_X10_87 s_136 rfl rfl ?_
      refine AW.ev3i (Mc := mX10_want) (n := 88) dX10_takeNeighbour_85 lk_X10_94 k_mX10_want s_136 rfl rfl (c_X10_want (g := false)) (Nat.le_of_ble_eq_true rfl) (by decide) (Nat.zero_le _) (Nat.zero_le _) rfl ?_
      have eg : (!decide (r.1 = nI j)) = false := by rw [decide_eq_true h72]; rfl
      rw [eg]
      refine AW.bif_ne (n := 91) (t := 92) dX10_takeNeighbour_88 rfl rfl (fun h88 => ?_) (fun h88 => ?_)
      · exact Bool.noConfusion (mWant_ok (by decide) h88).1
      · refine AW.ret dX10_takeNeighbour_91 rfl (Nat.zero_le _) (Nat.zero_le _) ?_
        rw [if_neg (by rw [h88]; decide)]
        exact ⟨rfl, rfl⟩
    · refine AW.iconst (n := 76) (v := 1) dX10_takeNeighbour_75 rfl rfl ?_
      refine AW.goto (t := 80) dX10_takeNeighbour_76 rfl ?_
      refine AW.iconst (n := 81) (v := 4) dX10_takeNeighbour_80 rfl rfl ?_
      refine AW.aload_n (n := 82) dX10_takeNeighbour_81 rfl rfl ?_
      refine AW.gi (n := 85) dX10_takeNeighbour_82 fl_X10_87 s_136 rfl rfl ?_
      refine AW.ev3i (Mc := mX10_want) (n := 88) dX10_takeNeighbour_85 lk_X10_94 k_mX10_want s_136 rfl rfl (c_X10_want (g := true)) (Nat.le_of_ble_eq_true rfl) (by decide) (Nat.zero_le _) (Nat.zero_le _) rfl ?_
      have eg : (!decide (r.1 = nI j)) = true := by rw [decide_eq_false h72]; rfl
      rw [eg]
      refine AW.bif_ne (n := 91) (t := 92) dX10_takeNeighbour_88 rfl rfl (fun h88 => ?_) (fun h88 => ?_)
      · refine AW.aload_n (n := 93) dX10_takeNeighbour_92 rfl rfl ?_
        refine AW.gr (n := 96) dX10_takeNeighbour_93 fl_X10_32 s_136 rfl rfl ?_
        refine AW.bipush (n := 98) (v := 7) dX10_takeNeighbour_96 rfl rfl ?_
        refine AW.iload_n (n := 99) dX10_takeNeighbour_98 rfl rfl ?_
        refine AW.iadd (n := 100) dX10_takeNeighbour_99 rfl ?_
        rw [show (7 : Int32) + nI j = nI (7 + j) from nI_add 7 j]
        refine AW.aload_n (n := 101) dX10_takeNeighbour_100 rfl rfl ?_
        refine AW.iconst (n := 102) (v := 1) dX10_takeNeighbour_101 rfl rfl ?_
        refine AW.bipush (n := 104) (v := 9) dX10_takeNeighbour_102 rfl rfl ?_
        refine AW.ev2i (Mc := mX10_takeIn) (n := 107) dX10_takeNeighbour_104 lk_X10_102 k_mX10_takeIn s_136 rfl rfl (c_X10_takeIn hon.want hB (by omega)) (Nat.le_of_ble_eq_true rfl) (by decide) (Nat.zero_le _) (Nat.zero_le _) rfl ?_
        refine AW.is (n := 108) (7 + j) dX10_takeNeighbour_107 s_144 rfl (by omega) (by decide) rfl ?_
        refine AW.aload_n (n := 109) dX10_takeNeighbour_108 rfl rfl ?_
        refine AW.gr (n := 112) dX10_takeNeighbour_109 fl_X10_29 s_136 rfl rfl ?_
        refine AW.bipush (n := 114) (v := 7) dX10_takeNeighbour_112 rfl rfl ?_
        refine AW.iload_n (n := 115) dX10_takeNeighbour_114 rfl rfl ?_
        refine AW.iadd (n := 116) dX10_takeNeighbour_115 rfl ?_
        rw [show (7 : Int32) + nI j = nI (7 + j) from nI_add 7 j]
        refine AW.iload_n (n := 117) dX10_takeNeighbour_116 rfl rfl ?_
        refine AW.is (n := 118) (7 + j) dX10_takeNeighbour_117 s_143 rfl (by omega) (by decide) rfl ?_
        refine AW.ret dX10_takeNeighbour_118 rfl (Nat.zero_le _) (Nat.zero_le _) ?_
        rw [if_pos h88]
        unfold mNeiC
        rw [hjc]
        exact ⟨rfl, rfl⟩
      · refine AW.ret dX10_takeNeighbour_91 rfl (Nat.zero_le _) (Nat.zero_le _) ?_
        rw [if_neg (by rw [h88]; decide)]
        exact ⟨rfl, rfl⟩
set_option maxHeartbeats 4000000 in
set_option maxRecDepth 100000 in
theorem c_X10_takeNeighbour {μ : Me} {e : Nat × (Nat → aC)} {B : Nat} (ho : uOk B μ) (hB : 240 ≤ B) (hB9 : B ≤ 70000) (he : eOk μ) : AC 3 0 0 mX10_takeNeighbour [.ref 136] (wS μ e) (a_eq none (wS (mNei μ) e)) := by
  refine AC.of (L := [some (.ref 136), none, none]) (j := 2) (by decide) rfl (Nat.le_of_ble_eq_true rfl) ?_
  refine AW.aload_n (n := 1) dX10_takeNeighbour_0 rfl rfl ?_
  refine AW.iconst (n := 2) (v := 0) dX10_takeNeighbour_1 rfl rfl ?_
  refine AW.aload_n (n := 3) dX10_takeNeighbour_2 rfl rfl ?_
  refine AW.gi (n := 6) dX10_takeNeighbour_3 fl_X10_106 s_136 rfl rfl ?_
  refine AW.iconst (n := 7) (v := 1) dX10_takeNeighbour_6 rfl rfl ?_
  refine AW.isub (n := 8) dX10_takeNeighbour_7 rfl ?_
  refine AW.ev2i (Mc := mX10_takeIn) (n := 11) dX10_takeNeighbour_8 lk_X10_102 k_mX10_takeIn s_136 rfl rfl (c_X10_takeIn ho hB (by omega)) (Nat.le_of_ble_eq_true rfl) (by decide) (Nat.zero_le _) (Nat.zero_le _) rfl ?_
  have hon : uOk B (mIn μ 0 (μ 136 9 - 1)).2 := ho.inn hB (by omega)
  have hen : eOk (mIn μ 0 (μ 136 9 - 1)).2 := he.inn
  have hz : (mIn μ 0 (μ 136 9 - 1)).2 136 17 ≤ 0 → ∃ j : Nat, j < mnOf μ ∧ (mIn μ 0 (μ 136 9 - 1)).1 = nI j := fun q => win_n he.n.2 (by rw [← he.n.1]; exact mIn_ok he.2 q)
  have h7 := he.n.2
  unfold mNei
  generalize mIn μ 0 (μ 136 9 - 1) = r at hon hen hz ⊢
  refine AW.ist1 (n := 12) dX10_takeNeighbour_11 (Nat.le_of_ble_eq_true rfl) rfl rfl ?_
  refine AW.aload_n (n := 13) dX10_takeNeighbour_12 rfl rfl ?_
  refine AW.gi (n := 16) dX10_takeNeighbour_13 fl_X10_80 s_136 rfl rfl ?_
  refine AW.if_gt (n := 19) (t := 49) dX10_takeNeighbour_16 rfl rfl (fun h16 => ?_) (fun h16 => ?_)
  · refine AW.ret dX10_takeNeighbour_49 rfl (Nat.zero_le _) (Nat.zero_le _) ?_
    rw [if_neg (fun q => Int32.not_lt.mpr q h16)]
    exact ⟨rfl, rfl⟩
  · obtain ⟨j, hj, hjj⟩ := hz (Int32.not_lt.mp h16)
    have hjc := cl_nI (show j < 2147483648 by omega)
    rw [if_pos (Int32.not_lt.mp h16), hjj, hjc]
    refine AW.aload_n (n := 20) dX10_takeNeighbour_19 rfl rfl ?_
    refine AW.aload_n (n := 21) dX10_takeNeighbour_20 rfl rfl ?_
    refine AW.gr (n := 24) dX10_takeNeighbour_21 fl_X10_29 s_136 rfl rfl ?_
    refine AW.bipush (n := 26) (v := 7) dX10_takeNeighbour_24 rfl rfl ?_
    refine AW.iload_n (n := 27) dX10_takeNeighbour_26 rfl rfl ?_
    refine AW.iadd (n := 28) dX10_takeNeighbour_27 rfl ?_
    rw [show (7 : Int32) + nI j = nI (7 + j) from nI_add 7 j]
    refine AW.ia (n := 29) (7 + j) dX10_takeNeighbour_28 s_143 rfl (by omega) (by decide) rfl ?_
    refine AW.iconst (n := 30) (v := -1) dX10_takeNeighbour_29 rfl rfl ?_
    refine AW.icmp_ne (n := 33) (t := 37) dX10_takeNeighbour_30 rfl rfl (fun h30 => ?_) (fun h30 => ?_)
    · refine AW.iconst (n := 38) (v := 0) dX10_takeNeighbour_37 rfl rfl ?_
      refine AW.iconst (n := 39) (v := 4) dX10_takeNeighbour_38 rfl rfl ?_
      refine AW.aload_n (n := 40) dX10_takeNeighbour_39 rfl rfl ?_
      refine AW.gi (n := 43) dX10_takeNeighbour_40 fl_X10_87 s_136 rfl rfl ?_
      refine AW.ev3i (Mc := mX10_want) (n := 46) dX10_takeNeighbour_43 lk_X10_94 k_mX10_want s_136 rfl rfl (c_X10_want (g := false)) (Nat.le_of_ble_eq_true rfl) (by decide) (Nat.zero_le _) (Nat.zero_le _) rfl ?_
      have eg : decide (r.2 143 (7 + j) = -1) = false := decide_eq_false h30
      rw [eg]
      refine AW.bif_ne (n := 49) (t := 50) dX10_takeNeighbour_46 rfl rfl (fun h46 => ?_) (fun h46 => ?_)
      · exact Bool.noConfusion (mWant_ok (by decide) h46).1
      · refine AW.ret dX10_takeNeighbour_49 rfl (Nat.zero_le _) (Nat.zero_le _) ?_
        rw [if_neg (by rw [h46]; decide)]
        exact ⟨rfl, rfl⟩
    · refine AW.iconst (n := 34) (v := 1) dX10_takeNeighbour_33 rfl rfl ?_
      refine AW.goto (t := 38) dX10_takeNeighbour_34 rfl ?_
      refine AW.iconst (n := 39) (v := 4) dX10_takeNeighbour_38 rfl rfl ?_
      refine AW.aload_n (n := 40) dX10_takeNeighbour_39 rfl rfl ?_
      refine AW.gi (n := 43) dX10_takeNeighbour_40 fl_X10_87 s_136 rfl rfl ?_
      refine AW.ev3i (Mc := mX10_want) (n := 46) dX10_takeNeighbour_43 lk_X10_94 k_mX10_want s_136 rfl rfl (c_X10_want (g := true)) (Nat.le_of_ble_eq_true rfl) (by decide) (Nat.zero_le _) (Nat.zero_le _) rfl ?_
      have eg : decide (r.2 143 (7 + j) = -1) = true := decide_eq_true h30
      rw [eg]
      refine AW.bif_ne (n := 49) (t := 50) dX10_takeNeighbour_46 rfl rfl (fun h46 => ?_) (fun h46 => ?_)
      · rw [if_pos h46]
        exact l_X10_nei hon.want hB hB9 (hen.want 4 (by decide)) (by omega)
      · refine AW.ret dX10_takeNeighbour_49 rfl (Nat.zero_le _) (Nat.zero_le _) ?_
        rw [if_neg (by rw [h46]; decide)]
        exact ⟨rfl, rfl⟩
set_option maxHeartbeats 4000000 in
set_option maxRecDepth 100000 in
theorem c_X10_takeClause {μ : Me} {e : Nat × (Nat → aC)} {B : Nat} (ho : uOk B μ) (hB : 240 ≤ B) (hB9 : B ≤ 60000) (he : eOk μ) : AC 4 0 0 mX10_takeClause [.ref 136] (wS μ e) (a_eq none (wS (mClause μ) e)) := by
  refine AC.of (L := [some (.ref 136), none, none]) (j := 2) (by decide) rfl (Nat.le_of_ble_eq_true rfl) ?_
  refine AW.aload_n (n := 1) dX10_takeClause_0 rfl rfl ?_
  refine AW.ev0i (Mc := mX10_here) (n := 4) dX10_takeClause_1 lk_X10_83 k_mX10_here s_136 rfl rfl (c_X10_here ho (by omega)) (Nat.le_of_ble_eq_true rfl) (by decide) (Nat.zero_le _) (Nat.zero_le _) rfl ?_
  refine AW.ist1 (n := 5) dX10_takeClause_4 (Nat.le_of_ble_eq_true rfl) rfl rfl ?_
  refine AW.aload_n (n := 6) dX10_takeClause_5 rfl rfl ?_
  refine AW.gi (n := 9) dX10_takeClause_6 fl_X10_77 s_136 rfl rfl ?_
  refine AW.ist2 (n := 10) dX10_takeClause_9 (Nat.le_of_ble_eq_true rfl) rfl rfl ?_
  refine AW.aload_n (n := 11) dX10_takeClause_10 rfl rfl ?_
  refine AW.dup (n := 12) dX10_takeClause_11 rfl rfl ?_
  refine AW.gi (n := 15) dX10_takeClause_12 fl_X10_77 s_136 rfl rfl ?_
  refine AW.iconst (n := 16) (v := 1) dX10_takeClause_15 rfl rfl ?_
  refine AW.iadd (n := 17) dX10_takeClause_16 rfl ?_
  refine AW.pi (n := 20) dX10_takeClause_17 fp_X10_77 s_136 rfl ⟨rfl, rfl⟩ rfl ?_
  change AW _ _ _ _ _ _ _ _ _ _ (wS (mInc (mHere μ).2) e) _
  have hoA : uOk (B + 1) (mClA μ) := uOk.want (uOk.inc (ho.here hB (by omega)))
  have heA : eOk (mClA μ) := eOk.want 1 (by decide) (he.of (by unfold mInc; rw [mu_nj (by decide), mHere_j (by decide)]) (by unfold mInc; rw [mu_nj (by decide), mHere_j (by decide)]))
  refine AW.aload_n (n := 21) dX10_takeClause_20 rfl rfl ?_
  refine AW.iload_n (n := 22) dX10_takeClause_21 rfl rfl ?_
  refine AW.bipush (n := 24) (v := 118) dX10_takeClause_22 rfl rfl ?_
  refine AW.icmp_eq (n := 27) (t := 36) dX10_takeClause_24 rfl rfl (fun h24 => ?_) (fun h24 => ?_)
  · refine AW.iconst (n := 37) (v := 1) dX10_takeClause_36 rfl rfl ?_
    refine AW.goto (t := 41) dX10_takeClause_37 rfl ?_
    refine AW.iconst (n := 42) (v := 1) dX10_takeClause_41 rfl rfl ?_
    refine AW.iload_n (n := 43) dX10_takeClause_42 rfl rfl ?_
    refine AW.ev3i (Mc := mX10_want) (n := 46) dX10_takeClause_43 lk_X10_94 k_mX10_want s_136 rfl rfl (c_X10_want (g := true)) (Nat.le_of_ble_eq_true rfl) (by decide) (Nat.zero_le _) (Nat.zero_le _) rfl ?_
    have eg : (decide ((mHere μ).1 = 118) || !decide (mInc (mHere μ).2 139 3 ≤ 0)) = true := by rw [decide_eq_true h24]; rfl
    have eA : mClA μ = mWant (mInc (mHere μ).2) true 1 ((mHere μ).2 136 15) := by unfold mClA; rw [eg]
    rw [← eA]
    refine AW.bif_ne (n := 49) (t := 50) dX10_takeClause_46 rfl rfl (fun h46 => ?_) (fun h46 => ?_)
    · rw [mClause, if_pos h46]
      unfold mClauseB
      refine AW.iload_n (n := 51) dX10_takeClause_50 rfl rfl ?_
      refine AW.bipush (n := 53) (v := 118) dX10_takeClause_51 rfl rfl ?_
      refine AW.icmp_ne (n := 56) (t := 64) dX10_takeClause_53 rfl rfl (fun h53 => ?_) (fun h53 => ?_)
      · rw [if_neg h53]
        refine AW.iload_n (n := 65) dX10_takeClause_64 rfl rfl ?_
        refine AW.bipush (n := 67) (v := 115) dX10_takeClause_65 rfl rfl ?_
        refine AW.icmp_ne (n := 70) (t := 78) dX10_takeClause_67 rfl rfl (fun h67 => ?_) (fun h67 => ?_)
        · rw [if_neg h67]
          refine AW.iload_n (n := 79) dX10_takeClause_78 rfl rfl ?_
          refine AW.bipush (n := 81) (v := 100) dX10_takeClause_79 rfl rfl ?_
          refine AW.icmp_ne (n := 84) (t := 92) dX10_takeClause_81 rfl rfl (fun h81 => ?_) (fun h81 => ?_)
          · rw [if_neg h81]
            refine AW.aload_n (n := 93) dX10_takeClause_92 rfl rfl ?_
            refine AW.iload_n (n := 94) dX10_takeClause_93 rfl rfl ?_
            refine AW.bipush (n := 96) (v := 110) dX10_takeClause_94 rfl rfl ?_
            refine AW.icmp_ne (n := 99) (t := 103) dX10_takeClause_96 rfl rfl (fun h96 => ?_) (fun h96 => ?_)
            · refine AW.iconst (n := 104) (v := 0) dX10_takeClause_103 rfl rfl ?_
              refine AW.iconst (n := 105) (v := 1) dX10_takeClause_104 rfl rfl ?_
              refine AW.iload_n (n := 106) dX10_takeClause_105 rfl rfl ?_
              refine AW.ev3i (Mc := mX10_want) (n := 109) dX10_takeClause_106 lk_X10_94 k_mX10_want s_136 rfl rfl (c_X10_want (g := false)) (Nat.le_of_ble_eq_true rfl) (by decide) (Nat.zero_le _) (Nat.zero_le _) rfl ?_
              have eg2 : decide ((mHere μ).1 = 110) = false := decide_eq_false h96
              rw [eg2]
              refine AW.bif_eq (n := 112) (t := 116) dX10_takeClause_109 rfl rfl (fun h109 => ?_) (fun h109 => ?_)
              · rw [if_neg (by rw [h109]; decide)]
                refine AW.ret dX10_takeClause_116 rfl (Nat.zero_le _) (Nat.zero_le _) ?_
                exact ⟨rfl, rfl⟩
              · rw [if_pos h109]
                refine AW.aload_n (n := 113) dX10_takeClause_112 rfl rfl ?_
                refine AW.ev0v (Mc := mX10_takeNeighbour) (n := 116) dX10_takeClause_113 lk_X10_122 k_mX10_takeNeighbour s_136 rfl rfl (c_X10_takeNeighbour hoA.want (by omega) (by omega) (heA.want 1 (by decide))) (Nat.le_of_ble_eq_true rfl) (by decide) (Nat.zero_le _) (Nat.zero_le _) rfl ?_
                refine AW.ret dX10_takeClause_116 rfl (Nat.zero_le _) (Nat.zero_le _) ?_
                exact ⟨rfl, rfl⟩
            · refine AW.iconst (n := 100) (v := 1) dX10_takeClause_99 rfl rfl ?_
              refine AW.goto (t := 104) dX10_takeClause_100 rfl ?_
              refine AW.iconst (n := 105) (v := 1) dX10_takeClause_104 rfl rfl ?_
              refine AW.iload_n (n := 106) dX10_takeClause_105 rfl rfl ?_
              refine AW.ev3i (Mc := mX10_want) (n := 109) dX10_takeClause_106 lk_X10_94 k_mX10_want s_136 rfl rfl (c_X10_want (g := true)) (Nat.le_of_ble_eq_true rfl) (by decide) (Nat.zero_le _) (Nat.zero_le _) rfl ?_
              have eg2 : decide ((mHere μ).1 = 110) = true := decide_eq_true h96
              rw [eg2]
              refine AW.bif_eq (n := 112) (t := 116) dX10_takeClause_109 rfl rfl (fun h109 => ?_) (fun h109 => ?_)
              · rw [if_neg (by rw [h109]; decide)]
                refine AW.ret dX10_takeClause_116 rfl (Nat.zero_le _) (Nat.zero_le _) ?_
                exact ⟨rfl, rfl⟩
              · rw [if_pos h109]
                refine AW.aload_n (n := 113) dX10_takeClause_112 rfl rfl ?_
                refine AW.ev0v (Mc := mX10_takeNeighbour) (n := 116) dX10_takeClause_113 lk_X10_122 k_mX10_takeNeighbour s_136 rfl rfl (c_X10_takeNeighbour hoA.want (by omega) (by omega) (heA.want 1 (by decide))) (Nat.le_of_ble_eq_true rfl) (by decide) (Nat.zero_le _) (Nat.zero_le _) rfl ?_
                refine AW.ret dX10_takeClause_116 rfl (Nat.zero_le _) (Nat.zero_le _) ?_
                exact ⟨rfl, rfl⟩
          · rw [if_pos h81]
            refine AW.aload_n (n := 85) dX10_takeClause_84 rfl rfl ?_
            refine AW.iload_n (n := 86) dX10_takeClause_85 rfl rfl ?_
            refine AW.ev1v (Mc := mX10_takeDins) (n := 89) dX10_takeClause_86 lk_X10_119 k_mX10_takeDins s_136 rfl rfl (c_X10_takeDins hoA (by omega) (by omega)) (Nat.le_of_ble_eq_true rfl) (by decide) (Nat.zero_le _) (Nat.zero_le _) rfl ?_
            refine AW.goto (t := 116) dX10_takeClause_89 rfl ?_
            refine AW.ret dX10_takeClause_116 rfl (Nat.zero_le _) (Nat.zero_le _) ?_
            exact ⟨rfl, rfl⟩
        · rw [if_pos h67]
          refine AW.aload_n (n := 71) dX10_takeClause_70 rfl rfl ?_
          refine AW.iload_n (n := 72) dX10_takeClause_71 rfl rfl ?_
          refine AW.ev1v (Mc := mX10_takeStop) (n := 75) dX10_takeClause_72 lk_X10_116 k_mX10_takeStop s_136 rfl rfl (c_X10_takeStop hoA (by omega) (by omega) heA.n.1 heA.n.2) (Nat.le_of_ble_eq_true rfl) (by decide) (Nat.zero_le _) (Nat.zero_le _) rfl ?_
          refine AW.goto (t := 116) dX10_takeClause_75 rfl ?_
          refine AW.ret dX10_takeClause_116 rfl (Nat.zero_le _) (Nat.zero_le _) ?_
          exact ⟨rfl, rfl⟩
      · rw [if_pos h53]
        refine AW.aload_n (n := 57) dX10_takeClause_56 rfl rfl ?_
        refine AW.iload_n (n := 58) dX10_takeClause_57 rfl rfl ?_
        refine AW.ev1v (Mc := mX10_takeRule) (n := 61) dX10_takeClause_58 lk_X10_112 k_mX10_takeRule s_136 rfl rfl (c_X10_takeRule hoA (by omega) (by omega)) (Nat.le_of_ble_eq_true rfl) (by decide) (Nat.zero_le _) (Nat.zero_le _) rfl ?_
        refine AW.goto (t := 116) dX10_takeClause_61 rfl ?_
        refine AW.ret dX10_takeClause_116 rfl (Nat.zero_le _) (Nat.zero_le _) ?_
        exact ⟨rfl, rfl⟩
    · refine AW.ret dX10_takeClause_49 rfl (Nat.zero_le _) (Nat.zero_le _) ?_
      rw [mClause, if_neg (by rw [h46]; decide)]
      exact ⟨rfl, rfl⟩
  · refine AW.aload_n (n := 28) dX10_takeClause_27 rfl rfl ?_
    refine AW.gr (n := 31) dX10_takeClause_28 fl_X10_17 s_136 rfl rfl ?_
    refine AW.iconst (n := 32) (v := 3) dX10_takeClause_31 rfl rfl ?_
    refine AW.ia (n := 33) 3 dX10_takeClause_32 s_139 rfl (by decide) (by decide) rfl ?_
    refine AW.if_le (n := 36) (t := 40) dX10_takeClause_33 rfl rfl (fun h33 => ?_) (fun h33 => ?_)
    · refine AW.iconst (n := 41) (v := 0) dX10_takeClause_40 rfl rfl ?_
      refine AW.iconst (n := 42) (v := 1) dX10_takeClause_41 rfl rfl ?_
      refine AW.iload_n (n := 43) dX10_takeClause_42 rfl rfl ?_
      refine AW.ev3i (Mc := mX10_want) (n := 46) dX10_takeClause_43 lk_X10_94 k_mX10_want s_136 rfl rfl (c_X10_want (g := false)) (Nat.le_of_ble_eq_true rfl) (by decide) (Nat.zero_le _) (Nat.zero_le _) rfl ?_
      have eg : (decide ((mHere μ).1 = 118) || !decide (mInc (mHere μ).2 139 3 ≤ 0)) = false := by rw [decide_eq_false h24, decide_eq_true h33]; rfl
      have eA : mClA μ = mWant (mInc (mHere μ).2) false 1 ((mHere μ).2 136 15) := by unfold mClA; rw [eg]
      rw [← eA]
      refine AW.bif_ne (n := 49) (t := 50) dX10_takeClause_46 rfl rfl (fun h46 => ?_) (fun h46 => ?_)
      · rw [mClause, if_pos h46]
        unfold mClauseB
        refine AW.iload_n (n := 51) dX10_takeClause_50 rfl rfl ?_
        refine AW.bipush (n := 53) (v := 118) dX10_takeClause_51 rfl rfl ?_
        refine AW.icmp_ne (n := 56) (t := 64) dX10_takeClause_53 rfl rfl (fun h53 => ?_) (fun h53 => ?_)
        · rw [if_neg h53]
          refine AW.iload_n (n := 65) dX10_takeClause_64 rfl rfl ?_
          refine AW.bipush (n := 67) (v := 115) dX10_takeClause_65 rfl rfl ?_
          refine AW.icmp_ne (n := 70) (t := 78) dX10_takeClause_67 rfl rfl (fun h67 => ?_) (fun h67 => ?_)
          · rw [if_neg h67]
            refine AW.iload_n (n := 79) dX10_takeClause_78 rfl rfl ?_
            refine AW.bipush (n := 81) (v := 100) dX10_takeClause_79 rfl rfl ?_
            refine AW.icmp_ne (n := 84) (t := 92) dX10_takeClause_81 rfl rfl (fun h81 => ?_) (fun h81 => ?_)
            · rw [if_neg h81]
              refine AW.aload_n (n := 93) dX10_takeClause_92 rfl rfl ?_
              refine AW.iload_n (n := 94) dX10_takeClause_93 rfl rfl ?_
              refine AW.bipush (n := 96) (v := 110) dX10_takeClause_94 rfl rfl ?_
              refine AW.icmp_ne (n := 99) (t := 103) dX10_takeClause_96 rfl rfl (fun h96 => ?_) (fun h96 => ?_)
              · refine AW.iconst (n := 104) (v := 0) dX10_takeClause_103 rfl rfl ?_
                refine AW.iconst (n := 105) (v := 1) dX10_takeClause_104 rfl rfl ?_
                refine AW.iload_n (n := 106) dX10_takeClause_105 rfl rfl ?_
                refine AW.ev3i (Mc := mX10_want) (n := 109) dX10_takeClause_106 lk_X10_94 k_mX10_want s_136 rfl rfl (c_X10_want (g := false)) (Nat.le_of_ble_eq_true rfl) (by decide) (Nat.zero_le _) (Nat.zero_le _) rfl ?_
                have eg2 : decide ((mHere μ).1 = 110) = false := decide_eq_false h96
                rw [eg2]
                refine AW.bif_eq (n := 112) (t := 116) dX10_takeClause_109 rfl rfl (fun h109 => ?_) (fun h109 => ?_)
                · rw [if_neg (by rw [h109]; decide)]
                  refine AW.ret dX10_takeClause_116 rfl (Nat.zero_le _) (Nat.zero_le _) ?_
                  exact ⟨rfl, rfl⟩
                · rw [if_pos h109]
                  refine AW.aload_n (n := 113) dX10_takeClause_112 rfl rfl ?_
                  refine AW.ev0v (Mc := mX10_takeNeighbour) (n := 116) dX10_takeClause_113 lk_X10_122 k_mX10_takeNeighbour s_136 rfl rfl (c_X10_takeNeighbour hoA.want (by omega) (by omega) (heA.want 1 (by decide))) (Nat.le_of_ble_eq_true rfl) (by decide) (Nat.zero_le _) (Nat.zero_le _) rfl ?_
                  refine AW.ret dX10_takeClause_116 rfl (Nat.zero_le _) (Nat.zero_le _) ?_
                  exact ⟨rfl, rfl⟩
              · refine AW.iconst (n := 100) (v := 1) dX10_takeClause_99 rfl rfl ?_
                refine AW.goto (t := 104) dX10_takeClause_100 rfl ?_
                refine AW.iconst (n := 105) (v := 1) dX10_takeClause_104 rfl rfl ?_
                refine AW.iload_n (n := 106) dX10_takeClause_105 rfl rfl ?_
                refine AW.ev3i (Mc := mX10_want) (n := 109) dX10_takeClause_106 lk_X10_94 k_mX10_want s_136 rfl rfl (c_X10_want (g := true)) (Nat.le_of_ble_eq_true rfl) (by decide) (Nat.zero_le _) (Nat.zero_le _) rfl ?_
                have eg2 : decide ((mHere μ).1 = 110) = true := decide_eq_true h96
                rw [eg2]
                refine AW.bif_eq (n := 112) (t := 116) dX10_takeClause_109 rfl rfl (fun h109 => ?_) (fun h109 => ?_)
                · rw [if_neg (by rw [h109]; decide)]
                  refine AW.ret dX10_takeClause_116 rfl (Nat.zero_le _) (Nat.zero_le _) ?_
                  exact ⟨rfl, rfl⟩
                · rw [if_pos h109]
                  refine AW.aload_n (n := 113) dX10_takeClause_112 rfl rfl ?_
                  refine AW.ev0v (Mc := mX10_takeNeighbour) (n := 116) dX10_takeClause_113 lk_X10_122 k_mX10_takeNeighbour s_136 rfl rfl (c_X10_takeNeighbour hoA.want (by omega) (by omega) (heA.want 1 (by decide))) (Nat.le_of_ble_eq_true rfl) (by decide) (Nat.zero_le _) (Nat.zero_le _) rfl ?_
                  refine AW.ret dX10_takeClause_116 rfl (Nat.zero_le _) (Nat.zero_le _) ?_
                  exact ⟨rfl, rfl⟩
            · rw [if_pos h81]
              refine AW.aload_n (n := 85) dX10_takeClause_84 rfl rfl ?_
              refine AW.iload_n (n := 86) dX10_takeClause_85 rfl rfl ?_
              refine AW.ev1v (Mc := mX10_takeDins) (n := 89) dX10_takeClause_86 lk_X10_119 k_mX10_takeDins s_136 rfl rfl (c_X10_takeDins hoA (by omega) (by omega)) (Nat.le_of_ble_eq_true rfl) (by decide) (Nat.zero_le _) (Nat.zero_le _) rfl ?_
              refine AW.goto (t := 116) dX10_takeClause_89 rfl ?_
              refine AW.ret dX10_takeClause_116 rfl (Nat.zero_le _) (Nat.zero_le _) ?_
              exact ⟨rfl, rfl⟩
          · rw [if_pos h67]
            refine AW.aload_n (n := 71) dX10_takeClause_70 rfl rfl ?_
            refine AW.iload_n (n := 72) dX10_takeClause_71 rfl rfl ?_
            refine AW.ev1v (Mc := mX10_takeStop) (n := 75) dX10_takeClause_72 lk_X10_116 k_mX10_takeStop s_136 rfl rfl (c_X10_takeStop hoA (by omega) (by omega) heA.n.1 heA.n.2) (Nat.le_of_ble_eq_true rfl) (by decide) (Nat.zero_le _) (Nat.zero_le _) rfl ?_
            refine AW.goto (t := 116) dX10_takeClause_75 rfl ?_
            refine AW.ret dX10_takeClause_116 rfl (Nat.zero_le _) (Nat.zero_le _) ?_
            exact ⟨rfl, rfl⟩
        · rw [if_pos h53]
          refine AW.aload_n (n := 57) dX10_takeClause_56 rfl rfl ?_
          refine AW.iload_n (n := 58) dX10_takeClause_57 rfl rfl ?_
          refine AW.ev1v (Mc := mX10_takeRule) (n := 61) dX10_takeClause_58 lk_X10_112 k_mX10_takeRule s_136 rfl rfl (c_X10_takeRule hoA (by omega) (by omega)) (Nat.le_of_ble_eq_true rfl) (by decide) (Nat.zero_le _) (Nat.zero_le _) rfl ?_
          refine AW.goto (t := 116) dX10_takeClause_61 rfl ?_
          refine AW.ret dX10_takeClause_116 rfl (Nat.zero_le _) (Nat.zero_le _) ?_
          exact ⟨rfl, rfl⟩
      · refine AW.ret dX10_takeClause_49 rfl (Nat.zero_le _) (Nat.zero_le _) ?_
        rw [mClause, if_neg (by rw [h46]; decide)]
        exact ⟨rfl, rfl⟩
    · refine AW.iconst (n := 37) (v := 1) dX10_takeClause_36 rfl rfl ?_
      refine AW.goto (t := 41) dX10_takeClause_37 rfl ?_
      refine AW.iconst (n := 42) (v := 1) dX10_takeClause_41 rfl rfl ?_
      refine AW.iload_n (n := 43) dX10_takeClause_42 rfl rfl ?_
      refine AW.ev3i (Mc := mX10_want) (n := 46) dX10_takeClause_43 lk_X10_94 k_mX10_want s_136 rfl rfl (c_X10_want (g := true)) (Nat.le_of_ble_eq_true rfl) (by decide) (Nat.zero_le _) (Nat.zero_le _) rfl ?_
      have eg : (decide ((mHere μ).1 = 118) || !decide (mInc (mHere μ).2 139 3 ≤ 0)) = true := by rw [decide_eq_false h24, decide_eq_false h33]; rfl
      have eA : mClA μ = mWant (mInc (mHere μ).2) true 1 ((mHere μ).2 136 15) := by unfold mClA; rw [eg]
      rw [← eA]
      refine AW.bif_ne (n := 49) (t := 50) dX10_takeClause_46 rfl rfl (fun h46 => ?_) (fun h46 => ?_)
      · rw [mClause, if_pos h46]
        unfold mClauseB
        refine AW.iload_n (n := 51) dX10_takeClause_50 rfl rfl ?_
        refine AW.bipush (n := 53) (v := 118) dX10_takeClause_51 rfl rfl ?_
        refine AW.icmp_ne (n := 56) (t := 64) dX10_takeClause_53 rfl rfl (fun h53 => ?_) (fun h53 => ?_)
        · rw [if_neg h53]
          refine AW.iload_n (n := 65) dX10_takeClause_64 rfl rfl ?_
          refine AW.bipush (n := 67) (v := 115) dX10_takeClause_65 rfl rfl ?_
          refine AW.icmp_ne (n := 70) (t := 78) dX10_takeClause_67 rfl rfl (fun h67 => ?_) (fun h67 => ?_)
          · rw [if_neg h67]
            refine AW.iload_n (n := 79) dX10_takeClause_78 rfl rfl ?_
            refine AW.bipush (n := 81) (v := 100) dX10_takeClause_79 rfl rfl ?_
            refine AW.icmp_ne (n := 84) (t := 92) dX10_takeClause_81 rfl rfl (fun h81 => ?_) (fun h81 => ?_)
            · rw [if_neg h81]
              refine AW.aload_n (n := 93) dX10_takeClause_92 rfl rfl ?_
              refine AW.iload_n (n := 94) dX10_takeClause_93 rfl rfl ?_
              refine AW.bipush (n := 96) (v := 110) dX10_takeClause_94 rfl rfl ?_
              refine AW.icmp_ne (n := 99) (t := 103) dX10_takeClause_96 rfl rfl (fun h96 => ?_) (fun h96 => ?_)
              · refine AW.iconst (n := 104) (v := 0) dX10_takeClause_103 rfl rfl ?_
                refine AW.iconst (n := 105) (v := 1) dX10_takeClause_104 rfl rfl ?_
                refine AW.iload_n (n := 106) dX10_takeClause_105 rfl rfl ?_
                refine AW.ev3i (Mc := mX10_want) (n := 109) dX10_takeClause_106 lk_X10_94 k_mX10_want s_136 rfl rfl (c_X10_want (g := false)) (Nat.le_of_ble_eq_true rfl) (by decide) (Nat.zero_le _) (Nat.zero_le _) rfl ?_
                have eg2 : decide ((mHere μ).1 = 110) = false := decide_eq_false h96
                rw [eg2]
                refine AW.bif_eq (n := 112) (t := 116) dX10_takeClause_109 rfl rfl (fun h109 => ?_) (fun h109 => ?_)
                · rw [if_neg (by rw [h109]; decide)]
                  refine AW.ret dX10_takeClause_116 rfl (Nat.zero_le _) (Nat.zero_le _) ?_
                  exact ⟨rfl, rfl⟩
                · rw [if_pos h109]
                  refine AW.aload_n (n := 113) dX10_takeClause_112 rfl rfl ?_
                  refine AW.ev0v (Mc := mX10_takeNeighbour) (n := 116) dX10_takeClause_113 lk_X10_122 k_mX10_takeNeighbour s_136 rfl rfl (c_X10_takeNeighbour hoA.want (by omega) (by omega) (heA.want 1 (by decide))) (Nat.le_of_ble_eq_true rfl) (by decide) (Nat.zero_le _) (Nat.zero_le _) rfl ?_
                  refine AW.ret dX10_takeClause_116 rfl (Nat.zero_le _) (Nat.zero_le _) ?_
                  exact ⟨rfl, rfl⟩
              · refine AW.iconst (n := 100) (v := 1) dX10_takeClause_99 rfl rfl ?_
                refine AW.goto (t := 104) dX10_takeClause_100 rfl ?_
                refine AW.iconst (n := 105) (v := 1) dX10_takeClause_104 rfl rfl ?_
                refine AW.iload_n (n := 106) dX10_takeClause_105 rfl rfl ?_
                refine AW.ev3i (Mc := mX10_want) (n := 109) dX10_takeClause_106 lk_X10_94 k_mX10_want s_136 rfl rfl (c_X10_want (g := true)) (Nat.le_of_ble_eq_true rfl) (by decide) (Nat.zero_le _) (Nat.zero_le _) rfl ?_
                have eg2 : decide ((mHere μ).1 = 110) = true := decide_eq_true h96
                rw [eg2]
                refine AW.bif_eq (n := 112) (t := 116) dX10_takeClause_109 rfl rfl (fun h109 => ?_) (fun h109 => ?_)
                · rw [if_neg (by rw [h109]; decide)]
                  refine AW.ret dX10_takeClause_116 rfl (Nat.zero_le _) (Nat.zero_le _) ?_
                  exact ⟨rfl, rfl⟩
                · rw [if_pos h109]
                  refine AW.aload_n (n := 113) dX10_takeClause_112 rfl rfl ?_
                  refine AW.ev0v (Mc := mX10_takeNeighbour) (n := 116) dX10_takeClause_113 lk_X10_122 k_mX10_takeNeighbour s_136 rfl rfl (c_X10_takeNeighbour hoA.want (by omega) (by omega) (heA.want 1 (by decide))) (Nat.le_of_ble_eq_true rfl) (by decide) (Nat.zero_le _) (Nat.zero_le _) rfl ?_
                  refine AW.ret dX10_takeClause_116 rfl (Nat.zero_le _) (Nat.zero_le _) ?_
                  exact ⟨rfl, rfl⟩
            · rw [if_pos h81]
              refine AW.aload_n (n := 85) dX10_takeClause_84 rfl rfl ?_
              refine AW.iload_n (n := 86) dX10_takeClause_85 rfl rfl ?_
              refine AW.ev1v (Mc := mX10_takeDins) (n := 89) dX10_takeClause_86 lk_X10_119 k_mX10_takeDins s_136 rfl rfl (c_X10_takeDins hoA (by omega) (by omega)) (Nat.le_of_ble_eq_true rfl) (by decide) (Nat.zero_le _) (Nat.zero_le _) rfl ?_
              refine AW.goto (t := 116) dX10_takeClause_89 rfl ?_
              refine AW.ret dX10_takeClause_116 rfl (Nat.zero_le _) (Nat.zero_le _) ?_
              exact ⟨rfl, rfl⟩
          · rw [if_pos h67]
            refine AW.aload_n (n := 71) dX10_takeClause_70 rfl rfl ?_
            refine AW.iload_n (n := 72) dX10_takeClause_71 rfl rfl ?_
            refine AW.ev1v (Mc := mX10_takeStop) (n := 75) dX10_takeClause_72 lk_X10_116 k_mX10_takeStop s_136 rfl rfl (c_X10_takeStop hoA (by omega) (by omega) heA.n.1 heA.n.2) (Nat.le_of_ble_eq_true rfl) (by decide) (Nat.zero_le _) (Nat.zero_le _) rfl ?_
            refine AW.goto (t := 116) dX10_takeClause_75 rfl ?_
            refine AW.ret dX10_takeClause_116 rfl (Nat.zero_le _) (Nat.zero_le _) ?_
            exact ⟨rfl, rfl⟩
        · rw [if_pos h53]
          refine AW.aload_n (n := 57) dX10_takeClause_56 rfl rfl ?_
          refine AW.iload_n (n := 58) dX10_takeClause_57 rfl rfl ?_
          refine AW.ev1v (Mc := mX10_takeRule) (n := 61) dX10_takeClause_58 lk_X10_112 k_mX10_takeRule s_136 rfl rfl (c_X10_takeRule hoA (by omega) (by omega)) (Nat.le_of_ble_eq_true rfl) (by decide) (Nat.zero_le _) (Nat.zero_le _) rfl ?_
          refine AW.goto (t := 116) dX10_takeClause_61 rfl ?_
          refine AW.ret dX10_takeClause_116 rfl (Nat.zero_le _) (Nat.zero_le _) ?_
          exact ⟨rfl, rfl⟩
      · refine AW.ret dX10_takeClause_49 rfl (Nat.zero_le _) (Nat.zero_le _) ?_
        rw [mClause, if_neg (by rw [h46]; decide)]
        exact ⟨rfl, rfl⟩
