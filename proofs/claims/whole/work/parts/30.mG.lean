def qEnd (ν : Me) : Int32 × Me := if mu ν 136 14 0 136 17 ≤ 0 then (mTake (mu ν 136 14 0) 136 8, mTake (mu ν 136 14 0)) else (-10 - mu ν 136 14 0 136 17, mu ν 136 14 0)
set_option maxHeartbeats 4000000 in
set_option maxRecDepth 100000 in
theorem l_X10_str110 {μ : Me} {e : Nat × (Nat → aC)} {L1 : Option Value} : AW none 5 0 0 mX10_street 0 0 110 [some (.ref 136), L1] [] (wS μ e) (a_eq (some (.int (qEnd μ).1)) (wS (qEnd μ).2 e)) := by
  refine AW.aload_n (n := 111) dX10_street_110 rfl rfl ?_
  refine AW.iconst (n := 112) (v := 0) dX10_street_111 rfl rfl ?_
  refine AW.pi (n := 115) dX10_street_112 fp_X10_73 s_136 rfl ⟨rfl, rfl⟩ rfl ?_
  refine AW.aload_n (n := 116) dX10_street_115 rfl rfl ?_
  refine AW.gi (n := 119) dX10_street_116 fl_X10_80 s_136 rfl rfl ?_
  refine AW.if_le (n := 122) (t := 130) dX10_street_119 rfl rfl (fun h119 => ?_) (fun h119 => ?_)
  · refine AW.aload_n (n := 131) dX10_street_130 rfl rfl ?_
    refine AW.ev0v (Mc := mX10_take) (n := 134) dX10_street_131 lk_X10_128 k_mX10_take s_136 rfl rfl (c_X10_take) (Nat.le_of_ble_eq_true rfl) (by decide) (Nat.zero_le _) (Nat.zero_le _) rfl ?_
    refine AW.aload_n (n := 135) dX10_street_134 rfl rfl ?_
    refine AW.gi (n := 138) dX10_street_135 fl_X10_131 s_136 rfl rfl ?_
    refine AW.iret dX10_street_138 rfl rfl (Nat.zero_le _) (Nat.zero_le _) ?_
    rw [qEnd, if_pos h119]
    exact ⟨rfl, rfl⟩
  · refine AW.bipush (n := 124) (v := -10) dX10_street_122 rfl rfl ?_
    refine AW.aload_n (n := 125) dX10_street_124 rfl rfl ?_
    refine AW.gi (n := 128) dX10_street_125 fl_X10_80 s_136 rfl rfl ?_
    refine AW.isub (n := 129) dX10_street_128 rfl ?_
    refine AW.iret dX10_street_129 rfl rfl (Nat.zero_le _) (Nat.zero_le _) ?_
    rw [qEnd, if_neg h119]
    exact ⟨rfl, rfl⟩
set_option maxHeartbeats 4000000 in
set_option maxRecDepth 100000 in
theorem l_X10_str46 {e : Nat × (Nat → aC)} {L1 : Option Value} : ∀ (m B : Nat) (μ : Me), uOk B μ → 240 ≤ B → B + 14 * m ≤ 40000 → eOk μ → 240 ≤ mAt μ + m → AW none 5 0 0 mX10_street 0 0 46 [some (.ref 136), L1] [] (wS μ e) (a_eq (some (.int (qEnd (mStrL m μ)).1)) (wS (qEnd (mStrL m μ)).2 e)) := by
  intro m
  induction m with
  | zero =>
    intro B μ ho hB hB9 he hm
    have hp : mPos μ = mAt μ ∧ mLen μ ≤ mAt μ := by
      obtain ⟨l, t, h1, h2, h3, h4⟩ := ho
      obtain ⟨e1, e2⟩ := uOk.r h1 h2 h3 h4 (by omega)
      rw [e2] at hm
      unfold mPos
      rw [e1, e2]
      rw [show l - t = 0 by omega, sSkip]
      exact ⟨rfl, by omega⟩
    have hh : mHere μ = (-1, μ) := by
      unfold mHere sLook
      rw [if_neg (by rw [hp.1]; omega), hp.1, mu_self' (ho.atv (by omega)).1]
    refine AW.aload_n (n := 47) dX10_street_46 rfl rfl ?_
    refine AW.gi (n := 50) dX10_street_47 fl_X10_80 s_136 rfl rfl ?_
    refine AW.if_ne (n := 53) (t := 110) dX10_street_50 rfl rfl (fun h50 => ?_) (fun h50 => ?_)
    · exact l_X10_str110
    · refine AW.aload_n (n := 54) dX10_street_53 rfl rfl ?_
      refine AW.ev0i (Mc := mX10_here) (n := 57) dX10_street_54 lk_X10_83 k_mX10_here s_136 rfl rfl (c_X10_here ho (by omega)) (Nat.le_of_ble_eq_true rfl) (by decide) (Nat.zero_le _) (Nat.zero_le _) rfl ?_
      rw [hh]
      refine AW.if_lt (n := 60) (t := 110) dX10_street_57 rfl rfl (fun h57 => ?_) (fun h57 => ?_)
      · exact l_X10_str110
      · exact absurd (show (-1 : Int32) < 0 by decide) h57
  | succ m ih =>
    intro B μ ho hB hB9 he hm
    have hoh := ho.here hB (by omega)
    have heh := he.here
    obtain ⟨hoc, hac⟩ := hoh.mclause hB (by omega)
    obtain ⟨hos, has⟩ := hoh.strS hB (by omega)
    have hes := heh.strS
    have hpp : mAt μ ≤ mPos (mHere μ).2 := by
      have h1 := pos_ge (mHere μ).2
      rw [at_here ho hB (by omega)] at h1
      exact Nat.le_trans (pos_ge μ) h1
    refine AW.aload_n (n := 47) dX10_street_46 rfl rfl ?_
    refine AW.gi (n := 50) dX10_street_47 fl_X10_80 s_136 rfl rfl ?_
    refine AW.if_ne (n := 53) (t := 110) dX10_street_50 rfl rfl (fun h50 => ?_) (fun h50 => ?_)
    · rw [mStrL, if_neg h50]
      exact l_X10_str110
    · refine AW.aload_n (n := 54) dX10_street_53 rfl rfl ?_
      refine AW.ev0i (Mc := mX10_here) (n := 57) dX10_street_54 lk_X10_83 k_mX10_here s_136 rfl rfl (c_X10_here ho (by omega)) (Nat.le_of_ble_eq_true rfl) (by decide) (Nat.zero_le _) (Nat.zero_le _) rfl ?_
      refine AW.if_lt (n := 60) (t := 110) dX10_street_57 rfl rfl (fun h57 => ?_) (fun h57 => ?_)
      · rw [mStrL, if_pos h50, if_pos h57]
        exact l_X10_str110
      · refine AW.aload_n (n := 61) dX10_street_60 rfl rfl ?_
        refine AW.ev0v (Mc := mX10_takeClause) (n := 64) dX10_street_61 lk_X10_125 k_mX10_takeClause s_136 rfl rfl (c_X10_takeClause hoh hB (by omega) heh) (Nat.le_of_ble_eq_true rfl) (by decide) (Nat.zero_le _) (Nat.zero_le _) rfl ?_
        refine AW.aload_n (n := 65) dX10_street_64 rfl rfl ?_
        refine AW.gi (n := 68) dX10_street_65 fl_X10_80 s_136 rfl rfl ?_
        refine AW.if_ne (n := 71) (t := 46) dX10_street_68 rfl rfl (fun h68 => ?_) (fun h68 => ?_)
        · rw [mStrL, if_pos h50, if_neg h57]
          have eS : mStrS (mHere μ).2 = mClause (mHere μ).2 := by rw [mStrS, if_neg h68]
          have h9 := ih (B + 14) (mStrS (mHere μ).2) hos (by omega) (by omega) hes (by omega)
          rw [eS] at h9 ⊢
          exact h9
        · refine AW.aload_n (n := 72) dX10_street_71 rfl rfl ?_
          refine AW.aload_n (n := 73) dX10_street_72 rfl rfl ?_
          refine AW.ev0i (Mc := mX10_here) (n := 76) dX10_street_73 lk_X10_83 k_mX10_here s_136 rfl rfl (c_X10_here hoc (by omega)) (Nat.le_of_ble_eq_true rfl) (by decide) (Nat.zero_le _) (Nat.zero_le _) rfl ?_
          refine AW.bipush (n := 78) (v := 59) dX10_street_76 rfl rfl ?_
          refine AW.icmp_ne (n := 81) (t := 85) dX10_street_78 rfl rfl (fun h78 => ?_) (fun h78 => ?_)
          · refine AW.iconst (n := 86) (v := 0) dX10_street_85 rfl rfl ?_
            refine AW.iconst (n := 87) (v := 1) dX10_street_86 rfl rfl ?_
            refine AW.aload_n (n := 88) dX10_street_87 rfl rfl ?_
            refine AW.gi (n := 91) dX10_street_88 fl_X10_77 s_136 rfl rfl ?_
            refine AW.ev3i (Mc := mX10_want) (n := 94) dX10_street_91 lk_X10_94 k_mX10_want s_136 rfl rfl (c_X10_want (g := false)) (Nat.le_of_ble_eq_true rfl) (by decide) (Nat.zero_le _) (Nat.zero_le _) rfl ?_
            have eg : decide ((mHere (mClause (mHere μ).2)).1 = 59) = false := decide_eq_false h78
            refine AW.bif_eq (n := 97) (t := 46) dX10_street_94 rfl rfl (fun h94 => ?_) (fun h94 => ?_)
            · rw [mStrL, if_pos h50, if_neg h57]
              have eS : mStrS (mHere μ).2 = mWant (mHere (mClause (mHere μ).2)).2 false 1 ((mHere (mClause (mHere μ).2)).2 136 15) := by rw [mStrS, if_pos h68, eg, if_neg (by rw [h94]; decide)]
              have h9 := ih (B + 14) (mStrS (mHere μ).2) hos (by omega) (by omega) hes (by omega)
              rw [eS] at h9 ⊢
              exact h9
            · refine AW.aload_n (n := 98) dX10_street_97 rfl rfl ?_
              refine AW.dup (n := 99) dX10_street_98 rfl rfl ?_
              refine AW.gi (n := 102) dX10_street_99 fl_X10_77 s_136 rfl rfl ?_
              refine AW.iconst (n := 103) (v := 1) dX10_street_102 rfl rfl ?_
              refine AW.iadd (n := 104) dX10_street_103 rfl ?_
              refine AW.pi (n := 107) dX10_street_104 fp_X10_77 s_136 rfl ⟨rfl, rfl⟩ rfl ?_
              refine AW.goto (t := 46) dX10_street_107 rfl ?_
              rw [mStrL, if_pos h50, if_neg h57]
              have eS : mStrS (mHere μ).2 = mInc (mWant (mHere (mClause (mHere μ).2)).2 false 1 ((mHere (mClause (mHere μ).2)).2 136 15)) := by rw [mStrS, if_pos h68, eg, if_pos h94]
              have h9 := ih (B + 14) (mStrS (mHere μ).2) hos (by omega) (by omega) hes (by omega)
              rw [eS] at h9 ⊢
              exact h9
          · refine AW.iconst (n := 82) (v := 1) dX10_street_81 rfl rfl ?_
            refine AW.goto (t := 86) dX10_street_82 rfl ?_
            refine AW.iconst (n := 87) (v := 1) dX10_street_86 rfl rfl ?_
            refine AW.aload_n (n := 88) dX10_street_87 rfl rfl ?_
            refine AW.gi (n := 91) dX10_street_88 fl_X10_77 s_136 rfl rfl ?_
            refine AW.ev3i (Mc := mX10_want) (n := 94) dX10_street_91 lk_X10_94 k_mX10_want s_136 rfl rfl (c_X10_want (g := true)) (Nat.le_of_ble_eq_true rfl) (by decide) (Nat.zero_le _) (Nat.zero_le _) rfl ?_
            have eg : decide ((mHere (mClause (mHere μ).2)).1 = 59) = true := decide_eq_true h78
            refine AW.bif_eq (n := 97) (t := 46) dX10_street_94 rfl rfl (fun h94 => ?_) (fun h94 => ?_)
            · rw [mStrL, if_pos h50, if_neg h57]
              have eS : mStrS (mHere μ).2 = mWant (mHere (mClause (mHere μ).2)).2 true 1 ((mHere (mClause (mHere μ).2)).2 136 15) := by rw [mStrS, if_pos h68, eg, if_neg (by rw [h94]; decide)]
              have h9 := ih (B + 14) (mStrS (mHere μ).2) hos (by omega) (by omega) hes (by omega)
              rw [eS] at h9 ⊢
              exact h9
            · refine AW.aload_n (n := 98) dX10_street_97 rfl rfl ?_
              refine AW.dup (n := 99) dX10_street_98 rfl rfl ?_
              refine AW.gi (n := 102) dX10_street_99 fl_X10_77 s_136 rfl rfl ?_
              refine AW.iconst (n := 103) (v := 1) dX10_street_102 rfl rfl ?_
              refine AW.iadd (n := 104) dX10_street_103 rfl ?_
              refine AW.pi (n := 107) dX10_street_104 fp_X10_77 s_136 rfl ⟨rfl, rfl⟩ rfl ?_
              refine AW.goto (t := 46) dX10_street_107 rfl ?_
              rw [mStrL, if_pos h50, if_neg h57]
              have eS : mStrS (mHere μ).2 = mInc (mWant (mHere (mClause (mHere μ).2)).2 true 1 ((mHere (mClause (mHere μ).2)).2 136 15)) := by rw [mStrS, if_pos h68, eg, if_pos h94]
              have h9 := ih (B + 14) (mStrS (mHere μ).2) hos (by omega) (by omega) hes (by omega)
              rw [eS] at h9 ⊢
              exact h9
set_option maxHeartbeats 4000000 in
set_option maxRecDepth 100000 in
theorem l_X10_str27 {μ : Me} {e : Nat × (Nat → aC)} {Q : Option Value → aS → Prop} (hk : AW none 5 0 0 mX10_street 0 0 46 [some (.ref 136), some (.int (nI (3 + 3)))] [] (wS (mR0 μ 3) e) Q) : ∀ (m : Nat) (i : Nat), 3 - i < m → i ≤ 3 → AW none 5 0 0 mX10_street 0 0 27 [some (.ref 136), some (.int (nI (3 + i)))] [] (wS (mR0 μ i) e) Q := by
  intro m
  induction m with
  | zero => intro i hm; exact absurd hm (Nat.not_lt_zero _)
  | succ m ih =>
    intro i hm hc
    refine AW.iload_n (n := 28) dX10_street_27 rfl rfl ?_
    refine AW.bipush (n := 30) (v := 6) dX10_street_28 rfl rfl ?_
    refine AW.icmp_ge (n := 33) (t := 46) dX10_street_30 rfl rfl (fun h30 => ?_) (fun h30 => ?_)
    · have hi : i = 3 := by have := le_lit (b := 6) (x := nI (3 + i)) rfl (by omega) (by omega) h30; omega
      subst hi
      exact hk
    · have hi : i < 3 := by have := nle_lit (b := 6) (x := nI (3 + i)) rfl (by omega) (by omega) h30; omega
      refine AW.aload_n (n := 34) dX10_street_33 rfl rfl ?_
      refine AW.gr (n := 37) dX10_street_34 fl_X10_17 s_136 rfl rfl ?_
      refine AW.iload_n (n := 38) dX10_street_37 rfl rfl ?_
      refine AW.iconst (n := 39) (v := 0) dX10_street_38 rfl rfl ?_
      refine AW.is (n := 40) (3 + i) dX10_street_39 s_139 rfl (by omega) (by decide) rfl ?_
      refine AW.inc1 (n := 43) (1) dX10_street_40 rfl (Nat.le_of_ble_eq_true rfl) rfl rfl ?_
      refine AW.goto (t := 27) dX10_street_43 rfl ?_
      rw [nI_1]
      exact ih (i + 1) (by omega) (by omega)
theorem qStreet_end (ν : Me) : qStreet ν = qEnd (mStrL 241 (mStr0 ν)) := rfl
theorem mR0_ne {ν : Me} {i : Nat} (h : i ≠ 139) : ∀ m, mR0 ν m i = ν i := by
  intro m
  induction m with
  | zero => rfl
  | succ m ih => rw [mR0, mu_ne h, ih]
set_option maxHeartbeats 4000000 in
set_option maxRecDepth 100000 in
theorem c_X10_street {μ : Me} {e : Nat × (Nat → aC)} {l : Nat} (hl : μ 136 14 = nI l) (hl9 : l ≤ 240) : AC 5 0 0 mX10_street [.ref 136] (wS μ e) (a_eq (some (.int ((qStreet μ).1))) (wS ((qStreet μ).2) e)) := by
  refine AC.of (L := [some (.ref 136), none]) (j := 1) (by decide) rfl (Nat.le_of_ble_eq_true rfl) ?_
  refine AW.aload_n (n := 1) dX10_street_0 rfl rfl ?_
  refine AW.iconst (n := 2) (v := 0) dX10_street_1 rfl rfl ?_
  refine AW.pi (n := 5) dX10_street_2 fp_X10_77 s_136 rfl ⟨rfl, rfl⟩ rfl ?_
  refine AW.aload_n (n := 6) dX10_street_5 rfl rfl ?_
  refine AW.iconst (n := 7) (v := 0) dX10_street_6 rfl rfl ?_
  refine AW.pi (n := 10) dX10_street_7 fp_X10_80 s_136 rfl ⟨rfl, rfl⟩ rfl ?_
  refine AW.aload_n (n := 11) dX10_street_10 rfl rfl ?_
  refine AW.iconst (n := 12) (v := -1) dX10_street_11 rfl rfl ?_
  refine AW.pi (n := 15) dX10_street_12 fp_X10_41 s_136 rfl ⟨rfl, rfl⟩ rfl ?_
  refine AW.aload_n (n := 16) dX10_street_15 rfl rfl ?_
  refine AW.iconst (n := 17) (v := 0) dX10_street_16 rfl rfl ?_
  refine AW.pi (n := 20) dX10_street_17 fp_X10_106 s_136 rfl ⟨rfl, rfl⟩ rfl ?_
  refine AW.aload_n (n := 21) dX10_street_20 rfl rfl ?_
  refine AW.iconst (n := 22) (v := 0) dX10_street_21 rfl rfl ?_
  refine AW.pi (n := 25) dX10_street_22 fp_X10_109 s_136 rfl ⟨rfl, rfl⟩ rfl ?_
  refine AW.iconst (n := 26) (v := 3) dX10_street_25 rfl rfl ?_
  refine AW.ist1 (n := 27) dX10_street_26 (Nat.le_of_ble_eq_true rfl) rfl rfl ?_
  rw [qStreet_end]
  refine l_X10_str27 (μ := mu (mu (mu (mu (mu μ 136 15 0) 136 17 0) 136 18 (-1)) 136 9 0) 136 12 0) ?_ 4 0 (by omega) (by omega)
  refine l_X10_str46 241 240 _ ⟨l, 0, ?_, hl9, ?_, by omega⟩ (by omega) (by omega) ⟨⟨0, ?_, by omega⟩, 0, by omega, ?_⟩ (by omega)
  · rw [mR0_ne (by decide)]; simp [mu_at, hl]
  · rw [mR0_ne (by decide)]; simp [mu_at, nI_0]
  · rw [mR0_ne (by decide)]; simp [mu_at, nI_0]
  · rw [mR0_ne (by decide)]; simp [mu_at, nI_0]
