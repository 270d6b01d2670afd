set_option maxHeartbeats 4000000 in
set_option maxRecDepth 100000 in
theorem l_X9_bath {μ : Me} {e : Nat × (Nat → aC)} {s wa wb a b : Int32} {mm : Nat} (hm1 : 1 ≤ mm) (hm2 : mm ≤ 99) : ∀ (m t : Nat) (L8 L9 : Option Value), 720 = t + m → AW none 5 0 0 mX9_bath 0 0 109 [some (.ref 0), some (.int s), some (.int wa), some (.int wb), some (.int (nI mm)), some (.int a), some (.int b), some (.int (nI t)), L8, L9] [] (wS μ e) (a_eq (some (.int (sBath a b (nI mm) m t))) (wS μ e)) := by
  have e7 : (719 : Int32) - nI mm = nI (719 - mm) := pk_sub (a := 719) (by omega)
  intro m
  induction m with
  | zero =>
    intro t L8 L9 hm
    refine AW.iload (n := 111) dX9_bath_109 rfl rfl ?_
    refine AW.sipush (n := 114) (v := 719) dX9_bath_111 rfl rfl ?_
    refine AW.iload (n := 116) dX9_bath_114 rfl rfl ?_
    refine AW.isub (n := 117) dX9_bath_116 rfl ?_
    refine AW.icmp_gt (n := 120) (t := 172) dX9_bath_117 rfl rfl (fun h117 => ?_) (fun h117 => ?_)
    · refine AW.iconst (n := 173) (v := -1) dX9_bath_172 rfl rfl ?_
      refine AW.iret dX9_bath_173 rfl rfl (Nat.zero_le _) (Nat.zero_le _) ?_
      exact ⟨rfl, rfl⟩
    · exact absurd (by rw [e7]; exact nI_lt (by omega) (by omega)) h117
  | succ m ih =>
    intro t L8 L9 hm
    refine AW.iload (n := 111) dX9_bath_109 rfl rfl ?_
    refine AW.sipush (n := 114) (v := 719) dX9_bath_111 rfl rfl ?_
    refine AW.iload (n := 116) dX9_bath_114 rfl rfl ?_
    refine AW.isub (n := 117) dX9_bath_116 rfl ?_
    refine AW.icmp_gt (n := 120) (t := 172) dX9_bath_117 rfl rfl (fun h117 => ?_) (fun h117 => ?_)
    · refine AW.iconst (n := 173) (v := -1) dX9_bath_172 rfl rfl ?_
      refine AW.iret dX9_bath_173 rfl rfl (Nat.zero_le _) (Nat.zero_le _) ?_
      exact ⟨by rw [sBath, if_pos h117], rfl⟩
    · refine AW.bipush (n := 122) (v := 60) dX9_bath_120 rfl rfl ?_
      refine AW.iload (n := 124) dX9_bath_122 rfl rfl ?_
      refine AW.imul (n := 125) dX9_bath_124 rfl ?_
      refine AW.ist8 (n := 127) dX9_bath_125 (Nat.le_of_ble_eq_true rfl) rfl rfl ?_
      refine AW.bipush (n := 129) (v := 60) dX9_bath_127 rfl rfl ?_
      refine AW.iload (n := 131) dX9_bath_129 rfl rfl ?_
      refine AW.iload (n := 133) dX9_bath_131 rfl rfl ?_
      refine AW.iadd (n := 134) dX9_bath_133 rfl ?_
      refine AW.imul (n := 135) dX9_bath_134 rfl ?_
      refine AW.iconst (n := 136) (v := 1) dX9_bath_135 rfl rfl ?_
      refine AW.isub (n := 137) dX9_bath_136 rfl ?_
      refine AW.ist9 (n := 139) dX9_bath_137 (Nat.le_of_ble_eq_true rfl) rfl rfl ?_
      refine AW.iload (n := 141) dX9_bath_139 rfl rfl ?_
      refine AW.iload (n := 143) dX9_bath_141 rfl rfl ?_
      refine AW.iload (n := 145) dX9_bath_143 rfl rfl ?_
      refine AW.es3i (Mc := mX9_within) (n := 148) dX9_bath_145 lk_X9_79 k_mX9_within (c_X9_within) (Nat.le_of_ble_eq_true rfl) (by decide) (Nat.zero_le _) (Nat.zero_le _) rfl ?_
      refine AW.bif_ne (n := 151) (t := 166) dX9_bath_148 rfl rfl (fun h148 => ?_) (fun h148 => ?_)
      · refine AW.inc7 (n := 169) (1) dX9_bath_166 rfl (Nat.le_of_ble_eq_true rfl) rfl rfl ?_
        refine AW.goto (t := 109) dX9_bath_169 rfl ?_
        rw [nI_1]
        rw [sBath, if_neg h117, if_pos h148]
        exact ih (t + 1) _ _ (by omega)
      · refine AW.iload (n := 153) dX9_bath_151 rfl rfl ?_
        refine AW.iload (n := 155) dX9_bath_153 rfl rfl ?_
        refine AW.iload (n := 157) dX9_bath_155 rfl rfl ?_
        refine AW.es3i (Mc := mX9_within) (n := 160) dX9_bath_157 lk_X9_79 k_mX9_within (c_X9_within) (Nat.le_of_ble_eq_true rfl) (by decide) (Nat.zero_le _) (Nat.zero_le _) rfl ?_
        refine AW.bif_ne (n := 163) (t := 166) dX9_bath_160 rfl rfl (fun h160 => ?_) (fun h160 => ?_)
        · refine AW.inc7 (n := 169) (1) dX9_bath_166 rfl (Nat.le_of_ble_eq_true rfl) rfl rfl ?_
          refine AW.goto (t := 109) dX9_bath_169 rfl ?_
          rw [nI_1]
          rw [sBath, if_neg h117, if_neg (by rw [h148]; decide), if_pos h160]
          exact ih (t + 1) _ _ (by omega)
        · refine AW.iload (n := 165) dX9_bath_163 rfl rfl ?_
          refine AW.iret dX9_bath_165 rfl rfl (Nat.zero_le _) (Nat.zero_le _) ?_
          exact ⟨by rw [sBath, if_neg h117, if_neg (by rw [h148]; decide), if_neg (by rw [h160]; decide)], rfl⟩
set_option maxHeartbeats 4000000 in
set_option maxRecDepth 100000 in
theorem c_X9_bath {μ : Me} {e : Nat × (Nat → aC)} {n dn : Nat} {s wa wb m : Int32} (ho : sOk μ 10 n dn) : AC 5 0 0 mX9_bath [.ref 0, .int s, .int wa, .int wb, .int m] (wS μ e) (a_eq (some (.int ((oBath μ s wa wb m).1))) (wS ((oBath μ s wa wb m).2) e)) := by
  refine AC.of (L := [some (.ref 0), some (.int s), some (.int wa), some (.int wb), some (.int m), none, none, none, none, none]) (j := 5) (by decide) rfl (Nat.le_of_ble_eq_true rfl) ?_
  refine AW.aload_n (n := 1) dX9_bath_0 rfl rfl ?_
  refine AW.gr (n := 4) dX9_bath_1 fl_X9_23 s_0 rfl rfl ?_
  refine AW.iload_n (n := 5) dX9_bath_4 rfl rfl ?_
  refine AW.ev1i (Mc := mX6_has) (n := 8) dX9_bath_5 lk_X9_150 k_mX6_has s_10 rfl rfl (c_X6_has sS_10) (Nat.le_of_ble_eq_true rfl) (by decide) (Nat.zero_le _) (Nat.zero_le _) rfl ?_
  refine AW.bif_eq (n := 11) (t := 33) dX9_bath_8 rfl rfl (fun h8 => ?_) (fun h8 => ?_)
  · refine AW.ldc (n := 35) dX9_bath_33 kc_X9_153 rfl ?_
    refine AW.iret dX9_bath_35 rfl rfl (Nat.zero_le _) (Nat.zero_le _) ?_
    exact ⟨by simp [oBath, h8], by simp [oBath, h8]⟩
  · refine AW.aload_n (n := 12) dX9_bath_11 rfl rfl ?_
    refine AW.gr (n := 15) dX9_bath_12 fl_X9_23 s_0 rfl rfl ?_
    refine AW.iload_n (n := 16) dX9_bath_15 rfl rfl ?_
    refine AW.ev1i (Mc := mX6_isWay) (n := 19) dX9_bath_16 lk_X9_218 k_mX6_isWay s_10 rfl rfl (c_X6_isWay sS_10 ho.1 ho.2.1) (Nat.le_of_ble_eq_true rfl) (by decide) (Nat.zero_le _) (Nat.zero_le _) rfl ?_
    refine AW.bif_eq (n := 22) (t := 33) dX9_bath_19 rfl rfl (fun h19 => ?_) (fun h19 => ?_)
    · refine AW.ldc (n := 35) dX9_bath_33 kc_X9_153 rfl ?_
      refine AW.iret dX9_bath_35 rfl rfl (Nat.zero_le _) (Nat.zero_le _) ?_
      exact ⟨by simp [oBath, h8, h19], by simp [oBath, h8, h19]⟩
    · refine AW.aload_n (n := 23) dX9_bath_22 rfl rfl ?_
      refine AW.gr (n := 26) dX9_bath_23 fl_X9_23 s_0 rfl rfl ?_
      refine AW.iload_n (n := 27) dX9_bath_26 rfl rfl ?_
      refine AW.ev1i (Mc := mX6_isWay) (n := 30) dX9_bath_27 lk_X9_218 k_mX6_isWay s_10 rfl rfl (c_X6_isWay sS_10 ho.1 ho.2.1) (Nat.le_of_ble_eq_true rfl) (by decide) (Nat.zero_le _) (Nat.zero_le _) rfl ?_
      refine AW.bif_ne (n := 33) (t := 36) dX9_bath_30 rfl rfl (fun h30 => ?_) (fun h30 => ?_)
      · refine AW.iload (n := 38) dX9_bath_36 rfl rfl ?_
        refine AW.iconst (n := 39) (v := 1) dX9_bath_38 rfl rfl ?_
        refine AW.bipush (n := 41) (v := 99) dX9_bath_39 rfl rfl ?_
        refine AW.es3i (Mc := mX9_within) (n := 44) dX9_bath_41 lk_X9_79 k_mX9_within (c_X9_within) (Nat.le_of_ble_eq_true rfl) (by decide) (Nat.zero_le _) (Nat.zero_le _) rfl ?_
        refine AW.bif_ne (n := 47) (t := 50) dX9_bath_44 rfl rfl (fun h44 => ?_) (fun h44 => ?_)
        · obtain ⟨j, hj, rfl⟩ := sHas_j ho.1 ho.2.1 h8
          have h7 := ho.2.1
          have hjc := cl_nI (show j < 2147483648 by omega)
          refine AW.aload_n (n := 51) dX9_bath_50 rfl rfl ?_
          refine AW.gr (n := 54) dX9_bath_51 fl_X9_39 s_0 rfl rfl ?_
          refine AW.aload_n (n := 55) dX9_bath_54 rfl rfl ?_
          refine AW.gr (n := 58) dX9_bath_55 fl_X9_23 s_0 rfl rfl ?_
          refine AW.iload_n (n := 59) dX9_bath_58 rfl rfl ?_
          refine AW.aload_n (n := 60) dX9_bath_59 rfl rfl ?_
          refine AW.gr (n := 63) dX9_bath_60 fl_X9_29 s_0 rfl rfl ?_
          refine AW.iconst (n := 64) (v := 0) dX9_bath_63 rfl rfl ?_
          refine AW.ev4v (Mc := mX8_run) (n := 67) dX9_bath_64 lk_X9_208 k_mX8_run s_23 rfl rfl (c_X8_run sD_17 ho) (Nat.le_of_ble_eq_true rfl) (by decide) (Nat.zero_le _) (Nat.zero_le _) rfl ?_
          refine AW.aload_n (n := 68) dX9_bath_67 rfl rfl ?_
          refine AW.gr (n := 71) dX9_bath_68 fl_X9_39 s_0 rfl rfl ?_
          refine AW.gr (n := 74) dX9_bath_71 fl_X9_212 s_23 rfl rfl ?_
          refine AW.iload_n (n := 75) dX9_bath_74 rfl rfl ?_
          refine AW.ia (n := 76) j dX9_bath_75 s_27 rfl (by omega) (by decide) rfl ?_
          refine AW.ist5 (n := 78) dX9_bath_76 (Nat.le_of_ble_eq_true rfl) rfl rfl ?_
          refine AW.aload_n (n := 79) dX9_bath_78 rfl rfl ?_
          refine AW.gr (n := 82) dX9_bath_79 fl_X9_39 s_0 rfl rfl ?_
          refine AW.aload_n (n := 83) dX9_bath_82 rfl rfl ?_
          refine AW.gr (n := 86) dX9_bath_83 fl_X9_23 s_0 rfl rfl ?_
          refine AW.iload_n (n := 87) dX9_bath_86 rfl rfl ?_
          refine AW.aload_n (n := 88) dX9_bath_87 rfl rfl ?_
          refine AW.gr (n := 91) dX9_bath_88 fl_X9_29 s_0 rfl rfl ?_
          refine AW.iconst (n := 92) (v := 0) dX9_bath_91 rfl rfl ?_
          refine AW.ev4v (Mc := mX8_run) (n := 95) dX9_bath_92 lk_X9_208 k_mX8_run s_23 rfl rfl (c_X8_run sD_17 (ho.of (sRun_ne (by decide)))) (Nat.le_of_ble_eq_true rfl) (by decide) (Nat.zero_le _) (Nat.zero_le _) rfl ?_
          refine AW.aload_n (n := 96) dX9_bath_95 rfl rfl ?_
          refine AW.gr (n := 99) dX9_bath_96 fl_X9_39 s_0 rfl rfl ?_
          refine AW.gr (n := 102) dX9_bath_99 fl_X9_212 s_23 rfl rfl ?_
          refine AW.iload_n (n := 103) dX9_bath_102 rfl rfl ?_
          refine AW.ia (n := 104) j dX9_bath_103 s_27 rfl (by omega) (by decide) rfl ?_
          refine AW.ist6 (n := 106) dX9_bath_104 (Nat.le_of_ble_eq_true rfl) rfl rfl ?_
          refine AW.iconst (n := 107) (v := 0) dX9_bath_106 rfl rfl ?_
          refine AW.ist7 (n := 109) dX9_bath_107 (Nat.le_of_ble_eq_true rfl) rfl rfl ?_
          obtain ⟨mm, hm1, hm2, rfl⟩ := win_j (a := 1) (b := 99) (by decide) h44 (by decide)
          have h := l_X9_bath (e := e) (s := nI j) (wa := wa) (wb := wb) (a := sRun μ wa 17 0 27 j) (b := sRun (sRun μ wa 17 0) wb 17 0 27 j) (μ := sRun (sRun μ wa 17 0) wb 17 0) hm1 hm2 720 0 none none rfl
          simp only [oBath, h8, h19, h30, h44, if_true, hjc]
          exact h
        · refine AW.ldc (n := 49) dX9_bath_47 kc_X9_83 rfl ?_
          refine AW.iret dX9_bath_49 rfl rfl (Nat.zero_le _) (Nat.zero_le _) ?_
          exact ⟨by simp [oBath, h8, h19, h30, h44], by simp [oBath, h8, h19, h30, h44]⟩
      · refine AW.ldc (n := 35) dX9_bath_33 kc_X9_153 rfl ?_
        refine AW.iret dX9_bath_35 rfl rfl (Nat.zero_le _) (Nat.zero_le _) ?_
        exact ⟨by simp [oBath, h8, h19, h30], by simp [oBath, h8, h19, h30]⟩
set_option maxHeartbeats 4000000 in
set_option maxRecDepth 100000 in
theorem c_X9_pretends {μ : Me} {e : Nat × (Nat → aC)} {n dn : Nat} {way h w : Int32} (ho : sOk μ 10 n dn) : AC 5 0 0 mX9_pretends [.ref 0, .int way, .int h, .int w] (wS μ e) (a_eq (some (.int ((oPretends μ way h w).1))) (wS ((oPretends μ way h w).2) e)) := by
  refine AC.of (L := [some (.ref 0), some (.int way), some (.int h), some (.int w), none, none, none]) (j := 3) (by decide) rfl (Nat.le_of_ble_eq_true rfl) ?_
  refine AW.aload_n (n := 1) dX9_pretends_0 rfl rfl ?_
  refine AW.iload_n (n := 2) dX9_pretends_1 rfl rfl ?_
  refine AW.iload_n (n := 3) dX9_pretends_2 rfl rfl ?_
  refine AW.ev2i (Mc := mX9_refusalOfTrip) (n := 6) dX9_pretends_3 lk_X9_179 k_mX9_refusalOfTrip s_0 rfl rfl (c_X9_refusalOfTrip ho.1 ho.2.1) (Nat.le_of_ble_eq_true rfl) (by decide) (Nat.zero_le _) (Nat.zero_le _) rfl ?_
  refine AW.ist4 (n := 8) dX9_pretends_6 (Nat.le_of_ble_eq_true rfl) rfl rfl ?_
  refine AW.iload (n := 10) dX9_pretends_8 rfl rfl ?_
  refine AW.if_eq (n := 13) (t := 16) dX9_pretends_10 rfl rfl (fun h10 => ?_) (fun h10 => ?_)
  · refine AW.iload_n (n := 17) dX9_pretends_16 rfl rfl ?_
    refine AW.iconst (n := 18) (v := 0) dX9_pretends_17 rfl rfl ?_
    refine AW.iconst (n := 19) (v := 1) dX9_pretends_18 rfl rfl ?_
    refine AW.es3i (Mc := mX9_within) (n := 22) dX9_pretends_19 lk_X9_79 k_mX9_within (c_X9_within) (Nat.le_of_ble_eq_true rfl) (by decide) (Nat.zero_le _) (Nat.zero_le _) rfl ?_
    refine AW.bif_ne (n := 25) (t := 28) dX9_pretends_22 rfl rfl (fun h22 => ?_) (fun h22 => ?_)
    · refine AW.aload_n (n := 29) dX9_pretends_28 rfl rfl ?_
      refine AW.gr (n := 32) dX9_pretends_29 fl_X9_39 s_0 rfl rfl ?_
      refine AW.aload_n (n := 33) dX9_pretends_32 rfl rfl ?_
      refine AW.gr (n := 36) dX9_pretends_33 fl_X9_23 s_0 rfl rfl ?_
      refine AW.iload_n (n := 37) dX9_pretends_36 rfl rfl ?_
      refine AW.aload_n (n := 38) dX9_pretends_37 rfl rfl ?_
      refine AW.gr (n := 41) dX9_pretends_38 fl_X9_29 s_0 rfl rfl ?_
      refine AW.iconst (n := 42) (v := 0) dX9_pretends_41 rfl rfl ?_
      refine AW.ev4v (Mc := mX8_run) (n := 45) dX9_pretends_42 lk_X9_208 k_mX8_run s_23 rfl rfl (c_X8_run sD_17 ho) (Nat.le_of_ble_eq_true rfl) (by decide) (Nat.zero_le _) (Nat.zero_le _) rfl ?_
      refine AW.aload_n (n := 46) dX9_pretends_45 rfl rfl ?_
      refine AW.gr (n := 49) dX9_pretends_46 fl_X9_39 s_0 rfl rfl ?_
      refine AW.gi (n := 52) dX9_pretends_49 fl_X9_190 s_23 rfl rfl ?_
      refine AW.ist5 (n := 54) dX9_pretends_52 (Nat.le_of_ble_eq_true rfl) rfl rfl ?_
      refine AW.aload_n (n := 55) dX9_pretends_54 rfl rfl ?_
      refine AW.gr (n := 58) dX9_pretends_55 fl_X9_39 s_0 rfl rfl ?_
      refine AW.gi (n := 61) dX9_pretends_58 fl_X9_236 s_23 rfl rfl ?_
      refine AW.ist6 (n := 63) dX9_pretends_61 (Nat.le_of_ble_eq_true rfl) rfl rfl ?_
      refine AW.aload_n (n := 64) dX9_pretends_63 rfl rfl ?_
      refine AW.gr (n := 67) dX9_pretends_64 fl_X9_39 s_0 rfl rfl ?_
      refine AW.aload_n (n := 68) dX9_pretends_67 rfl rfl ?_
      refine AW.gr (n := 71) dX9_pretends_68 fl_X9_23 s_0 rfl rfl ?_
      refine AW.iload_n (n := 72) dX9_pretends_71 rfl rfl ?_
      refine AW.aload_n (n := 73) dX9_pretends_72 rfl rfl ?_
      refine AW.gr (n := 76) dX9_pretends_73 fl_X9_29 s_0 rfl rfl ?_
      refine AW.iload_n (n := 77) dX9_pretends_76 rfl rfl ?_
      refine AW.ev4v (Mc := mX8_run) (n := 80) dX9_pretends_77 lk_X9_208 k_mX8_run s_23 rfl rfl (c_X8_run sD_17 (ho.of (sRun_ne (by decide)))) (Nat.le_of_ble_eq_true rfl) (by decide) (Nat.zero_le _) (Nat.zero_le _) rfl ?_
      refine AW.iload_n (n := 81) dX9_pretends_80 rfl rfl ?_
      refine AW.if_ne (n := 84) (t := 97) dX9_pretends_81 rfl rfl (fun h81 => ?_) (fun h81 => ?_)
      · refine AW.iload (n := 99) dX9_pretends_97 rfl rfl ?_
        refine AW.aload_n (n := 100) dX9_pretends_99 rfl rfl ?_
        refine AW.gr (n := 103) dX9_pretends_100 fl_X9_39 s_0 rfl rfl ?_
        refine AW.gi (n := 106) dX9_pretends_103 fl_X9_236 s_23 rfl rfl ?_
        refine AW.isub (n := 107) dX9_pretends_106 rfl ?_
        refine AW.bipush (n := 109) (v := 100) dX9_pretends_107 rfl rfl ?_
        refine AW.iadd (n := 110) dX9_pretends_109 rfl ?_
        refine AW.iret dX9_pretends_110 rfl rfl (Nat.zero_le _) (Nat.zero_le _) ?_
        exact ⟨by simp [oPretends, h10, h22, h81], by simp [oPretends, h10, h22, h81]⟩
      · refine AW.iload (n := 86) dX9_pretends_84 rfl rfl ?_
        refine AW.aload_n (n := 87) dX9_pretends_86 rfl rfl ?_
        refine AW.gr (n := 90) dX9_pretends_87 fl_X9_39 s_0 rfl rfl ?_
        refine AW.gi (n := 93) dX9_pretends_90 fl_X9_190 s_23 rfl rfl ?_
        refine AW.isub (n := 94) dX9_pretends_93 rfl ?_
        refine AW.goto (t := 110) dX9_pretends_94 rfl ?_
        refine AW.iret dX9_pretends_110 rfl rfl (Nat.zero_le _) (Nat.zero_le _) ?_
        exact ⟨by rw [oPretends, if_pos h10, if_pos h22, if_pos h81], by rw [oPretends, if_pos h10, if_pos h22]⟩
    · refine AW.ldc (n := 27) dX9_pretends_25 kc_X9_83 rfl ?_
      refine AW.iret dX9_pretends_27 rfl rfl (Nat.zero_le _) (Nat.zero_le _) ?_
      exact ⟨by simp [oPretends, h10, h22], by simp [oPretends, h10, h22]⟩
  · refine AW.iload (n := 15) dX9_pretends_13 rfl rfl ?_
    refine AW.iret dX9_pretends_15 rfl rfl (Nat.zero_le _) (Nat.zero_le _) ?_
    exact ⟨by simp [oPretends, h10], by simp [oPretends, h10]⟩
set_option maxHeartbeats 4000000 in
set_option maxRecDepth 100000 in
theorem l_X9_locker {μ : Me} {e : Nat × (Nat → aC)} {n : Nat} {way d w : Int32} (hn : μ 10 3 = nI n) (h7 : n ≤ 7) : ∀ (m : Nat) (y : Nat) (L7 : Option Value), 100 - y < m → y ≤ 100 → AW none 5 0 0 mX9_locker 0 0 62 [some (.ref 0), some (.int way), some (.int d), some (.int w), some (.int (sLock (μ 11) (μ 23 4) d n y).1), some (.int (sLock (μ 11) (μ 23 4) d n y).2), some (.int (nI y)), L7] [] (wS μ e) (a_eq (some (.int (if w = 0 then (sLock (μ 11) (μ 23 4) d n 100).1 else (sLock (μ 11) (μ 23 4) d n 100).2))) (wS μ e)) := by
  intro m
  induction m with
  | zero => intro y L7 hm; exact absurd hm (Nat.not_lt_zero _)
  | succ m ih =>
    intro y L7 hm hc
    refine AW.iload (n := 64) dX9_locker_62 rfl rfl ?_
    refine AW.bipush (n := 66) (v := 100) dX9_locker_64 rfl rfl ?_
    refine AW.icmp_ge (n := 69) (t := 109) dX9_locker_66 rfl rfl (fun h66 => ?_) (fun h66 => ?_)
    · have hi : 100 ≤ y := le_lit (b := 100) (x := nI y) rfl (by omega) (by omega) h66
      have he : y = 100 := by omega
      subst he
      refine AW.iload_n (n := 110) dX9_locker_109 rfl rfl ?_
      refine AW.if_ne (n := 113) (t := 118) dX9_locker_110 rfl rfl (fun h110 => ?_) (fun h110 => ?_)
      · refine AW.iload (n := 120) dX9_locker_118 rfl rfl ?_
        refine AW.iret dX9_locker_120 rfl rfl (Nat.zero_le _) (Nat.zero_le _) ?_
        exact ⟨by simp [h110], rfl⟩
      · refine AW.iload (n := 115) dX9_locker_113 rfl rfl ?_
        refine AW.goto (t := 120) dX9_locker_115 rfl ?_
        refine AW.iret dX9_locker_120 rfl rfl (Nat.zero_le _) (Nat.zero_le _) ?_
        exact ⟨by simp [h110], rfl⟩
    · have hi : y < 100 := nle_lit (b := 100) (x := nI y) rfl (by omega) (by omega) h66
      refine AW.aload_n (n := 70) dX9_locker_69 rfl rfl ?_
      refine AW.gr (n := 73) dX9_locker_70 fl_X9_23 s_0 rfl rfl ?_
      refine AW.aload_n (n := 74) dX9_locker_73 rfl rfl ?_
      refine AW.gr (n := 77) dX9_locker_74 fl_X9_39 s_0 rfl rfl ?_
      refine AW.gi (n := 80) dX9_locker_77 fl_X9_237 s_23 rfl rfl ?_
      refine AW.iload (n := 82) dX9_locker_80 rfl rfl ?_
      refine AW.iload_n (n := 83) dX9_locker_82 rfl rfl ?_
      refine AW.ev3i (Mc := mX6_countNear) (n := 86) dX9_locker_83 lk_X9_240 k_mX6_countNear s_10 rfl rfl (c_X6_countNear sS_10 hn h7) (Nat.le_of_ble_eq_true rfl) (by decide) (Nat.zero_le _) (Nat.zero_le _) rfl ?_
      refine AW.ist7 (n := 88) dX9_locker_86 (Nat.le_of_ble_eq_true rfl) rfl rfl ?_
      refine AW.iload (n := 90) dX9_locker_88 rfl rfl ?_
      refine AW.iload (n := 92) dX9_locker_90 rfl rfl ?_
      refine AW.icmp_le (n := 95) (t := 103) dX9_locker_92 rfl rfl (fun h92 => ?_) (fun h92 => ?_)
      · refine AW.inc6 (n := 106) (1) dX9_locker_103 rfl (Nat.le_of_ble_eq_true rfl) rfl rfl ?_
        refine AW.goto (t := 62) dX9_locker_106 rfl ?_
        rw [nI_1]
        have h9 := fun L7 => ih (y + 1) L7 (by omega) (by omega)
        have hq : sNear (μ 11) (μ 23 4) (nI y) d n ≤ (sLock (μ 11) (μ 23 4) d n y).2 := h92
        simp only [sLock, if_pos hq] at h9
        exact h9 _
      · refine AW.iload (n := 97) dX9_locker_95 rfl rfl ?_
        refine AW.ist5 (n := 99) dX9_locker_97 (Nat.le_of_ble_eq_true rfl) rfl rfl ?_
        refine AW.iload (n := 101) dX9_locker_99 rfl rfl ?_
        refine AW.ist4 (n := 103) dX9_locker_101 (Nat.le_of_ble_eq_true rfl) rfl rfl ?_
        refine AW.inc6 (n := 106) (1) dX9_locker_103 rfl (Nat.le_of_ble_eq_true rfl) rfl rfl ?_
        refine AW.goto (t := 62) dX9_locker_106 rfl ?_
        rw [nI_1]
        have h9 := fun L7 => ih (y + 1) L7 (by omega) (by omega)
        have hq : ¬ sNear (μ 11) (μ 23 4) (nI y) d n ≤ (sLock (μ 11) (μ 23 4) d n y).2 := h92
        simp only [sLock, if_neg hq] at h9
        exact h9 _
set_option maxHeartbeats 4000000 in
set_option maxRecDepth 100000 in
theorem c_X9_locker {μ : Me} {e : Nat × (Nat → aC)} {n dn : Nat} {way d w : Int32} (ho : sOk μ 10 n dn) : AC 5 0 0 mX9_locker [.ref 0, .int way, .int d, .int w] (wS μ e) (a_eq (some (.int ((oLocker μ n way d w).1))) (wS ((oLocker μ n way d w).2) e)) := by
  refine AC.of (L := [some (.ref 0), some (.int way), some (.int d), some (.int w), none, none, none, none]) (j := 4) (by decide) rfl (Nat.le_of_ble_eq_true rfl) ?_
  refine AW.aload_n (n := 1) dX9_locker_0 rfl rfl ?_
  refine AW.gr (n := 4) dX9_locker_1 fl_X9_23 s_0 rfl rfl ?_
  refine AW.iload_n (n := 5) dX9_locker_4 rfl rfl ?_
  refine AW.ev1i (Mc := mX6_isWay) (n := 8) dX9_locker_5 lk_X9_218 k_mX6_isWay s_10 rfl rfl (c_X6_isWay sS_10 ho.1 ho.2.1) (Nat.le_of_ble_eq_true rfl) (by decide) (Nat.zero_le _) (Nat.zero_le _) rfl ?_
  refine AW.bif_ne (n := 11) (t := 14) dX9_locker_8 rfl rfl (fun h8 => ?_) (fun h8 => ?_)
  · refine AW.iload_n (n := 15) dX9_locker_14 rfl rfl ?_
    refine AW.iconst (n := 16) (v := 0) dX9_locker_15 rfl rfl ?_
    refine AW.bipush (n := 18) (v := 99) dX9_locker_16 rfl rfl ?_
    refine AW.es3i (Mc := mX9_within) (n := 21) dX9_locker_18 lk_X9_79 k_mX9_within (c_X9_within) (Nat.le_of_ble_eq_true rfl) (by decide) (Nat.zero_le _) (Nat.zero_le _) rfl ?_
    refine AW.bif_eq (n := 24) (t := 33) dX9_locker_21 rfl rfl (fun h21 => ?_) (fun h21 => ?_)
    · refine AW.ldc (n := 35) dX9_locker_33 kc_X9_83 rfl ?_
      refine AW.iret dX9_locker_35 rfl rfl (Nat.zero_le _) (Nat.zero_le _) ?_
      exact ⟨by simp [oLocker, h8, h21], by simp [oLocker, h8, h21]⟩
    · refine AW.iload_n (n := 25) dX9_locker_24 rfl rfl ?_
      refine AW.iconst (n := 26) (v := 0) dX9_locker_25 rfl rfl ?_
      refine AW.iconst (n := 27) (v := 1) dX9_locker_26 rfl rfl ?_
      refine AW.es3i (Mc := mX9_within) (n := 30) dX9_locker_27 lk_X9_79 k_mX9_within (c_X9_within) (Nat.le_of_ble_eq_true rfl) (by decide) (Nat.zero_le _) (Nat.zero_le _) rfl ?_
      refine AW.bif_ne (n := 33) (t := 36) dX9_locker_30 rfl rfl (fun h30 => ?_) (fun h30 => ?_)
      · refine AW.aload_n (n := 37) dX9_locker_36 rfl rfl ?_
        refine AW.gr (n := 40) dX9_locker_37 fl_X9_39 s_0 rfl rfl ?_
        refine AW.aload_n (n := 41) dX9_locker_40 rfl rfl ?_
        refine AW.gr (n := 44) dX9_locker_41 fl_X9_23 s_0 rfl rfl ?_
        refine AW.iload_n (n := 45) dX9_locker_44 rfl rfl ?_
        refine AW.aload_n (n := 46) dX9_locker_45 rfl rfl ?_
        refine AW.gr (n := 49) dX9_locker_46 fl_X9_29 s_0 rfl rfl ?_
        refine AW.iconst (n := 50) (v := 0) dX9_locker_49 rfl rfl ?_
        refine AW.ev4v (Mc := mX8_run) (n := 53) dX9_locker_50 lk_X9_208 k_mX8_run s_23 rfl rfl (c_X8_run sD_17 ho) (Nat.le_of_ble_eq_true rfl) (by decide) (Nat.zero_le _) (Nat.zero_le _) rfl ?_
        refine AW.iconst (n := 54) (v := 0) dX9_locker_53 rfl rfl ?_
        refine AW.ist4 (n := 56) dX9_locker_54 (Nat.le_of_ble_eq_true rfl) rfl rfl ?_
        refine AW.iconst (n := 57) (v := 0) dX9_locker_56 rfl rfl ?_
        refine AW.ist5 (n := 59) dX9_locker_57 (Nat.le_of_ble_eq_true rfl) rfl rfl ?_
        refine AW.iconst (n := 60) (v := 0) dX9_locker_59 rfl rfl ?_
        refine AW.ist6 (n := 62) dX9_locker_60 (Nat.le_of_ble_eq_true rfl) rfl rfl ?_
        have h := l_X9_locker (e := e) (way := way) (d := d) (w := w) (n := n) (μ := sRun μ way 17 0) (by rw [sRun_ne (by decide)]; exact ho.1) ho.2.1 101 0 none (by omega) (by omega)
        rw [show sRun μ way 17 0 11 = μ 11 from sRun_ne (by decide)] at h
        simp only [oLocker, h8, h21, h30, if_true]
        exact h
      · refine AW.ldc (n := 35) dX9_locker_33 kc_X9_83 rfl ?_
        refine AW.iret dX9_locker_35 rfl rfl (Nat.zero_le _) (Nat.zero_le _) ?_
        exact ⟨by simp [oLocker, h8, h21, h30], by simp [oLocker, h8, h21, h30]⟩
  · refine AW.ldc (n := 13) dX9_locker_11 kc_X9_153 rfl ?_
    refine AW.iret dX9_locker_13 rfl rfl (Nat.zero_le _) (Nat.zero_le _) ?_
    exact ⟨by simp [oLocker, h8], by simp [oLocker, h8]⟩
set_option maxHeartbeats 4000000 in
set_option maxRecDepth 100000 in
theorem c_X9_bears {μ : Me} {e : Nat × (Nat → aC)} {n : Nat} {s : Int32} (hn : μ 10 3 = nI n) (h7 : n ≤ 7) : AC 1 0 0 mX9_bears [.ref 0, .int s] (wS μ e) (a_eq (some (.int (oBears μ s))) (wS μ e)) := by
  refine AC.of (L := [some (.ref 0), some (.int s)]) (j := 0) (by decide) rfl (Nat.le_of_ble_eq_true rfl) ?_
  refine AW.aload_n (n := 1) dX9_bears_0 rfl rfl ?_
  refine AW.gr (n := 4) dX9_bears_1 fl_X9_23 s_0 rfl rfl ?_
  refine AW.iload_n (n := 5) dX9_bears_4 rfl rfl ?_
  refine AW.ev1i (Mc := mX6_has) (n := 8) dX9_bears_5 lk_X9_150 k_mX6_has s_10 rfl rfl (c_X6_has sS_10) (Nat.le_of_ble_eq_true rfl) (by decide) (Nat.zero_le _) (Nat.zero_le _) rfl ?_
  refine AW.bif_eq (n := 11) (t := 33) dX9_bears_8 rfl rfl (fun h8 => ?_) (fun h8 => ?_)
  · refine AW.ldc (n := 35) dX9_bears_33 kc_X9_153 rfl ?_
    refine AW.iret dX9_bears_35 rfl rfl (Nat.zero_le _) (Nat.zero_le _) ?_
    exact ⟨by simp [oBears, h8], rfl⟩
  · obtain ⟨j, hj, rfl⟩ := sHas_j hn h7 h8
    have hjc := cl_nI (show j < 2147483648 by omega)
    refine AW.aload_n (n := 12) dX9_bears_11 rfl rfl ?_
    refine AW.gr (n := 15) dX9_bears_12 fl_X9_23 s_0 rfl rfl ?_
    refine AW.gr (n := 18) dX9_bears_15 fl_X9_169 s_10 rfl rfl ?_
    refine AW.iload_n (n := 19) dX9_bears_18 rfl rfl ?_
    refine AW.ia (n := 20) j dX9_bears_19 s_15 rfl (by omega) (by decide) rfl ?_
    refine AW.aload_n (n := 21) dX9_bears_20 rfl rfl ?_
    refine AW.gr (n := 24) dX9_bears_21 fl_X9_29 s_0 rfl rfl ?_
    refine AW.gr (n := 27) dX9_bears_24 fl_X9_172 s_17 rfl rfl ?_
    refine AW.iload_n (n := 28) dX9_bears_27 rfl rfl ?_
    refine AW.ia (n := 29) j dX9_bears_28 s_19 rfl (by omega) (by decide) rfl ?_
    refine AW.isub (n := 30) dX9_bears_29 rfl ?_
    refine AW.goto (t := 35) dX9_bears_30 rfl ?_
    refine AW.iret dX9_bears_35 rfl rfl (Nat.zero_le _) (Nat.zero_le _) ?_
    exact ⟨by simp [oBears, h8, hjc], rfl⟩
set_option maxHeartbeats 4000000 in
set_option maxRecDepth 100000 in
theorem l_X9_heard {μ : Me} {e : Nat × (Nat → aC)} {k : Nat} {q : Int32} (hk : k ≤ 60) : ∀ (m : Nat) (i : Nat), k - i < m → i ≤ k → AW none 1 0 0 mX9_heard 0 0 30 [some (.ref 0), some (.int (nI k)), some (.int q), some (.long (sOdds q i)), none, some (.int (nI i))] [] (wS μ e) (a_eq (some (.int (1000000000 - sOdds q k).toInt32)) (wS μ e)) := by
  intro m
  induction m with
  | zero => intro i hm; exact absurd hm (Nat.not_lt_zero _)
  | succ m ih =>
    intro i hm hc
    refine AW.iload (n := 32) dX9_heard_30 rfl rfl ?_
    refine AW.iload_n (n := 33) dX9_heard_32 rfl rfl ?_
    refine AW.icmp_ge (n := 36) (t := 54) dX9_heard_33 rfl rfl (fun h33 => ?_) (fun h33 => ?_)
    · have hi : k ≤ i := le_lit (b := k) (x := nI i) rfl (by omega) (by omega) h33
      have he : i = k := by omega
      subst he
      refine AW.ldc2 (n := 57) dX9_heard_54 kl_X9_244 rfl ?_
      refine AW.lload_n (n := 58) dX9_heard_57 rfl rfl ?_
      refine AW.lsub (n := 59) dX9_heard_58 rfl ?_
      refine AW.l2i (n := 60) dX9_heard_59 rfl ?_
      refine AW.iret dX9_heard_60 rfl rfl (Nat.zero_le _) (Nat.zero_le _) ?_
      exact ⟨rfl, rfl⟩
    · have hi : i < k := nle_lit (b := k) (x := nI i) rfl (by omega) (by omega) h33
      refine AW.lload_n (n := 37) dX9_heard_36 rfl rfl ?_
      refine AW.bipush (n := 39) (v := 100) dX9_heard_37 rfl rfl ?_
      refine AW.iload_n (n := 40) dX9_heard_39 rfl rfl ?_
      refine AW.isub (n := 41) dX9_heard_40 rfl ?_
      refine AW.i2l (n := 42) dX9_heard_41 rfl ?_
      refine AW.lmul (n := 43) dX9_heard_42 rfl ?_
      refine AW.ldc2 (n := 46) dX9_heard_43 kl_X9_246 rfl ?_
      refine AW.ldiv (n := 47) dX9_heard_46 (by decide) rfl ?_
      refine AW.lstore_n (n := 48) dX9_heard_47 (Nat.le_of_ble_eq_true rfl) rfl rfl rfl ?_
      refine AW.inc5 (n := 51) (1) dX9_heard_48 rfl (Nat.le_of_ble_eq_true rfl) rfl rfl ?_
      refine AW.goto (t := 30) dX9_heard_51 rfl ?_
      rw [nI_1]
      exact ih (i + 1) (by omega) (by omega)
set_option maxHeartbeats 4000000 in
set_option maxRecDepth 100000 in
theorem c_X9_heard {μ : Me} {e : Nat × (Nat → aC)} {n q : Int32}  : AC 1 0 0 mX9_heard [.ref 0, .int n, .int q] (wS μ e) (a_eq (some (.int (oHeard n q))) (wS μ e)) := by
  refine AC.of (L := [some (.ref 0), some (.int n), some (.int q), none, none, none]) (j := 3) (by decide) rfl (Nat.le_of_ble_eq_true rfl) ?_
  refine AW.iload_n (n := 1) dX9_heard_0 rfl rfl ?_
  refine AW.iconst (n := 2) (v := 0) dX9_heard_1 rfl rfl ?_
  refine AW.bipush (n := 4) (v := 60) dX9_heard_2 rfl rfl ?_
  refine AW.es3i (Mc := mX9_within) (n := 7) dX9_heard_4 lk_X9_79 k_mX9_within (c_X9_within) (Nat.le_of_ble_eq_true rfl) (by decide) (Nat.zero_le _) (Nat.zero_le _) rfl ?_
  refine AW.bif_eq (n := 10) (t := 20) dX9_heard_7 rfl rfl (fun h7 => ?_) (fun h7 => ?_)
  · refine AW.ldc (n := 22) dX9_heard_20 kc_X9_83 rfl ?_
    refine AW.iret dX9_heard_22 rfl rfl (Nat.zero_le _) (Nat.zero_le _) ?_
    exact ⟨by simp [oHeard, h7], by simp [oHeard, h7]⟩
  · refine AW.iload_n (n := 11) dX9_heard_10 rfl rfl ?_
    refine AW.iconst (n := 12) (v := 0) dX9_heard_11 rfl rfl ?_
    refine AW.bipush (n := 14) (v := 100) dX9_heard_12 rfl rfl ?_
    refine AW.es3i (Mc := mX9_within) (n := 17) dX9_heard_14 lk_X9_79 k_mX9_within (c_X9_within) (Nat.le_of_ble_eq_true rfl) (by decide) (Nat.zero_le _) (Nat.zero_le _) rfl ?_
    refine AW.bif_ne (n := 20) (t := 23) dX9_heard_17 rfl rfl (fun h17 => ?_) (fun h17 => ?_)
    · refine AW.ldc2 (n := 26) dX9_heard_23 kl_X9_244 rfl ?_
      refine AW.lstore_n (n := 27) dX9_heard_26 (Nat.le_of_ble_eq_true rfl) rfl rfl rfl ?_
      refine AW.iconst (n := 28) (v := 0) dX9_heard_27 rfl rfl ?_
      refine AW.ist5 (n := 30) dX9_heard_28 (Nat.le_of_ble_eq_true rfl) rfl rfl ?_
      obtain ⟨k, hk1, hk2, rfl⟩ := win_j (a := 0) (b := 60) (by decide) h7 (by decide)
      have h := l_X9_heard (e := e) (μ := μ) (q := q) hk2 (k + 1) 0 (by omega) (by omega)
      simp only [oHeard, h7, h17, if_true, cl_nI (show k < 2147483648 by omega)]
      exact h
    · refine AW.ldc (n := 22) dX9_heard_20 kc_X9_83 rfl ?_
      refine AW.iret dX9_heard_22 rfl rfl (Nat.zero_le _) (Nat.zero_le _) ?_
      exact ⟨by simp [oHeard, h7, h17], by simp [oHeard, h7, h17]⟩
set_option maxHeartbeats 4000000 in
set_option maxRecDepth 100000 in
theorem c_X9_see {μ : Me} {e : Nat × (Nat → aC)} {z : Nat} {s : Int32} {b : Bool} (hz : μ 120 2 = nI z) (hz9 : z ≤ 6) : AC 1 0 0 mX9_see [.ref 0, .int s, .int (b2i b)] (wS μ e) (a_eq (some (.int ((oSee μ z s b).1))) (wS ((oSee μ z s b).2) e)) := by
  refine AC.of (L := [some (.ref 0), some (.int s), some (.int (b2i b))]) (j := 0) (by decide) rfl (Nat.le_of_ble_eq_true rfl) ?_
  refine AW.aload_n (n := 1) dX9_see_0 rfl rfl ?_
  refine AW.gr (n := 4) dX9_see_1 fl_X9_23 s_0 rfl rfl ?_
  refine AW.iload_n (n := 5) dX9_see_4 rfl rfl ?_
  refine AW.ev1i (Mc := mX6_has) (n := 8) dX9_see_5 lk_X9_150 k_mX6_has s_10 rfl rfl (c_X6_has sS_10) (Nat.le_of_ble_eq_true rfl) (by decide) (Nat.zero_le _) (Nat.zero_le _) rfl ?_
  refine AW.bif_ne (n := 11) (t := 14) dX9_see_8 rfl rfl (fun h8 => ?_) (fun h8 => ?_)
  · refine AW.aload_n (n := 15) dX9_see_14 rfl rfl ?_
    refine AW.gr (n := 18) dX9_see_15 fl_X9_53 s_0 rfl rfl ?_
    refine AW.iload_n (n := 19) dX9_see_18 rfl rfl ?_
    refine AW.iload_n (n := 20) dX9_see_19 rfl rfl ?_
    refine AW.ev2i (Mc := mX5_add) (n := 23) dX9_see_20 lk_X9_248 k_mX5_add s_120 rfl rfl (c_X5_add hz hz9) (Nat.le_of_ble_eq_true rfl) (by decide) (Nat.zero_le _) (Nat.zero_le _) rfl ?_
    refine AW.bif_eq (n := 26) (t := 36) dX9_see_23 rfl rfl (fun h23 => ?_) (fun h23 => ?_)
    · refine AW.ldc (n := 38) dX9_see_36 kc_X9_91 rfl ?_
      refine AW.iret dX9_see_38 rfl rfl (Nat.zero_le _) (Nat.zero_le _) ?_
      have q : ¬ z < 6 := by simpa using h23
      exact ⟨by simp [oSee, h8, q], by simp [oSee, h8, q]⟩
    · refine AW.aload_n (n := 27) dX9_see_26 rfl rfl ?_
      refine AW.gr (n := 30) dX9_see_27 fl_X9_53 s_0 rfl rfl ?_
      refine AW.gi (n := 33) dX9_see_30 fl_X9_145 s_120 rfl rfl ?_
      refine AW.goto (t := 38) dX9_see_33 rfl ?_
      refine AW.iret dX9_see_38 rfl rfl (Nat.zero_le _) (Nat.zero_le _) ?_
      have q : z < 6 := by simpa using h23
      exact ⟨by simp [oSee, h8, q, sSAdd, mu_at], by simp [oSee, h8, q]⟩
  · refine AW.ldc (n := 13) dX9_see_11 kc_X9_153 rfl ?_
    refine AW.iret dX9_see_13 rfl rfl (Nat.zero_le _) (Nat.zero_le _) ?_
    exact ⟨by simp [oSee, h8], by simp [oSee, h8]⟩
set_option maxHeartbeats 4000000 in
set_option maxRecDepth 100000 in
theorem c_X9_write {μ : Me} {e : Nat × (Nat → aC)} {z : Nat} {s is : Int32} (hz : μ 123 2 = nI z) (hz9 : z ≤ 20) : AC 1 0 0 mX9_write [.ref 0, .int s, .int is] (wS μ e) (a_eq (some (.int ((oWrite μ z s is).1))) (wS ((oWrite μ z s is).2) e)) := by
  refine AC.of (L := [some (.ref 0), some (.int s), some (.int is)]) (j := 0) (by decide) rfl (Nat.le_of_ble_eq_true rfl) ?_
  refine AW.aload_n (n := 1) dX9_write_0 rfl rfl ?_
  refine AW.gr (n := 4) dX9_write_1 fl_X9_23 s_0 rfl rfl ?_
  refine AW.iload_n (n := 5) dX9_write_4 rfl rfl ?_
  refine AW.ev1i (Mc := mX6_has) (n := 8) dX9_write_5 lk_X9_150 k_mX6_has s_10 rfl rfl (c_X6_has sS_10) (Nat.le_of_ble_eq_true rfl) (by decide) (Nat.zero_le _) (Nat.zero_le _) rfl ?_
  refine AW.bif_ne (n := 11) (t := 14) dX9_write_8 rfl rfl (fun h8 => ?_) (fun h8 => ?_)
  · refine AW.iload_n (n := 15) dX9_write_14 rfl rfl ?_
    refine AW.iconst (n := 16) (v := 1) dX9_write_15 rfl rfl ?_
    refine AW.iconst (n := 17) (v := 4) dX9_write_16 rfl rfl ?_
    refine AW.es3i (Mc := mX9_within) (n := 20) dX9_write_17 lk_X9_79 k_mX9_within (c_X9_within) (Nat.le_of_ble_eq_true rfl) (by decide) (Nat.zero_le _) (Nat.zero_le _) rfl ?_
    refine AW.bif_ne (n := 23) (t := 26) dX9_write_20 rfl rfl (fun h20 => ?_) (fun h20 => ?_)
    · refine AW.aload_n (n := 27) dX9_write_26 rfl rfl ?_
      refine AW.gr (n := 30) dX9_write_27 fl_X9_60 s_0 rfl rfl ?_
      refine AW.iload_n (n := 31) dX9_write_30 rfl rfl ?_
      refine AW.iload_n (n := 32) dX9_write_31 rfl rfl ?_
      refine AW.ev2i (Mc := mX0_add) (n := 35) dX9_write_32 lk_X9_257 k_mX0_add s_123 rfl rfl (c_X0_add hz hz9) (Nat.le_of_ble_eq_true rfl) (by decide) (Nat.zero_le _) (Nat.zero_le _) rfl ?_
      refine AW.bif_eq (n := 38) (t := 48) dX9_write_35 rfl rfl (fun h35 => ?_) (fun h35 => ?_)
      · refine AW.ldc (n := 50) dX9_write_48 kc_X9_91 rfl ?_
        refine AW.iret dX9_write_50 rfl rfl (Nat.zero_le _) (Nat.zero_le _) ?_
        have q : ¬ z < 20 := by simpa using h35
        exact ⟨by simp [oWrite, h8, h20, q], by simp [oWrite, h8, h20, q]⟩
      · refine AW.aload_n (n := 39) dX9_write_38 rfl rfl ?_
        refine AW.gr (n := 42) dX9_write_39 fl_X9_60 s_0 rfl rfl ?_
        refine AW.gi (n := 45) dX9_write_42 fl_X9_148 s_123 rfl rfl ?_
        refine AW.goto (t := 50) dX9_write_45 rfl ?_
        refine AW.iret dX9_write_50 rfl rfl (Nat.zero_le _) (Nat.zero_le _) ?_
        have q : z < 20 := by simpa using h35
        exact ⟨by simp [oWrite, h8, h20, q, sBAdd, mu_at], by simp [oWrite, h8, h20, q]⟩
    · refine AW.ldc (n := 25) dX9_write_23 kc_X9_83 rfl ?_
      refine AW.iret dX9_write_25 rfl rfl (Nat.zero_le _) (Nat.zero_le _) ?_
      exact ⟨by simp [oWrite, h8, h20], by simp [oWrite, h8, h20]⟩
  · refine AW.ldc (n := 13) dX9_write_11 kc_X9_153 rfl ?_
    refine AW.iret dX9_write_13 rfl rfl (Nat.zero_le _) (Nat.zero_le _) ?_
    exact ⟨by simp [oWrite, h8], by simp [oWrite, h8]⟩
set_option maxHeartbeats 4000000 in
set_option maxRecDepth 100000 in
theorem c_X9_judge {μ : Me} {e : Nat × (Nat → aC)} {z : Nat} (hz : μ 123 2 = nI z) (hz9 : z ≤ 20) (hv : ∀ i, i < z → ∃ j : Nat, j < 7 ∧ μ 124 i = nI j) : AC 1 0 0 mX9_judge [.ref 0] (wS μ e) (a_eq (some (.int (oJudge μ z))) (wS μ e)) := by
  refine AC.of (L := [some (.ref 0)]) (j := 0) (by decide) rfl (Nat.le_of_ble_eq_true rfl) ?_
  refine AW.aload_n (n := 1) dX9_judge_0 rfl rfl ?_
  refine AW.gr (n := 4) dX9_judge_1 fl_X9_60 s_0 rfl rfl ?_
  refine AW.aload_n (n := 5) dX9_judge_4 rfl rfl ?_
  refine AW.gr (n := 8) dX9_judge_5 fl_X9_29 s_0 rfl rfl ?_
  refine AW.ev1i (Mc := mX0_firstWrong) (n := 11) dX9_judge_8 lk_X9_260 k_mX0_firstWrong s_123 rfl rfl (c_X0_firstWrong sD_17 hz hz9 hv) (Nat.le_of_ble_eq_true rfl) (by decide) (Nat.zero_le _) (Nat.zero_le _) rfl ?_
  refine AW.iret dX9_judge_11 rfl rfl (Nat.zero_le _) (Nat.zero_le _) ?_
  exact ⟨rfl, rfl⟩
set_option maxHeartbeats 4000000 in
set_option maxRecDepth 100000 in
theorem c_X9_tear {μ : Me} {e : Nat × (Nat → aC)}   : AC 1 0 0 mX9_tear [.ref 0] (wS μ e) (a_eq (some (.int ((oTear μ).1))) (wS ((oTear μ).2) e)) := by
  refine AC.of (L := [some (.ref 0), none]) (j := 1) (by decide) rfl (Nat.le_of_ble_eq_true rfl) ?_
  refine AW.aload_n (n := 1) dX9_tear_0 rfl rfl ?_
  refine AW.gr (n := 4) dX9_tear_1 fl_X9_53 s_0 rfl rfl ?_
  refine AW.gi (n := 7) dX9_tear_4 fl_X9_145 s_120 rfl rfl ?_
  refine AW.aload_n (n := 8) dX9_tear_7 rfl rfl ?_
  refine AW.gr (n := 11) dX9_tear_8 fl_X9_60 s_0 rfl rfl ?_
  refine AW.gi (n := 14) dX9_tear_11 fl_X9_148 s_123 rfl rfl ?_
  refine AW.iadd (n := 15) dX9_tear_14 rfl ?_
  refine AW.ist1 (n := 16) dX9_tear_15 (Nat.le_of_ble_eq_true rfl) rfl rfl ?_
  refine AW.aload_n (n := 17) dX9_tear_16 rfl rfl ?_
  refine AW.gr (n := 20) dX9_tear_17 fl_X9_53 s_0 rfl rfl ?_
  refine AW.ev0v (Mc := mX5_forget) (n := 23) dX9_tear_20 lk_X9_111 k_mX5_forget s_120 rfl rfl (c_X5_forget) (Nat.le_of_ble_eq_true rfl) (by decide) (Nat.zero_le _) (Nat.zero_le _) rfl ?_
  refine AW.aload_n (n := 24) dX9_tear_23 rfl rfl ?_
  refine AW.gr (n := 27) dX9_tear_24 fl_X9_60 s_0 rfl rfl ?_
  refine AW.ev0v (Mc := mX0_forget) (n := 30) dX9_tear_27 lk_X9_112 k_mX0_forget s_123 rfl rfl (c_X0_forget) (Nat.le_of_ble_eq_true rfl) (by decide) (Nat.zero_le _) (Nat.zero_le _) rfl ?_
  refine AW.iload_n (n := 31) dX9_tear_30 rfl rfl ?_
  refine AW.iret dX9_tear_31 rfl rfl (Nat.zero_le _) (Nat.zero_le _) ?_
  exact ⟨rfl, rfl⟩
set_option maxHeartbeats 4000000 in
set_option maxRecDepth 100000 in
theorem c_X9_seed {μ : Me} {e : Nat × (Nat → aC)} {v : Int32}  : AC 0 0 0 mX9_seed [.ref 0, .int v] (wS μ e) (a_eq (some (.int ((oSeed μ v).1))) (wS ((oSeed μ v).2) e)) := by
  refine AC.of (L := [some (.ref 0), some (.int v), none]) (j := 1) (by decide) rfl (Nat.le_of_ble_eq_true rfl) ?_
  refine AW.iload_n (n := 1) dX9_seed_0 rfl rfl ?_
  refine AW.if_ge (n := 4) (t := 7) dX9_seed_1 rfl rfl (fun h1 => ?_) (fun h1 => ?_)
  · refine AW.aload_n (n := 8) dX9_seed_7 rfl rfl ?_
    refine AW.gi (n := 11) dX9_seed_8 fl_X9_75 s_0 rfl rfl ?_
    refine AW.ist2 (n := 12) dX9_seed_11 (Nat.le_of_ble_eq_true rfl) rfl rfl ?_
    refine AW.aload_n (n := 13) dX9_seed_12 rfl rfl ?_
    refine AW.iload_n (n := 14) dX9_seed_13 rfl rfl ?_
    refine AW.pi (n := 17) dX9_seed_14 fp_X9_75 s_0 rfl ⟨rfl, rfl⟩ rfl ?_
    refine AW.iload_n (n := 18) dX9_seed_17 rfl rfl ?_
    refine AW.iret dX9_seed_18 rfl rfl (Nat.zero_le _) (Nat.zero_le _) ?_
    exact ⟨by simp [oSeed, h1], by simp [oSeed, h1]⟩
  · refine AW.ldc (n := 6) dX9_seed_4 kc_X9_83 rfl ?_
    refine AW.iret dX9_seed_6 rfl rfl (Nat.zero_le _) (Nat.zero_le _) ?_
    exact ⟨by simp [oSeed, h1], by simp [oSeed, h1]⟩
set_option maxHeartbeats 4000000 in
set_option maxRecDepth 100000 in
theorem c_X9_keep {μ : Me} {e : Nat × (Nat → aC)} {i : Int32}  : AC 2 0 0 mX9_keep [.ref 0, .int i] (wS μ e) (a_eq (some (.int ((oKeep μ i).1))) (wS ((oKeep μ i).2) e)) := by
  refine AC.of (L := [some (.ref 0), some (.int i)]) (j := 0) (by decide) rfl (Nat.le_of_ble_eq_true rfl) ?_
  refine AW.iload_n (n := 1) dX9_keep_0 rfl rfl ?_
  refine AW.iconst (n := 2) (v := 0) dX9_keep_1 rfl rfl ?_
  refine AW.iconst (n := 3) (v := 1) dX9_keep_2 rfl rfl ?_
  refine AW.es3i (Mc := mX9_within) (n := 6) dX9_keep_3 lk_X9_79 k_mX9_within (c_X9_within) (Nat.le_of_ble_eq_true rfl) (by decide) (Nat.zero_le _) (Nat.zero_le _) rfl ?_
  refine AW.bif_ne (n := 9) (t := 12) dX9_keep_6 rfl rfl (fun h6 => ?_) (fun h6 => ?_)
  · obtain ⟨j, hj1, hj2, rfl⟩ := win_j (a := 0) (b := 1) (by decide) h6 (by decide)
    have hjc := cl_nI (show j < 2147483648 by omega)
    have hj : j < 2 := by omega
    refine AW.aload_n (n := 13) dX9_keep_12 rfl rfl ?_
    refine AW.gr (n := 16) dX9_keep_13 fl_X9_67 s_0 rfl rfl ?_
    refine AW.iload_n (n := 17) dX9_keep_16 rfl rfl ?_
    refine AW.ra (n := 18) j dX9_keep_17 (Or.inr rfl) s_126 rfl hj (by decide) rfl rfl ?_
    refine AW.gr (n := 21) dX9_keep_18 fl_X9_264 (sI_i hj).1 rfl rfl ?_
    refine AW.aload_n (n := 22) dX9_keep_21 rfl rfl ?_
    refine AW.gr (n := 25) dX9_keep_22 fl_X9_29 s_0 rfl rfl ?_
    refine AW.ev1v (Mc := mX1_copy) (n := 28) dX9_keep_25 lk_X9_267 k_mX1_copy (sI_i hj).2.1 rfl rfl (c_X1_copy (sI_i hj).2 sD_17) (Nat.le_of_ble_eq_true rfl) (by decide) (Nat.zero_le _) (Nat.zero_le _) rfl ?_
    refine AW.aload_n (n := 29) dX9_keep_28 rfl rfl ?_
    refine AW.gr (n := 32) dX9_keep_29 fl_X9_67 s_0 rfl rfl ?_
    refine AW.iload_n (n := 33) dX9_keep_32 rfl rfl ?_
    refine AW.ra (n := 34) j dX9_keep_33 (Or.inr rfl) s_126 rfl hj (by decide) rfl rfl ?_
    refine AW.aload_n (n := 35) dX9_keep_34 rfl rfl ?_
    refine AW.gi (n := 38) dX9_keep_35 fl_X9_75 s_0 rfl rfl ?_
    refine AW.pi (n := 41) dX9_keep_38 fp_X9_269 (sI_i hj).1 rfl ⟨rfl, rfl⟩ rfl ?_
    refine AW.aload_n (n := 42) dX9_keep_41 rfl rfl ?_
    refine AW.gr (n := 45) dX9_keep_42 fl_X9_67 s_0 rfl rfl ?_
    refine AW.iload_n (n := 46) dX9_keep_45 rfl rfl ?_
    refine AW.ra (n := 47) j dX9_keep_46 (Or.inr rfl) s_126 rfl hj (by decide) rfl rfl ?_
    refine AW.iconst (n := 48) (v := 1) dX9_keep_47 rfl rfl ?_
    refine AW.pi (n := 51) dX9_keep_48 fp_X9_113 (sI_i hj).1 rfl ⟨rfl, rfl⟩ rfl ?_
    refine AW.aload_n (n := 52) dX9_keep_51 rfl rfl ?_
    refine AW.gr (n := 55) dX9_keep_52 fl_X9_46 s_0 rfl rfl ?_
    refine AW.ev0v (Mc := mX3_forget) (n := 58) dX9_keep_55 lk_X9_108 k_mX3_forget s_28 rfl rfl (c_X3_forget) (Nat.le_of_ble_eq_true rfl) (by decide) (Nat.zero_le _) (Nat.zero_le _) rfl ?_
    refine AW.iconst (n := 59) (v := 1) dX9_keep_58 rfl rfl ?_
    refine AW.iret dX9_keep_59 rfl rfl (Nat.zero_le _) (Nat.zero_le _) ?_
    exact ⟨by simp [oKeep, h6], by simp only [oKeep, h6, if_true, hjc]; rfl⟩
  · refine AW.ldc (n := 11) dX9_keep_9 kc_X9_153 rfl ?_
    refine AW.iret dX9_keep_11 rfl rfl (Nat.zero_le _) (Nat.zero_le _) ?_
    exact ⟨by simp [oKeep, h6], by simp [oKeep, h6]⟩
set_option maxHeartbeats 4000000 in
set_option maxRecDepth 100000 in
theorem c_X9_goBack {μ : Me} {e : Nat × (Nat → aC)} {i : Int32}  : AC 2 0 0 mX9_goBack [.ref 0, .int i] (wS μ e) (a_eq (some (.int ((oGoBack μ i).1))) (wS ((oGoBack μ i).2) e)) := by
  refine AC.of (L := [some (.ref 0), some (.int i)]) (j := 0) (by decide) rfl (Nat.le_of_ble_eq_true rfl) ?_
  refine AW.iload_n (n := 1) dX9_goBack_0 rfl rfl ?_
  refine AW.iconst (n := 2) (v := 0) dX9_goBack_1 rfl rfl ?_
  refine AW.iconst (n := 3) (v := 1) dX9_goBack_2 rfl rfl ?_
  refine AW.es3i (Mc := mX9_within) (n := 6) dX9_goBack_3 lk_X9_79 k_mX9_within (c_X9_within) (Nat.le_of_ble_eq_true rfl) (by decide) (Nat.zero_le _) (Nat.zero_le _) rfl ?_
  refine AW.bif_ne (n := 9) (t := 12) dX9_goBack_6 rfl rfl (fun h6 => ?_) (fun h6 => ?_)
  · obtain ⟨j, hj1, hj2, rfl⟩ := win_j (a := 0) (b := 1) (by decide) h6 (by decide)
    have hjc := cl_nI (show j < 2147483648 by omega)
    have hj : j < 2 := by omega
    refine AW.aload_n (n := 13) dX9_goBack_12 rfl rfl ?_
    refine AW.gr (n := 16) dX9_goBack_13 fl_X9_67 s_0 rfl rfl ?_
    refine AW.iload_n (n := 17) dX9_goBack_16 rfl rfl ?_
    refine AW.ra (n := 18) j dX9_goBack_17 (Or.inr rfl) s_126 rfl hj (by decide) rfl rfl ?_
    refine AW.gi (n := 21) dX9_goBack_18 fl_X9_113 (sI_i hj).1 rfl rfl ?_
    refine AW.if_ne (n := 24) (t := 27) dX9_goBack_21 rfl rfl (fun h21 => ?_) (fun h21 => ?_)
    · refine AW.aload_n (n := 28) dX9_goBack_27 rfl rfl ?_
      refine AW.gr (n := 31) dX9_goBack_28 fl_X9_29 s_0 rfl rfl ?_
      refine AW.aload_n (n := 32) dX9_goBack_31 rfl rfl ?_
      refine AW.gr (n := 35) dX9_goBack_32 fl_X9_67 s_0 rfl rfl ?_
      refine AW.iload_n (n := 36) dX9_goBack_35 rfl rfl ?_
      refine AW.ra (n := 37) j dX9_goBack_36 (Or.inr rfl) s_126 rfl hj (by decide) rfl rfl ?_
      refine AW.gr (n := 40) dX9_goBack_37 fl_X9_264 (sI_i hj).1 rfl rfl ?_
      refine AW.ev1v (Mc := mX1_copy) (n := 43) dX9_goBack_40 lk_X9_267 k_mX1_copy s_17 rfl rfl (c_X1_copy sD_17 (sI_i hj).2) (Nat.le_of_ble_eq_true rfl) (by decide) (Nat.zero_le _) (Nat.zero_le _) rfl ?_
      refine AW.aload_n (n := 44) dX9_goBack_43 rfl rfl ?_
      refine AW.aload_n (n := 45) dX9_goBack_44 rfl rfl ?_
      refine AW.gr (n := 48) dX9_goBack_45 fl_X9_67 s_0 rfl rfl ?_
      refine AW.iload_n (n := 49) dX9_goBack_48 rfl rfl ?_
      refine AW.ra (n := 50) j dX9_goBack_49 (Or.inr rfl) s_126 rfl hj (by decide) rfl rfl ?_
      refine AW.gi (n := 53) dX9_goBack_50 fl_X9_269 (sI_i hj).1 rfl rfl ?_
      refine AW.pi (n := 56) dX9_goBack_53 fp_X9_75 s_0 rfl ⟨rfl, rfl⟩ rfl ?_
      refine AW.aload_n (n := 57) dX9_goBack_56 rfl rfl ?_
      refine AW.gr (n := 60) dX9_goBack_57 fl_X9_46 s_0 rfl rfl ?_
      refine AW.ev0v (Mc := mX3_forget) (n := 63) dX9_goBack_60 lk_X9_108 k_mX3_forget s_28 rfl rfl (c_X3_forget) (Nat.le_of_ble_eq_true rfl) (by decide) (Nat.zero_le _) (Nat.zero_le _) rfl ?_
      refine AW.iconst (n := 64) (v := 1) dX9_goBack_63 rfl rfl ?_
      refine AW.iret dX9_goBack_64 rfl rfl (Nat.zero_le _) (Nat.zero_le _) ?_
      exact ⟨by simp [oGoBack, h6, hjc, h21], by simp only [oGoBack, h6, if_true, hjc, h21, if_false]; rfl⟩
    · refine AW.ldc (n := 26) dX9_goBack_24 kc_X9_193 rfl ?_
      refine AW.iret dX9_goBack_26 rfl rfl (Nat.zero_le _) (Nat.zero_le _) ?_
      exact ⟨by simp [oGoBack, h6, hjc, h21], by simp [oGoBack, h6, hjc, h21]⟩
  · refine AW.ldc (n := 11) dX9_goBack_9 kc_X9_153 rfl ?_
    refine AW.iret dX9_goBack_11 rfl rfl (Nat.zero_le _) (Nat.zero_le _) ?_
    exact ⟨by simp [oGoBack, h6], by simp [oGoBack, h6]⟩
set_option maxHeartbeats 4000000 in
set_option maxRecDepth 100000 in
theorem l_X9_ask2 {μ : Me} {e : Nat × (Nat → aC)} {s : Nat} {fit all least ask : Int32} {P : Option Value → aS → Prop} (hk : AW none 1 0 0 mX9_bestToAsk 0 0 65 [some (.ref 0), some (.int fit), some (.int all), some (.int least), some (.int ask), some (.int (nI s)), some (.int (sAskN fit (μ 135) s 4)), some (.int (nI 4))] [] (wS μ e) P) : ∀ (m h : Nat), 4 = h + m → AW none 1 0 0 mX9_bestToAsk 0 0 31 [some (.ref 0), some (.int fit), some (.int all), some (.int least), some (.int ask), some (.int (nI s)), some (.int (sAskN fit (μ 135) s h)), some (.int (nI h))] [] (wS μ e) P := by
  intro m
  induction m with
  | zero =>
    intro h hm
    have he : h = 4 := by omega
    subst he
    refine AW.iload (n := 33) dX9_bestToAsk_31 rfl rfl ?_
    refine AW.iconst (n := 34) (v := 4) dX9_bestToAsk_33 rfl rfl ?_
    refine AW.icmp_ge (n := 37) (t := 65) dX9_bestToAsk_34 rfl rfl (fun h34 => ?_) (fun h34 => ?_)
    · exact hk
    · exact absurd (by decide) h34
  | succ m ih =>
    intro h hm
    refine AW.iload (n := 33) dX9_bestToAsk_31 rfl rfl ?_
    refine AW.iconst (n := 34) (v := 4) dX9_bestToAsk_33 rfl rfl ?_
    refine AW.icmp_ge (n := 37) (t := 65) dX9_bestToAsk_34 rfl rfl (fun h34 => ?_) (fun h34 => ?_)
    · exact absurd ((nI_leI (a := 4) (b := h) (by omega) (by omega)).mp h34) (by omega)
    · refine AW.iload (n := 39) dX9_bestToAsk_37 rfl rfl ?_
      refine AW.iload_n (n := 40) dX9_bestToAsk_39 rfl rfl ?_
      refine AW.iload (n := 42) dX9_bestToAsk_40 rfl rfl ?_
      refine AW.ishr (n := 43) dX9_bestToAsk_42 rfl ?_
      refine AW.aload_n (n := 44) dX9_bestToAsk_43 rfl rfl ?_
      refine AW.gr (n := 47) dX9_bestToAsk_44 fl_X9_71 s_0 rfl rfl ?_
      refine AW.iload (n := 49) dX9_bestToAsk_47 rfl rfl ?_
      refine AW.ia (n := 50) h dX9_bestToAsk_49 s_135 rfl (by omega) (by decide) rfl ?_
      refine AW.iload (n := 52) dX9_bestToAsk_50 rfl rfl ?_
      refine AW.ishr (n := 53) dX9_bestToAsk_52 rfl ?_
      refine AW.iand (n := 54) dX9_bestToAsk_53 rfl ?_
      refine AW.iconst (n := 55) (v := 1) dX9_bestToAsk_54 rfl rfl ?_
      refine AW.iand (n := 56) dX9_bestToAsk_55 rfl ?_
      refine AW.iadd (n := 57) dX9_bestToAsk_56 rfl ?_
      refine AW.ist6 (n := 59) dX9_bestToAsk_57 (Nat.le_of_ble_eq_true rfl) rfl rfl ?_
      refine AW.inc7 (n := 62) (1) dX9_bestToAsk_59 rfl (Nat.le_of_ble_eq_true rfl) rfl rfl ?_
      refine AW.goto (t := 31) dX9_bestToAsk_62 rfl ?_
      rw [nI_1]
      exact ih (h + 1) (by omega)
set_option maxHeartbeats 4000000 in
set_option maxRecDepth 100000 in
theorem l_X9_ask {μ : Me} {e : Nat × (Nat → aC)} {n : Nat} {fit all : Int32} (hn : μ 10 3 = nI n) (h7 : n ≤ 7) : ∀ (m : Nat) (s : Nat) (L6 L7 : Option Value), n - s < m → s ≤ n → AW none 1 0 0 mX9_bestToAsk 0 0 13 [some (.ref 0), some (.int fit), some (.int all), some (.int (sAsk all fit (μ 135) s).1), some (.int (sAsk all fit (μ 135) s).2), some (.int (nI s)), L6, L7] [] (wS μ e) (a_eq (some (.int (sAsk all fit (μ 135) n).2)) (wS μ e)) := by
  intro m
  induction m with
  | zero => intro s L6 L7 hm; exact absurd hm (Nat.not_lt_zero _)
  | succ m ih =>
    intro s L6 L7 hm hc
    refine AW.iload (n := 15) dX9_bestToAsk_13 rfl rfl ?_
    refine AW.aload_n (n := 16) dX9_bestToAsk_15 rfl rfl ?_
    refine AW.gr (n := 19) dX9_bestToAsk_16 fl_X9_23 s_0 rfl rfl ?_
    refine AW.gi (n := 22) dX9_bestToAsk_19 fl_X9_117 s_10 rfl rfl ?_
    refine AW.icmp_ge (n := 25) (t := 95) dX9_bestToAsk_22 rfl rfl (fun h22 => ?_) (fun h22 => ?_)
    · have hi : n ≤ s := le_lit (b := n) (x := nI s) rfl (by omega) (by omega) (by rw [← hn]; exact h22)
      have he : s = n := by omega
      subst he
      refine AW.iload (n := 97) dX9_bestToAsk_95 rfl rfl ?_
      refine AW.iret dX9_bestToAsk_97 rfl rfl (Nat.zero_le _) (Nat.zero_le _) ?_
      exact ⟨rfl, rfl⟩
    · have hi : s < n := nle_lit (b := n) (x := nI s) rfl (by omega) (by omega) (by rw [← hn]; exact h22)
      refine AW.iconst (n := 26) (v := 0) dX9_bestToAsk_25 rfl rfl ?_
      refine AW.ist6 (n := 28) dX9_bestToAsk_26 (Nat.le_of_ble_eq_true rfl) rfl rfl ?_
      refine AW.iconst (n := 29) (v := 0) dX9_bestToAsk_28 rfl rfl ?_
      refine AW.ist7 (n := 31) dX9_bestToAsk_29 (Nat.le_of_ble_eq_true rfl) rfl rfl ?_
      refine l_X9_ask2 ?_ 4 0 rfl
      refine AW.iload (n := 67) dX9_bestToAsk_65 rfl rfl ?_
      refine AW.iload_n (n := 68) dX9_bestToAsk_67 rfl rfl ?_
      refine AW.iload (n := 70) dX9_bestToAsk_68 rfl rfl ?_
      refine AW.isub (n := 71) dX9_bestToAsk_70 rfl ?_
      refine AW.mmax (n := 74) dX9_bestToAsk_71 lj_X9_282 jm_max_s jm_i jm_max_c (Nat.le_of_ble_eq_true rfl) (by decide) (Nat.zero_le _) (Nat.zero_le _) rfl ?_
      refine AW.ist7 (n := 76) dX9_bestToAsk_74 (Nat.le_of_ble_eq_true rfl) rfl rfl ?_
      refine AW.iload (n := 78) dX9_bestToAsk_76 rfl rfl ?_
      refine AW.iload_n (n := 79) dX9_bestToAsk_78 rfl rfl ?_
      refine AW.icmp_ge (n := 82) (t := 89) dX9_bestToAsk_79 rfl rfl (fun h79 => ?_) (fun h79 => ?_)
      · refine AW.inc5 (n := 92) (1) dX9_bestToAsk_89 rfl (Nat.le_of_ble_eq_true rfl) rfl rfl ?_
        refine AW.goto (t := 13) dX9_bestToAsk_92 rfl ?_
        rw [nI_1]
        have h9 := fun L6 L7 => ih (s + 1) L6 L7 (by omega) (by omega)
        have hq : (sAsk all fit (μ 135) s).1 ≤ sMax (sAskN fit (μ 135) s 4) (all - sAskN fit (μ 135) s 4) := h79
        simp only [sAsk, if_pos hq] at h9
        exact h9 _ _
      · refine AW.iload (n := 84) dX9_bestToAsk_82 rfl rfl ?_
        refine AW.ist3 (n := 85) dX9_bestToAsk_84 (Nat.le_of_ble_eq_true rfl) rfl rfl ?_
        refine AW.iload (n := 87) dX9_bestToAsk_85 rfl rfl ?_
        refine AW.ist4 (n := 89) dX9_bestToAsk_87 (Nat.le_of_ble_eq_true rfl) rfl rfl ?_
        refine AW.inc5 (n := 92) (1) dX9_bestToAsk_89 rfl (Nat.le_of_ble_eq_true rfl) rfl rfl ?_
        refine AW.goto (t := 13) dX9_bestToAsk_92 rfl ?_
        rw [nI_1]
        have h9 := fun L6 L7 => ih (s + 1) L6 L7 (by omega) (by omega)
        have hq : ¬ (sAsk all fit (μ 135) s).1 ≤ sMax (sAskN fit (μ 135) s 4) (all - sAskN fit (μ 135) s 4) := h79
        simp only [sAsk, if_neg hq] at h9
        exact h9 _ _
set_option maxHeartbeats 4000000 in
set_option maxRecDepth 100000 in
theorem c_X9_bestToAsk {μ : Me} {e : Nat × (Nat → aC)} {n : Nat} {fit : Int32} (hn : μ 10 3 = nI n) (h7 : n ≤ 7) : AC 1 0 0 mX9_bestToAsk [.ref 0, .int fit] (wS μ e) (a_eq (some (.int ((sAsk (sBC fit) fit (μ 135) n).2))) (wS μ e)) := by
  refine AC.of (L := [some (.ref 0), some (.int fit), none, none, none, none, none, none]) (j := 6) (by decide) rfl (Nat.le_of_ble_eq_true rfl) ?_
  refine AW.iload_n (n := 1) dX9_bestToAsk_0 rfl rfl ?_
  refine AW.es1i (Mc := mJ6_bitCount_0f7a4) (n := 4) dX9_bestToAsk_1 lk_X9_277 k_mJ6_bitCount_0f7a4 (c_J6_bitCount_0f7a4) (Nat.le_of_ble_eq_true rfl) (by decide) (Nat.zero_le _) (Nat.zero_le _) rfl ?_
  refine AW.ist2 (n := 5) dX9_bestToAsk_4 (Nat.le_of_ble_eq_true rfl) rfl rfl ?_
  refine AW.iload_n (n := 6) dX9_bestToAsk_5 rfl rfl ?_
  refine AW.ist3 (n := 7) dX9_bestToAsk_6 (Nat.le_of_ble_eq_true rfl) rfl rfl ?_
  refine AW.iconst (n := 8) (v := -1) dX9_bestToAsk_7 rfl rfl ?_
  refine AW.ist4 (n := 10) dX9_bestToAsk_8 (Nat.le_of_ble_eq_true rfl) rfl rfl ?_
  refine AW.iconst (n := 11) (v := 0) dX9_bestToAsk_10 rfl rfl ?_
  refine AW.ist5 (n := 13) dX9_bestToAsk_11 (Nat.le_of_ble_eq_true rfl) rfl rfl ?_
  exact l_X9_ask hn h7 (n + 1) 0 _ _ (by omega) (Nat.zero_le _)
theorem sRgL_ne {way : Int32} {z : Nat} {μ : Me} {i : Nat} (h1 : i < 23 ∨ 27 < i) (h2 : i ≠ 135) : ∀ h, (sRgL way z μ h).2 i = μ i := by
  intro h
  induction h with
  | zero => rfl
  | succ h ih => rw [sRgL]; show mu _ _ _ _ i = _; rw [mu_ne h2, sRun_ne h1, ih]
set_option maxHeartbeats 4000000 in
set_option maxRecDepth 100000 in
theorem l_X9_rang {μ : Me} {e : Nat × (Nat → aC)} {n dn z : Nat} {way w : Int32} (ho : sOk μ 10 n dn) (hz : μ 120 2 = nI z) (hz9 : z ≤ 6) : ∀ (m : Nat) (h : Nat), 4 - h < m → h ≤ 4 → AW none 5 0 0 mX9_rang 0 0 31 [some (.ref 0), some (.int way), some (.int w), some (.int (sRgL way z μ h).1), some (.int (nI h))] [] (wS ((sRgL way z μ h).2) e) (a_eq (some (.int (if w = 0 then (sRgL way z μ 4).1 else (sAsk (sBC (sRgL way z μ 4).1) (sRgL way z μ 4).1 ((sRgL way z μ 4).2 135) n).2))) (wS (sRgL way z μ 4).2 e)) := by
  intro m
  induction m with
  | zero => intro h hm; exact absurd hm (Nat.not_lt_zero _)
  | succ m ih =>
    intro h hm hc
    have hoh : sOk (sRgL way z μ h).2 10 n dn := ho.of (sRgL_ne (by decide) (by decide) h)
    have e120 : (sRgL way z μ h).2 120 = μ 120 := sRgL_ne (by decide) (by decide) h
    have e121 : (sRgL way z μ h).2 121 = μ 121 := sRgL_ne (by decide) (by decide) h
    have e122 : (sRgL way z μ h).2 122 = μ 122 := sRgL_ne (by decide) (by decide) h
    refine AW.iload (n := 33) dX9_rang_31 rfl rfl ?_
    refine AW.iconst (n := 34) (v := 4) dX9_rang_33 rfl rfl ?_
    refine AW.icmp_ge (n := 37) (t := 99) dX9_rang_34 rfl rfl (fun h34 => ?_) (fun h34 => ?_)
    · have hi : 4 ≤ h := le_lit (b := 4) (x := nI h) rfl (by omega) (by omega) h34
      have he : h = 4 := by omega
      subst he
      refine AW.iload_n (n := 100) dX9_rang_99 rfl rfl ?_
      refine AW.if_ne (n := 103) (t := 107) dX9_rang_100 rfl rfl (fun h100 => ?_) (fun h100 => ?_)
      · refine AW.aload_n (n := 108) dX9_rang_107 rfl rfl ?_
        refine AW.iload_n (n := 109) dX9_rang_108 rfl rfl ?_
        refine AW.ev1i (Mc := mX9_bestToAsk) (n := 112) dX9_rang_109 lk_X9_254 k_mX9_bestToAsk s_0 rfl rfl (c_X9_bestToAsk hoh.1 hoh.2.1) (Nat.le_of_ble_eq_true rfl) (by decide) (Nat.zero_le _) (Nat.zero_le _) rfl ?_
        refine AW.iret dX9_rang_112 rfl rfl (Nat.zero_le _) (Nat.zero_le _) ?_
        exact ⟨by simp [h100], rfl⟩
      · refine AW.iload_n (n := 104) dX9_rang_103 rfl rfl ?_
        refine AW.goto (t := 112) dX9_rang_104 rfl ?_
        refine AW.iret dX9_rang_112 rfl rfl (Nat.zero_le _) (Nat.zero_le _) ?_
        exact ⟨by simp [h100], rfl⟩
    · have hi : h < 4 := nle_lit (b := 4) (x := nI h) rfl (by omega) (by omega) h34
      refine AW.aload_n (n := 38) dX9_rang_37 rfl rfl ?_
      refine AW.gr (n := 41) dX9_rang_38 fl_X9_39 s_0 rfl rfl ?_
      refine AW.aload_n (n := 42) dX9_rang_41 rfl rfl ?_
      refine AW.gr (n := 45) dX9_rang_42 fl_X9_23 s_0 rfl rfl ?_
      refine AW.iload_n (n := 46) dX9_rang_45 rfl rfl ?_
      refine AW.aload_n (n := 47) dX9_rang_46 rfl rfl ?_
      refine AW.gr (n := 50) dX9_rang_47 fl_X9_33 s_0 rfl rfl ?_
      refine AW.iload (n := 52) dX9_rang_50 rfl rfl ?_
      refine AW.ev4v (Mc := mX8_run) (n := 55) dX9_rang_52 lk_X9_208 k_mX8_run s_23 rfl rfl (c_X8_run sD_20 hoh) (Nat.le_of_ble_eq_true rfl) (by decide) (Nat.zero_le _) (Nat.zero_le _) rfl ?_
      refine AW.aload_n (n := 56) dX9_rang_55 rfl rfl ?_
      refine AW.gr (n := 59) dX9_rang_56 fl_X9_71 s_0 rfl rfl ?_
      refine AW.iload (n := 61) dX9_rang_59 rfl rfl ?_
      refine AW.aload_n (n := 62) dX9_rang_61 rfl rfl ?_
      refine AW.gr (n := 65) dX9_rang_62 fl_X9_39 s_0 rfl rfl ?_
      refine AW.gi (n := 68) dX9_rang_65 fl_X9_237 s_23 rfl rfl ?_
      refine AW.is (n := 69) h dX9_rang_68 s_135 rfl (by omega) (by decide) rfl ?_
      have f120 : (mu (sRun (sRgL way z μ h).2 way 20 (nI h)) 135 h (sRun (sRgL way z μ h).2 way 20 (nI h) 23 4)) 120 2 = nI z := by rw [mu_ne (by decide), sRun_ne (by decide), e120]; exact hz
      have f121 : (mu (sRun (sRgL way z μ h).2 way 20 (nI h)) 135 h (sRun (sRgL way z μ h).2 way 20 (nI h) 23 4)) 121 = μ 121 := by rw [mu_ne (by decide), sRun_ne (by decide), e121]
      have f122 : (mu (sRun (sRgL way z μ h).2 way 20 (nI h)) 135 h (sRun (sRgL way z μ h).2 way 20 (nI h) 23 4)) 122 = μ 122 := by rw [mu_ne (by decide), sRun_ne (by decide), e122]
      have f23 : (mu (sRun (sRgL way z μ h).2 way 20 (nI h)) 135 h (sRun (sRgL way z μ h).2 way 20 (nI h) 23 4)) 23 = sRun (sRgL way z μ h).2 way 20 (nI h) 23 := mu_ne (by decide)
      refine AW.aload_n (n := 70) dX9_rang_69 rfl rfl ?_
      refine AW.gr (n := 73) dX9_rang_70 fl_X9_53 s_0 rfl rfl ?_
      refine AW.aload_n (n := 74) dX9_rang_73 rfl rfl ?_
      refine AW.gr (n := 77) dX9_rang_74 fl_X9_39 s_0 rfl rfl ?_
      refine AW.gi (n := 80) dX9_rang_77 fl_X9_237 s_23 rfl rfl ?_
      refine AW.ev1i (Mc := mX5_fits) (n := 83) dX9_rang_80 lk_X9_251 k_mX5_fits s_120 rfl rfl (c_X5_fits f120 hz9) (Nat.le_of_ble_eq_true rfl) (by decide) (Nat.zero_le _) (Nat.zero_le _) rfl ?_
      rw [f121, f122, f23]
      refine AW.bif_eq (n := 86) (t := 93) dX9_rang_83 rfl rfl (fun h83 => ?_) (fun h83 => ?_)
      · refine AW.inc4 (n := 96) (1) dX9_rang_93 rfl (Nat.le_of_ble_eq_true rfl) rfl rfl ?_
        refine AW.goto (t := 31) dX9_rang_96 rfl ?_
        rw [nI_1]
        refine AW.eqL ?_ (ih (h + 1) (by omega) (by omega))
        simp [sRgL, h83]
      · refine AW.iload_n (n := 87) dX9_rang_86 rfl rfl ?_
        refine AW.iconst (n := 88) (v := 1) dX9_rang_87 rfl rfl ?_
        refine AW.iload (n := 90) dX9_rang_88 rfl rfl ?_
        refine AW.ishl (n := 91) dX9_rang_90 rfl ?_
        refine AW.ior (n := 92) dX9_rang_91 rfl ?_
        refine AW.ist3 (n := 93) dX9_rang_92 (Nat.le_of_ble_eq_true rfl) rfl rfl ?_
        refine AW.inc4 (n := 96) (1) dX9_rang_93 rfl (Nat.le_of_ble_eq_true rfl) rfl rfl ?_
        refine AW.goto (t := 31) dX9_rang_96 rfl ?_
        rw [nI_1]
        refine AW.eqL ?_ (ih (h + 1) (by omega) (by omega))
        simp [sRgL, h83]
set_option maxHeartbeats 4000000 in
set_option maxRecDepth 100000 in
theorem c_X9_rang {μ : Me} {e : Nat × (Nat → aC)} {n dn z : Nat} {way w : Int32} (ho : sOk μ 10 n dn) (hz : μ 120 2 = nI z) (hz9 : z ≤ 6) : AC 5 0 0 mX9_rang [.ref 0, .int way, .int w] (wS μ e) (a_eq (some (.int ((oRang μ n z way w).1))) (wS ((oRang μ n z way w).2) e)) := by
  refine AC.of (L := [some (.ref 0), some (.int way), some (.int w), none, none]) (j := 2) (by decide) rfl (Nat.le_of_ble_eq_true rfl) ?_
  refine AW.aload_n (n := 1) dX9_rang_0 rfl rfl ?_
  refine AW.gr (n := 4) dX9_rang_1 fl_X9_23 s_0 rfl rfl ?_
  refine AW.iload_n (n := 5) dX9_rang_4 rfl rfl ?_
  refine AW.ev1i (Mc := mX6_isWay) (n := 8) dX9_rang_5 lk_X9_218 k_mX6_isWay s_10 rfl rfl (c_X6_isWay sS_10 ho.1 ho.2.1) (Nat.le_of_ble_eq_true rfl) (by decide) (Nat.zero_le _) (Nat.zero_le _) rfl ?_
  refine AW.bif_ne (n := 11) (t := 14) dX9_rang_8 rfl rfl (fun h8 => ?_) (fun h8 => ?_)
  · refine AW.iload_n (n := 15) dX9_rang_14 rfl rfl ?_
    refine AW.iconst (n := 16) (v := 0) dX9_rang_15 rfl rfl ?_
    refine AW.iconst (n := 17) (v := 1) dX9_rang_16 rfl rfl ?_
    refine AW.es3i (Mc := mX9_within) (n := 20) dX9_rang_17 lk_X9_79 k_mX9_within (c_X9_within) (Nat.le_of_ble_eq_true rfl) (by decide) (Nat.zero_le _) (Nat.zero_le _) rfl ?_
    refine AW.bif_ne (n := 23) (t := 26) dX9_rang_20 rfl rfl (fun h20 => ?_) (fun h20 => ?_)
    · refine AW.iconst (n := 27) (v := 0) dX9_rang_26 rfl rfl ?_
      refine AW.ist3 (n := 28) dX9_rang_27 (Nat.le_of_ble_eq_true rfl) rfl rfl ?_
      refine AW.iconst (n := 29) (v := 0) dX9_rang_28 rfl rfl ?_
      refine AW.ist4 (n := 31) dX9_rang_29 (Nat.le_of_ble_eq_true rfl) rfl rfl ?_
      simp only [oRang, h8, h20, if_true]
      exact l_X9_rang ho hz hz9 5 0 (by omega) (by omega)
    · refine AW.ldc (n := 25) dX9_rang_23 kc_X9_83 rfl ?_
      refine AW.iret dX9_rang_25 rfl rfl (Nat.zero_le _) (Nat.zero_le _) ?_
      exact ⟨by simp [oRang, h8, h20], by simp [oRang, h8, h20]⟩
  · refine AW.ldc (n := 13) dX9_rang_11 kc_X9_153 rfl ?_
    refine AW.iret dX9_rang_13 rfl rfl (Nat.zero_le _) (Nat.zero_le _) ?_
    exact ⟨by simp [oRang, h8], by simp [oRang, h8]⟩
