def qTold (ν : Me) (n : Nat) (w : Int32) : Int32 :=
  if w = 0 then ν 139 0 else if w = 1 then ν 139 1 else if w = 2 then ν 139 2 else if w = 3 then ν 136 8 else if w = 4 then ν 136 14 else if w = 5 then ν 137 14 else if w = 6 then ν 137 15 else if w = 7 then ν 137 16
  else if w = 8 then sWhich (ν 137) 1 n else if w = 9 then sWhich (ν 137) 2 n else if w = 10 then sWhich (ν 137) 3 n else if w = 11 then sWhich (ν 137) 4 n else if w = 12 then ν 136 26 else if w = 13 then ν 136 30 else if w = 14 then ν 136 22 else -1000000002
def qStop (ν : Me) (s w : Int32) : Int32 := if sHas (ν 136 8) s then
    (if w = 0 then ν 140 s.toNatClampNeg else if w = 1 then ν 141 s.toNatClampNeg else if w = 2 then ν 142 s.toNatClampNeg else if w = 3 then ν 137 s.toNatClampNeg else if w = 4 then ν 143 s.toNatClampNeg else if w = 5 then ν 144 s.toNatClampNeg else if w = 6 then ν 137 (7 + s.toNatClampNeg) else -1000000002)
  else -1000000001
def qDin (ν : Me) (h : Int32) : Int32 := if sWithin h 0 11 then mDinAt ν h else -1000000002
set_option maxHeartbeats 4000000 in
set_option maxRecDepth 100000 in
theorem c_X10_fault {μ : Me} {e : Nat × (Nat → aC)}   : AC 0 0 0 mX10_fault [.ref 136] (wS μ e) (a_eq (some (.int (μ 136 18))) (wS μ e)) := by
  refine AC.of (L := [some (.ref 136)]) (j := 0) (by decide) rfl (Nat.le_of_ble_eq_true rfl) ?_
  refine AW.aload_n (n := 1) dX10_fault_0 rfl rfl ?_
  refine AW.gi (n := 4) dX10_fault_1 fl_X10_41 s_136 rfl rfl ?_
  refine AW.iret dX10_fault_4 rfl rfl (Nat.zero_le _) (Nat.zero_le _) ?_
  exact ⟨rfl, rfl⟩
set_option maxHeartbeats 4000000 in
set_option maxRecDepth 100000 in
theorem l_X10_which {μ : Me} {e : Nat × (Nat → aC)} {n : Nat} {kd : Int32} (hn : μ 136 8 = nI n) (h7 : n ≤ 7) : ∀ (m : Nat) (i : Nat), n - i < m → i ≤ n → AW none 1 0 0 mX10_which 0 0 4 [some (.ref 136), some (.int kd), some (.int (sWhich (μ 137) kd i)), some (.int (nI i))] [] (wS μ e) (a_eq (some (.int (sWhich (μ 137) kd n))) (wS μ e)) := by
  intro m
  induction m with
  | zero => intro i hm; exact absurd hm (Nat.not_lt_zero _)
  | succ m ih =>
    intro i hm hc
    refine AW.iload_n (n := 5) dX10_which_4 rfl rfl ?_
    refine AW.aload_n (n := 6) dX10_which_5 rfl rfl ?_
    refine AW.gi (n := 9) dX10_which_6 fl_X10_131 s_136 rfl rfl ?_
    refine AW.icmp_ge (n := 12) (t := 41) dX10_which_9 rfl rfl (fun h9 => ?_) (fun h9 => ?_)
    · have hi : n ≤ i := le_lit (b := n) (x := nI i) rfl (by omega) (by omega) (by rw [← hn]; exact h9)
      have he : i = n := by omega
      subst he
      refine AW.iload_n (n := 42) dX10_which_41 rfl rfl ?_
      refine AW.iret dX10_which_42 rfl rfl (Nat.zero_le _) (Nat.zero_le _) ?_
      exact ⟨rfl, rfl⟩
    · have hi : i < n := nle_lit (b := n) (x := nI i) rfl (by omega) (by omega) (by rw [← hn]; exact h9)
      refine AW.iload_n (n := 13) dX10_which_12 rfl rfl ?_
      refine AW.aload_n (n := 14) dX10_which_13 rfl rfl ?_
      refine AW.gr (n := 17) dX10_which_14 fl_X10_7 s_136 rfl rfl ?_
      refine AW.iload_n (n := 18) dX10_which_17 rfl rfl ?_
      refine AW.ia (n := 19) i dX10_which_18 s_137 rfl (by omega) (by decide) rfl ?_
      refine AW.iload_n (n := 20) dX10_which_19 rfl rfl ?_
      refine AW.icmp_ne (n := 23) (t := 27) dX10_which_20 rfl rfl (fun h20 => ?_) (fun h20 => ?_)
      · refine AW.iconst (n := 28) (v := 0) dX10_which_27 rfl rfl ?_
        refine AW.es1i (Mc := mX10_one) (n := 31) dX10_which_28 lk_X10_160 k_mX10_one (c_X10_one (b := false)) (Nat.le_of_ble_eq_true rfl) (by decide) (Nat.zero_le _) (Nat.zero_le _) rfl ?_
        refine AW.iload_n (n := 32) dX10_which_31 rfl rfl ?_
        refine AW.ishl (n := 33) dX10_which_32 rfl ?_
        refine AW.ior (n := 34) dX10_which_33 rfl ?_
        refine AW.ist2 (n := 35) dX10_which_34 (Nat.le_of_ble_eq_true rfl) rfl rfl ?_
        refine AW.inc3 (n := 38) (1) dX10_which_35 rfl (Nat.le_of_ble_eq_true rfl) rfl rfl ?_
        refine AW.goto (t := 4) dX10_which_38 rfl ?_
        rw [nI_1]
        refine AW.eqL (by simp [sWhich, h20, b2i, or0]) (ih (i + 1) (by omega) (by omega))
      · refine AW.iconst (n := 24) (v := 1) dX10_which_23 rfl rfl ?_
        refine AW.goto (t := 28) dX10_which_24 rfl ?_
        refine AW.es1i (Mc := mX10_one) (n := 31) dX10_which_28 lk_X10_160 k_mX10_one (c_X10_one (b := true)) (Nat.le_of_ble_eq_true rfl) (by decide) (Nat.zero_le _) (Nat.zero_le _) rfl ?_
        refine AW.iload_n (n := 32) dX10_which_31 rfl rfl ?_
        refine AW.ishl (n := 33) dX10_which_32 rfl ?_
        refine AW.ior (n := 34) dX10_which_33 rfl ?_
        refine AW.ist2 (n := 35) dX10_which_34 (Nat.le_of_ble_eq_true rfl) rfl rfl ?_
        refine AW.inc3 (n := 38) (1) dX10_which_35 rfl (Nat.le_of_ble_eq_true rfl) rfl rfl ?_
        refine AW.goto (t := 4) dX10_which_38 rfl ?_
        rw [nI_1]
        refine AW.eqL (by simp [sWhich, h20, b2i, or0]) (ih (i + 1) (by omega) (by omega))
set_option maxHeartbeats 4000000 in
set_option maxRecDepth 100000 in
theorem c_X10_which {μ : Me} {e : Nat × (Nat → aC)} {n : Nat} {kd : Int32} (hn : μ 136 8 = nI n) (h7 : n ≤ 7) : AC 1 0 0 mX10_which [.ref 136, .int kd] (wS μ e) (a_eq (some (.int (sWhich (μ 137) kd n))) (wS μ e)) := by
  refine AC.of (L := [some (.ref 136), some (.int kd), none, none]) (j := 2) (by decide) rfl (Nat.le_of_ble_eq_true rfl) ?_
  refine AW.iconst (n := 1) (v := 0) dX10_which_0 rfl rfl ?_
  refine AW.ist2 (n := 2) dX10_which_1 (Nat.le_of_ble_eq_true rfl) rfl rfl ?_
  refine AW.iconst (n := 3) (v := 0) dX10_which_2 rfl rfl ?_
  refine AW.ist3 (n := 4) dX10_which_3 (Nat.le_of_ble_eq_true rfl) rfl rfl ?_
  exact l_X10_which hn h7 (n + 1) 0 (by omega) (Nat.zero_le _)
set_option maxHeartbeats 4000000 in
set_option maxRecDepth 100000 in
theorem c_X10_told {μ : Me} {e : Nat × (Nat → aC)} {n : Nat} {w : Int32} (hn : μ 136 8 = nI n) (h7 : n ≤ 7) : AC 2 0 0 mX10_told [.ref 136, .int w] (wS μ e) (a_eq (some (.int (qTold μ n w))) (wS μ e)) := by
  refine AC.of (L := [some (.ref 136), some (.int w)]) (j := 0) (by decide) rfl (Nat.le_of_ble_eq_true rfl) ?_
  refine AW.iload_n (n := 1) dX10_told_0 rfl rfl ?_
  by_cases q0 : w = 0
  · subst q0
    refine AW.tsIn (t := 76) (o := 75) dX10_told_1 (by decide) (by decide) rfl rfl ?_
    refine AW.aload_n (n := 77) dX10_told_76 rfl rfl ?_
    refine AW.gr (n := 80) dX10_told_77 fl_X10_17 s_136 rfl rfl ?_
    refine AW.iconst (n := 81) (v := 0) dX10_told_80 rfl rfl ?_
    refine AW.ia (n := 82) 0 dX10_told_81 s_139 rfl (by omega) (by decide) rfl ?_
    refine AW.iret dX10_told_82 rfl rfl (Nat.zero_le _) (Nat.zero_le _) ?_
    exact ⟨by simp [qTold], rfl⟩
  by_cases q1 : w = 1
  · subst q1
    refine AW.tsIn (t := 83) (o := 82) dX10_told_1 (by decide) (by decide) rfl rfl ?_
    refine AW.aload_n (n := 84) dX10_told_83 rfl rfl ?_
    refine AW.gr (n := 87) dX10_told_84 fl_X10_17 s_136 rfl rfl ?_
    refine AW.iconst (n := 88) (v := 1) dX10_told_87 rfl rfl ?_
    refine AW.ia (n := 89) 1 dX10_told_88 s_139 rfl (by omega) (by decide) rfl ?_
    refine AW.iret dX10_told_89 rfl rfl (Nat.zero_le _) (Nat.zero_le _) ?_
    exact ⟨by simp [qTold], rfl⟩
  by_cases q2 : w = 2
  · subst q2
    refine AW.tsIn (t := 90) (o := 89) dX10_told_1 (by decide) (by decide) rfl rfl ?_
    refine AW.aload_n (n := 91) dX10_told_90 rfl rfl ?_
    refine AW.gr (n := 94) dX10_told_91 fl_X10_17 s_136 rfl rfl ?_
    refine AW.iconst (n := 95) (v := 2) dX10_told_94 rfl rfl ?_
    refine AW.ia (n := 96) 2 dX10_told_95 s_139 rfl (by omega) (by decide) rfl ?_
    refine AW.iret dX10_told_96 rfl rfl (Nat.zero_le _) (Nat.zero_le _) ?_
    exact ⟨by simp [qTold], rfl⟩
  by_cases q3 : w = 3
  · subst q3
    refine AW.tsIn (t := 97) (o := 96) dX10_told_1 (by decide) (by decide) rfl rfl ?_
    refine AW.aload_n (n := 98) dX10_told_97 rfl rfl ?_
    refine AW.gi (n := 101) dX10_told_98 fl_X10_131 s_136 rfl rfl ?_
    refine AW.iret dX10_told_101 rfl rfl (Nat.zero_le _) (Nat.zero_le _) ?_
    exact ⟨by simp [qTold], rfl⟩
  by_cases q4 : w = 4
  · subst q4
    refine AW.tsIn (t := 102) (o := 101) dX10_told_1 (by decide) (by decide) rfl rfl ?_
    refine AW.aload_n (n := 103) dX10_told_102 rfl rfl ?_
    refine AW.gi (n := 106) dX10_told_103 fl_X10_73 s_136 rfl rfl ?_
    refine AW.iret dX10_told_106 rfl rfl (Nat.zero_le _) (Nat.zero_le _) ?_
    exact ⟨by simp [qTold], rfl⟩
  by_cases q5 : w = 5
  · subst q5
    refine AW.tsIn (t := 107) (o := 106) dX10_told_1 (by decide) (by decide) rfl rfl ?_
    refine AW.aload_n (n := 108) dX10_told_107 rfl rfl ?_
    refine AW.gr (n := 111) dX10_told_108 fl_X10_7 s_136 rfl rfl ?_
    refine AW.bipush (n := 113) (v := 14) dX10_told_111 rfl rfl ?_
    refine AW.ia (n := 114) 14 dX10_told_113 s_137 rfl (by omega) (by decide) rfl ?_
    refine AW.iret dX10_told_114 rfl rfl (Nat.zero_le _) (Nat.zero_le _) ?_
    exact ⟨by simp [qTold], rfl⟩
  by_cases q6 : w = 6
  · subst q6
    refine AW.tsIn (t := 115) (o := 114) dX10_told_1 (by decide) (by decide) rfl rfl ?_
    refine AW.aload_n (n := 116) dX10_told_115 rfl rfl ?_
    refine AW.gr (n := 119) dX10_told_116 fl_X10_7 s_136 rfl rfl ?_
    refine AW.bipush (n := 121) (v := 15) dX10_told_119 rfl rfl ?_
    refine AW.ia (n := 122) 15 dX10_told_121 s_137 rfl (by omega) (by decide) rfl ?_
    refine AW.iret dX10_told_122 rfl rfl (Nat.zero_le _) (Nat.zero_le _) ?_
    exact ⟨by simp [qTold], rfl⟩
  by_cases q7 : w = 7
  · subst q7
    refine AW.tsIn (t := 123) (o := 122) dX10_told_1 (by decide) (by decide) rfl rfl ?_
    refine AW.aload_n (n := 124) dX10_told_123 rfl rfl ?_
    refine AW.gr (n := 127) dX10_told_124 fl_X10_7 s_136 rfl rfl ?_
    refine AW.bipush (n := 129) (v := 16) dX10_told_127 rfl rfl ?_
    refine AW.ia (n := 130) 16 dX10_told_129 s_137 rfl (by omega) (by decide) rfl ?_
    refine AW.iret dX10_told_130 rfl rfl (Nat.zero_le _) (Nat.zero_le _) ?_
    exact ⟨by simp [qTold], rfl⟩
  by_cases q8 : w = 8
  · subst q8
    refine AW.tsIn (t := 131) (o := 130) dX10_told_1 (by decide) (by decide) rfl rfl ?_
    refine AW.aload_n (n := 132) dX10_told_131 rfl rfl ?_
    refine AW.iconst (n := 133) (v := 1) dX10_told_132 rfl rfl ?_
    refine AW.ev1i (Mc := mX10_which) (n := 136) dX10_told_133 lk_X10_164 k_mX10_which s_136 rfl rfl (c_X10_which hn h7) (Nat.le_of_ble_eq_true rfl) (by decide) (Nat.zero_le _) (Nat.zero_le _) rfl ?_
    refine AW.iret dX10_told_136 rfl rfl (Nat.zero_le _) (Nat.zero_le _) ?_
    exact ⟨by simp [qTold], rfl⟩
  by_cases q9 : w = 9
  · subst q9
    refine AW.tsIn (t := 137) (o := 136) dX10_told_1 (by decide) (by decide) rfl rfl ?_
    refine AW.aload_n (n := 138) dX10_told_137 rfl rfl ?_
    refine AW.iconst (n := 139) (v := 2) dX10_told_138 rfl rfl ?_
    refine AW.ev1i (Mc := mX10_which) (n := 142) dX10_told_139 lk_X10_164 k_mX10_which s_136 rfl rfl (c_X10_which hn h7) (Nat.le_of_ble_eq_true rfl) (by decide) (Nat.zero_le _) (Nat.zero_le _) rfl ?_
    refine AW.iret dX10_told_142 rfl rfl (Nat.zero_le _) (Nat.zero_le _) ?_
    exact ⟨by simp [qTold], rfl⟩
  by_cases q10 : w = 10
  · subst q10
    refine AW.tsIn (t := 143) (o := 142) dX10_told_1 (by decide) (by decide) rfl rfl ?_
    refine AW.aload_n (n := 144) dX10_told_143 rfl rfl ?_
    refine AW.iconst (n := 145) (v := 3) dX10_told_144 rfl rfl ?_
    refine AW.ev1i (Mc := mX10_which) (n := 148) dX10_told_145 lk_X10_164 k_mX10_which s_136 rfl rfl (c_X10_which hn h7) (Nat.le_of_ble_eq_true rfl) (by decide) (Nat.zero_le _) (Nat.zero_le _) rfl ?_
    refine AW.iret dX10_told_148 rfl rfl (Nat.zero_le _) (Nat.zero_le _) ?_
    exact ⟨by simp [qTold], rfl⟩
  by_cases q11 : w = 11
  · subst q11
    refine AW.tsIn (t := 149) (o := 148) dX10_told_1 (by decide) (by decide) rfl rfl ?_
    refine AW.aload_n (n := 150) dX10_told_149 rfl rfl ?_
    refine AW.iconst (n := 151) (v := 4) dX10_told_150 rfl rfl ?_
    refine AW.ev1i (Mc := mX10_which) (n := 154) dX10_told_151 lk_X10_164 k_mX10_which s_136 rfl rfl (c_X10_which hn h7) (Nat.le_of_ble_eq_true rfl) (by decide) (Nat.zero_le _) (Nat.zero_le _) rfl ?_
    refine AW.iret dX10_told_154 rfl rfl (Nat.zero_le _) (Nat.zero_le _) ?_
    exact ⟨by simp [qTold], rfl⟩
  by_cases q12 : w = 12
  · subst q12
    refine AW.tsIn (t := 155) (o := 154) dX10_told_1 (by decide) (by decide) rfl rfl ?_
    refine AW.aload_n (n := 156) dX10_told_155 rfl rfl ?_
    refine AW.gi (n := 159) dX10_told_156 fl_X10_137 s_136 rfl rfl ?_
    refine AW.iret dX10_told_159 rfl rfl (Nat.zero_le _) (Nat.zero_le _) ?_
    exact ⟨by simp [qTold], rfl⟩
  by_cases q13 : w = 13
  · subst q13
    refine AW.tsIn (t := 160) (o := 159) dX10_told_1 (by decide) (by decide) rfl rfl ?_
    refine AW.aload_n (n := 161) dX10_told_160 rfl rfl ?_
    refine AW.gi (n := 164) dX10_told_161 fl_X10_140 s_136 rfl rfl ?_
    refine AW.iret dX10_told_164 rfl rfl (Nat.zero_le _) (Nat.zero_le _) ?_
    exact ⟨by simp [qTold], rfl⟩
  by_cases q14 : w = 14
  · subst q14
    refine AW.tsIn (t := 165) (o := 164) dX10_told_1 (by decide) (by decide) rfl rfl ?_
    refine AW.aload_n (n := 166) dX10_told_165 rfl rfl ?_
    refine AW.gi (n := 169) dX10_told_166 fl_X10_143 s_136 rfl rfl ?_
    refine AW.iret dX10_told_169 rfl rfl (Nat.zero_le _) (Nat.zero_le _) ?_
    exact ⟨by simp [qTold], rfl⟩
  refine AW.tsOut (t := 170) dX10_told_1 (ts_out 14 w (by decide) (by intro k hk; rcases (show k = 0 ∨ k = 1 ∨ k = 2 ∨ k = 3 ∨ k = 4 ∨ k = 5 ∨ k = 6 ∨ k = 7 ∨ k = 8 ∨ k = 9 ∨ k = 10 ∨ k = 11 ∨ k = 12 ∨ k = 13 ∨ k = 14 by omega) with rfl | rfl | rfl | rfl | rfl | rfl | rfl | rfl | rfl | rfl | rfl | rfl | rfl | rfl | rfl <;> assumption)) rfl ?_
  refine AW.ldc (n := 172) dX10_told_170 kc_X10_72 rfl ?_
  refine AW.iret dX10_told_172 rfl rfl (Nat.zero_le _) (Nat.zero_le _) ?_
  exact ⟨by simp [qTold, q0, q1, q2, q3, q4, q5, q6, q7, q8, q9, q10, q11, q12, q13, q14], rfl⟩
set_option maxHeartbeats 4000000 in
set_option maxRecDepth 100000 in
theorem c_X10_stop {μ : Me} {e : Nat × (Nat → aC)} {n : Nat} {s w : Int32} (hn : μ 136 8 = nI n) (h7 : n ≤ 7) : AC 2 0 0 mX10_stop [.ref 136, .int s, .int w] (wS μ e) (a_eq (some (.int (qStop μ s w))) (wS μ e)) := by
  refine AC.of (L := [some (.ref 136), some (.int s), some (.int w)]) (j := 0) (by decide) rfl (Nat.le_of_ble_eq_true rfl) ?_
  refine AW.aload_n (n := 1) dX10_stop_0 rfl rfl ?_
  refine AW.iload_n (n := 2) dX10_stop_1 rfl rfl ?_
  refine AW.ev1i (Mc := mX10_isStop) (n := 5) dX10_stop_2 lk_X10_150 k_mX10_isStop s_136 rfl rfl (c_X10_isStop hn h7) (Nat.le_of_ble_eq_true rfl) (by decide) (Nat.zero_le _) (Nat.zero_le _) rfl ?_
  refine AW.bif_ne (n := 8) (t := 11) dX10_stop_5 rfl rfl (fun h5 => ?_) (fun h5 => ?_)
  · obtain ⟨j, hj, rfl⟩ := sHas_j hn h7 h5
    have hjc := cl_nI (show j < 2147483648 by omega)
    refine AW.iload_n (n := 12) dX10_stop_11 rfl rfl ?_
    by_cases q0 : w = 0
    · subst q0
      refine AW.tsIn (t := 56) (o := 44) dX10_stop_12 (by decide) (by decide) rfl rfl ?_
      refine AW.aload_n (n := 57) dX10_stop_56 rfl rfl ?_
      refine AW.gr (n := 60) dX10_stop_57 fl_X10_20 s_136 rfl rfl ?_
      refine AW.iload_n (n := 61) dX10_stop_60 rfl rfl ?_
      refine AW.ia (n := 62) j dX10_stop_61 s_140 rfl (by omega) (by decide) rfl ?_
      refine AW.iret dX10_stop_62 rfl rfl (Nat.zero_le _) (Nat.zero_le _) ?_
      exact ⟨by simp [qStop, h5, hjc], rfl⟩
    by_cases q1 : w = 1
    · subst q1
      refine AW.tsIn (t := 63) (o := 51) dX10_stop_12 (by decide) (by decide) rfl rfl ?_
      refine AW.aload_n (n := 64) dX10_stop_63 rfl rfl ?_
      refine AW.gr (n := 67) dX10_stop_64 fl_X10_23 s_136 rfl rfl ?_
      refine AW.iload_n (n := 68) dX10_stop_67 rfl rfl ?_
      refine AW.ia (n := 69) j dX10_stop_68 s_141 rfl (by omega) (by decide) rfl ?_
      refine AW.iret dX10_stop_69 rfl rfl (Nat.zero_le _) (Nat.zero_le _) ?_
      exact ⟨by simp [qStop, h5, hjc], rfl⟩
    by_cases q2 : w = 2
    · subst q2
      refine AW.tsIn (t := 70) (o := 58) dX10_stop_12 (by decide) (by decide) rfl rfl ?_
      refine AW.aload_n (n := 71) dX10_stop_70 rfl rfl ?_
      refine AW.gr (n := 74) dX10_stop_71 fl_X10_26 s_136 rfl rfl ?_
      refine AW.iload_n (n := 75) dX10_stop_74 rfl rfl ?_
      refine AW.ia (n := 76) j dX10_stop_75 s_142 rfl (by omega) (by decide) rfl ?_
      refine AW.iret dX10_stop_76 rfl rfl (Nat.zero_le _) (Nat.zero_le _) ?_
      exact ⟨by simp [qStop, h5, hjc], rfl⟩
    by_cases q3 : w = 3
    · subst q3
      refine AW.tsIn (t := 77) (o := 65) dX10_stop_12 (by decide) (by decide) rfl rfl ?_
      refine AW.aload_n (n := 78) dX10_stop_77 rfl rfl ?_
      refine AW.gr (n := 81) dX10_stop_78 fl_X10_7 s_136 rfl rfl ?_
      refine AW.iload_n (n := 82) dX10_stop_81 rfl rfl ?_
      refine AW.ia (n := 83) j dX10_stop_82 s_137 rfl (by omega) (by decide) rfl ?_
      refine AW.iret dX10_stop_83 rfl rfl (Nat.zero_le _) (Nat.zero_le _) ?_
      exact ⟨by simp [qStop, h5, hjc], rfl⟩
    by_cases q4 : w = 4
    · subst q4
      refine AW.tsIn (t := 84) (o := 72) dX10_stop_12 (by decide) (by decide) rfl rfl ?_
      refine AW.aload_n (n := 85) dX10_stop_84 rfl rfl ?_
      refine AW.gr (n := 88) dX10_stop_85 fl_X10_29 s_136 rfl rfl ?_
      refine AW.iload_n (n := 89) dX10_stop_88 rfl rfl ?_
      refine AW.ia (n := 90) j dX10_stop_89 s_143 rfl (by omega) (by decide) rfl ?_
      refine AW.iret dX10_stop_90 rfl rfl (Nat.zero_le _) (Nat.zero_le _) ?_
      exact ⟨by simp [qStop, h5, hjc], rfl⟩
    by_cases q5 : w = 5
    · subst q5
      refine AW.tsIn (t := 91) (o := 79) dX10_stop_12 (by decide) (by decide) rfl rfl ?_
      refine AW.aload_n (n := 92) dX10_stop_91 rfl rfl ?_
      refine AW.gr (n := 95) dX10_stop_92 fl_X10_32 s_136 rfl rfl ?_
      refine AW.iload_n (n := 96) dX10_stop_95 rfl rfl ?_
      refine AW.ia (n := 97) j dX10_stop_96 s_144 rfl (by omega) (by decide) rfl ?_
      refine AW.iret dX10_stop_97 rfl rfl (Nat.zero_le _) (Nat.zero_le _) ?_
      exact ⟨by simp [qStop, h5, hjc], rfl⟩
    by_cases q6 : w = 6
    · subst q6
      refine AW.tsIn (t := 98) (o := 86) dX10_stop_12 (by decide) (by decide) rfl rfl ?_
      refine AW.aload_n (n := 99) dX10_stop_98 rfl rfl ?_
      refine AW.gr (n := 102) dX10_stop_99 fl_X10_7 s_136 rfl rfl ?_
      refine AW.bipush (n := 104) (v := 7) dX10_stop_102 rfl rfl ?_
      refine AW.iload_n (n := 105) dX10_stop_104 rfl rfl ?_
      refine AW.iadd (n := 106) dX10_stop_105 rfl ?_
      refine AW.ia (n := 107) (7 + j) dX10_stop_106 s_137 (nI_add 7 j) (by omega) (by decide) rfl ?_
      refine AW.iret dX10_stop_107 rfl rfl (Nat.zero_le _) (Nat.zero_le _) ?_
      exact ⟨by simp [qStop, h5, hjc], rfl⟩
    refine AW.tsOut (t := 108) dX10_stop_12 (ts_out 6 w (by decide) (by intro k hk; rcases (show k = 0 ∨ k = 1 ∨ k = 2 ∨ k = 3 ∨ k = 4 ∨ k = 5 ∨ k = 6 by omega) with rfl | rfl | rfl | rfl | rfl | rfl | rfl <;> assumption)) rfl ?_
    refine AW.ldc (n := 110) dX10_stop_108 kc_X10_72 rfl ?_
    refine AW.iret dX10_stop_110 rfl rfl (Nat.zero_le _) (Nat.zero_le _) ?_
    exact ⟨by simp [qStop, h5, hjc, q0, q1, q2, q3, q4, q5, q6], rfl⟩
  · refine AW.ldc (n := 10) dX10_stop_8 kc_X10_167 rfl ?_
    refine AW.iret dX10_stop_10 rfl rfl (Nat.zero_le _) (Nat.zero_le _) ?_
    exact ⟨by simp [qStop, h5], rfl⟩
set_option maxHeartbeats 4000000 in
set_option maxRecDepth 100000 in
theorem c_X10_dinAt {μ : Me} {e : Nat × (Nat → aC)} {d h : Nat} (hd : μ 136 11 = nI d) (h12 : d ≤ 12) (hh : h < 2147483648) : AC 0 0 0 mX10_dinAt [.ref 136, .int (nI h)] (wS μ e) (a_eq (some (.int (mDinAt μ (nI h)))) (wS μ e)) := by
  refine AC.of (L := [some (.ref 136), some (.int (nI h))]) (j := 0) (by decide) rfl (Nat.le_of_ble_eq_true rfl) ?_
  refine AW.aload_n (n := 1) dX10_dinAt_0 rfl rfl ?_
  refine AW.gi (n := 4) dX10_dinAt_1 fl_X10_134 s_136 rfl rfl ?_
  refine AW.if_ne (n := 7) (t := 11) dX10_dinAt_4 rfl rfl (fun h4 => ?_) (fun h4 => ?_)
  · refine AW.aload_n (n := 12) dX10_dinAt_11 rfl rfl ?_
    refine AW.gr (n := 15) dX10_dinAt_12 fl_X10_35 s_136 rfl rfl ?_
    refine AW.iload_n (n := 16) dX10_dinAt_15 rfl rfl ?_
    refine AW.aload_n (n := 17) dX10_dinAt_16 rfl rfl ?_
    refine AW.gi (n := 20) dX10_dinAt_17 fl_X10_134 s_136 rfl rfl ?_
    refine AW.irem (n := 21) dX10_dinAt_20 h4 rfl ?_
    have hd0 : 0 < d := by
      rcases Nat.eq_zero_or_pos d with h0 | h0
      · subst h0; exact absurd hd h4
      · exact h0
    have hj : (nI h : Int32) - nI h / μ 136 11 * μ 136 11 = nI (h % d) := by rw [hd]; exact pk_rem hh hd0 (by omega)
    have hlt : h % d < d := Nat.mod_lt _ hd0
    refine AW.ia (n := 22) (h % d) dX10_dinAt_21 s_145 hj (by omega) (by decide) rfl ?_
    refine AW.iret dX10_dinAt_22 rfl rfl (Nat.zero_le _) (Nat.zero_le _) ?_
    exact ⟨by rw [mDinAt, if_neg h4, hj, cl_nI (show h % d < 2147483648 by omega)], rfl⟩
  · refine AW.iconst (n := 8) (v := 0) dX10_dinAt_7 rfl rfl ?_
    refine AW.goto (t := 22) dX10_dinAt_8 rfl ?_
    refine AW.iret dX10_dinAt_22 rfl rfl (Nat.zero_le _) (Nat.zero_le _) ?_
    exact ⟨by simp [mDinAt, h4], rfl⟩
set_option maxHeartbeats 4000000 in
set_option maxRecDepth 100000 in
theorem c_X10_din {μ : Me} {e : Nat × (Nat → aC)} {d : Nat} {h : Int32} (hd : μ 136 11 = nI d) (h12 : d ≤ 12) : AC 1 0 0 mX10_din [.ref 136, .int h] (wS μ e) (a_eq (some (.int (qDin μ h))) (wS μ e)) := by
  refine AC.of (L := [some (.ref 136), some (.int h)]) (j := 0) (by decide) rfl (Nat.le_of_ble_eq_true rfl) ?_
  refine AW.iload_n (n := 1) dX10_din_0 rfl rfl ?_
  refine AW.i2l (n := 2) dX10_din_1 rfl ?_
  refine AW.lconst (n := 3) (v := 0) dX10_din_2 rfl rfl ?_
  refine AW.ldc2 (n := 6) dX10_din_3 kl_X10_168 rfl ?_
  refine AW.es3i (Mc := mX10_in) (n := 9) dX10_din_6 lk_X10_68 k_mX10_in (c_X10_in h 0 11 rfl (by decide) (by decide)) (Nat.le_of_ble_eq_true rfl) (by decide) (Nat.zero_le _) (Nat.zero_le _) rfl ?_
  refine AW.bif_eq (n := 12) (t := 20) dX10_din_9 rfl rfl (fun h9 => ?_) (fun h9 => ?_)
  · refine AW.ldc (n := 22) dX10_din_20 kc_X10_72 rfl ?_
    refine AW.iret dX10_din_22 rfl rfl (Nat.zero_le _) (Nat.zero_le _) ?_
    exact ⟨by simp [qDin, h9], rfl⟩
  · obtain ⟨j, -, hj, rfl⟩ := win_j (a := 0) (b := 11) (by omega) h9 (by omega)
    refine AW.aload_n (n := 13) dX10_din_12 rfl rfl ?_
    refine AW.iload_n (n := 14) dX10_din_13 rfl rfl ?_
    refine AW.ev1i (Mc := mX10_dinAt) (n := 17) dX10_din_14 lk_X10_170 k_mX10_dinAt s_136 rfl rfl (c_X10_dinAt hd h12 (by omega)) (Nat.le_of_ble_eq_true rfl) (by decide) (Nat.zero_le _) (Nat.zero_le _) rfl ?_
    refine AW.goto (t := 22) dX10_din_17 rfl ?_
    refine AW.iret dX10_din_22 rfl rfl (Nat.zero_le _) (Nat.zero_le _) ?_
    exact ⟨by simp [qDin, h9], rfl⟩
set_option maxHeartbeats 4000000 in
set_option maxRecDepth 100000 in
theorem c_X10_isInAt {μ : Me} {e : Nat × (Nat → aC)} {j : Nat} {hour : Int32} (hj : j < 14) : AC 1 0 0 mX10_isInAt [.ref 136, .int (nI j), .int hour] (wS μ e) (a_eq (some (.int (b2i (mIsIn μ (nI j) hour)))) (wS μ e)) := by
  refine AC.of (L := [some (.ref 136), some (.int (nI j)), some (.int hour)]) (j := 0) (by decide) rfl (Nat.le_of_ble_eq_true rfl) ?_
  refine AW.iload_n (n := 1) dX10_isInAt_0 rfl rfl ?_
  refine AW.bipush (n := 3) (v := 12) dX10_isInAt_1 rfl rfl ?_
  refine AW.icmp_ge (n := 6) (t := 23) dX10_isInAt_3 rfl rfl (fun h3 => ?_) (fun h3 => ?_)
  · refine AW.iconst (n := 24) (v := 0) dX10_isInAt_23 rfl rfl ?_
    refine AW.iret dX10_isInAt_24 rfl rfl (Nat.zero_le _) (Nat.zero_le _) ?_
    exact ⟨by simp [mIsIn, b2i, h3, cl_nI (show j < 2147483648 by omega)], rfl⟩
  · refine AW.aload_n (n := 7) dX10_isInAt_6 rfl rfl ?_
    refine AW.gr (n := 10) dX10_isInAt_7 fl_X10_23 s_136 rfl rfl ?_
    refine AW.iload_n (n := 11) dX10_isInAt_10 rfl rfl ?_
    refine AW.ia (n := 12) j dX10_isInAt_11 s_141 rfl (by omega) (by decide) rfl ?_
    refine AW.iload_n (n := 13) dX10_isInAt_12 rfl rfl ?_
    refine AW.es2i (Mc := mX10_has) (n := 16) dX10_isInAt_13 lk_X10_154 k_mX10_has (c_X10_has) (Nat.le_of_ble_eq_true rfl) (by decide) (Nat.zero_le _) (Nat.zero_le _) rfl ?_
    refine AW.bif_eq (n := 19) (t := 23) dX10_isInAt_16 rfl rfl (fun h16 => ?_) (fun h16 => ?_)
    · refine AW.iconst (n := 24) (v := 0) dX10_isInAt_23 rfl rfl ?_
      refine AW.iret dX10_isInAt_24 rfl rfl (Nat.zero_le _) (Nat.zero_le _) ?_
      exact ⟨by simp [mIsIn, b2i, h3, h16, cl_nI (show j < 2147483648 by omega)], rfl⟩
    · refine AW.iconst (n := 20) (v := 1) dX10_isInAt_19 rfl rfl ?_
      refine AW.goto (t := 24) dX10_isInAt_20 rfl ?_
      refine AW.iret dX10_isInAt_24 rfl rfl (Nat.zero_le _) (Nat.zero_le _) ?_
      exact ⟨by simp [mIsIn, b2i, h3, h16, cl_nI (show j < 2147483648 by omega)], rfl⟩
set_option maxHeartbeats 4000000 in
set_option maxRecDepth 100000 in
theorem l_X10_copy {μ : Me} {e : Nat × (Nat → aC)} {x y : Nat} (hx : x ≤ 594) (hy : y ≤ 594) : ∀ (m : Nat) (i : Nat), 18 - i < m → i ≤ 18 → AW none 0 0 0 mX10_copy 0 0 2 [some (.ref 136), some (.int (nI x)), some (.int (nI y)), some (.int (nI i))] [] (wS (mCpy μ x y i) e) (a_eq none (wS (mCopy μ x y) e)) := by
  intro m
  induction m with
  | zero => intro i hm; exact absurd hm (Nat.not_lt_zero _)
  | succ m ih =>
    intro i hm hc
    refine AW.iload_n (n := 3) dX10_copy_2 rfl rfl ?_
    refine AW.bipush (n := 5) (v := 18) dX10_copy_3 rfl rfl ?_
    refine AW.icmp_ge (n := 8) (t := 30) dX10_copy_5 rfl rfl (fun h5 => ?_) (fun h5 => ?_)
    · have hi : i = 18 := by have := le_lit (b := 18) (x := nI i) rfl (by omega) (by omega) h5; omega
      subst hi
      refine AW.ret dX10_copy_30 rfl (Nat.zero_le _) (Nat.zero_le _) ?_
      exact ⟨rfl, rfl⟩
    · have hi : i < 18 := nle_lit (b := 18) (x := nI i) rfl (by omega) (by omega) h5
      refine AW.aload_n (n := 9) dX10_copy_8 rfl rfl ?_
      refine AW.gr (n := 12) dX10_copy_9 fl_X10_7 s_136 rfl rfl ?_
      refine AW.iload_n (n := 13) dX10_copy_12 rfl rfl ?_
      refine AW.iload_n (n := 14) dX10_copy_13 rfl rfl ?_
      refine AW.iadd (n := 15) dX10_copy_14 rfl ?_
      refine AW.aload_n (n := 16) dX10_copy_15 rfl rfl ?_
      refine AW.gr (n := 19) dX10_copy_16 fl_X10_7 s_136 rfl rfl ?_
      refine AW.iload_n (n := 20) dX10_copy_19 rfl rfl ?_
      refine AW.iload_n (n := 21) dX10_copy_20 rfl rfl ?_
      refine AW.iadd (n := 22) dX10_copy_21 rfl ?_
      refine AW.ia (n := 23) (x + i) dX10_copy_22 s_137 (nI_add x i) (by omega) (by decide) rfl ?_
      refine AW.is (n := 24) (y + i) dX10_copy_23 s_137 (nI_add y i) (by omega) (by decide) rfl ?_
      refine AW.inc3 (n := 27) (1) dX10_copy_24 rfl (Nat.le_of_ble_eq_true rfl) rfl rfl ?_
      refine AW.goto (t := 2) dX10_copy_27 rfl ?_
      rw [nI_1]
      exact ih (i + 1) (by omega) (by omega)
set_option maxHeartbeats 4000000 in
set_option maxRecDepth 100000 in
theorem c_X10_copy {μ : Me} {e : Nat × (Nat → aC)} {x y : Nat} (hx : x ≤ 594) (hy : y ≤ 594) : AC 0 0 0 mX10_copy [.ref 136, .int (nI x), .int (nI y)] (wS μ e) (a_eq none (wS (mCopy μ x y) e)) := by
  refine AC.of (L := [some (.ref 136), some (.int (nI x)), some (.int (nI y)), none]) (j := 1) (by decide) rfl (Nat.le_of_ble_eq_true rfl) ?_
  refine AW.iconst (n := 1) (v := 0) dX10_copy_0 rfl rfl ?_
  refine AW.ist3 (n := 2) dX10_copy_1 (Nat.le_of_ble_eq_true rfl) rfl rfl ?_
  exact l_X10_copy hx hy 19 0 (by omega) (by omega)
