theorem tOk.mset {B a j : Nat} {x : Int32} {μ : Me} (h : tOk B μ) (hj : a = 1 → j ≠ 1 ∧ j ≠ 4) : tOk B (mu μ a j x) := by
  obtain ⟨l, t, h1, h2, h3, h4⟩ := h
  refine ⟨l, t, ?_, h2, ?_, h4⟩
  · rw [mu_at, if_neg]
    · exact h1
    · rintro ⟨q1, q2⟩; exact (hj q1.symm).1 q2.symm
  · rw [mu_at, if_neg]
    · exact h3
    · rintro ⟨q1, q2⟩; exact (hj q1.symm).2 q2.symm
theorem tOk.at {B B' t' : Nat} {μ : Me} (h : tOk B μ) (ht : t' ≤ B') : tOk B' (mu μ 1 4 (nI t')) := by
  obtain ⟨l, t, h1, h2, h3, h4⟩ := h
  exact ⟨l, t', by rw [mu_nj (by decide)]; exact h1, h2, mu_same _ _ _ _, ht⟩
theorem tOk.fail {B : Nat} {k w : Int32} {μ : Me} (h : tOk B μ) : tOk B (sFail μ k w) := by
  unfold sFail
  split
  · exact (h.mset (fun _ => ⟨by decide, by decide⟩)).mset (fun _ => ⟨by decide, by decide⟩)
  · exact h
theorem tOk.pos {B : Nat} {μ : Me} (h : tOk B μ) (hB : 240 ≤ B) (hB9 : B ≤ 100000) : sPos μ ≤ B := by
  obtain ⟨l, t, h1, h2, h3, h4⟩ := h
  obtain ⟨e1, e2⟩ := tOk.r h1 h2 h3 h4 hB9
  unfold sPos
  rw [e1, e2]
  have := sSkip_le (μ 2) (l - t) t
  omega
theorem tOk.peek {B : Nat} {μ : Me} (h : tOk B μ) (hB : 240 ≤ B) (hB9 : B ≤ 100000) : tOk B (sPeek μ).2 := h.at (h.pos hB hB9)
theorem tOk.inc {B : Nat} {μ : Me} (h : tOk B μ) : tOk (B + 1) (mu μ 1 4 (μ 1 4 + 1)) := by
  obtain ⟨l, t, h1, h2, h3, h4⟩ := h
  refine ⟨l, t + 1, by rw [mu_nj (by decide)]; exact h1, h2, ?_, by omega⟩
  rw [mu_same, h3, nI_1]
theorem tOk.numB {B : Nat} {lo hi : Int32} {μ : Me} (h : tOk B μ) (hB : 240 ≤ B) (hB9 : B ≤ 100000) : tOk B (sNumB μ lo hi).2 := by
  have hd : (sDig (μ 2) (tLen μ - tAt μ) (tAt μ) 0 0).1 ≤ B := by
    obtain ⟨l, t, h1, h2, h3, h4⟩ := h
    obtain ⟨e1, e2⟩ := tOk.r h1 h2 h3 h4 hB9
    rw [e1, e2]
    have := sDig_le (μ 2) (l - t) t 0 0
    omega
  have h5 : tOk B (mu μ 1 5 (μ 1 4)) := h.mset (fun _ => ⟨by decide, by decide⟩)
  unfold sNumB
  split
  · unfold sNumE
    split
    · exact (h5.at hd).fail
    · split
      · exact h5.at hd
      · exact (h5.at hd).fail
  · exact h
theorem tOk.num {B : Nat} {lo hi : Int32} {μ : Me} (h : tOk B μ) (hB : 240 ≤ B) (hB9 : B ≤ 100000) : tOk B (sNum μ lo hi).2 := by
  unfold sNum
  split
  · exact (h.peek hB hB9).numB hB hB9
  · exact (h.peek hB hB9).fail.numB hB hB9
theorem tOk.endc {B : Nat} {μ : Me} (h : tOk B μ) (hB : 240 ≤ B) (hB9 : B ≤ 100000) : tOk (B + 1) (sEnd μ) := by
  unfold sEnd
  refine tOk.inc ?_
  split
  · exact h.peek hB hB9
  · exact (h.peek hB hB9).fail
theorem tOk.up {B B' : Nat} {μ : Me} (h : tOk B μ) (hB : B ≤ B') : tOk B' μ := by
  obtain ⟨l, t, h1, h2, h3, h4⟩ := h
  exact ⟨l, t, h1, h2, h3, Nat.le_trans h4 hB⟩
theorem sFail_ne {μ : Me} {k w : Int32} {i : Nat} (h : i ≠ 1) : sFail μ k w i = μ i := by
  unfold sFail
  split
  · rw [mu_ne h, mu_ne h]
  · rfl
theorem sPeek_ne {μ : Me} {i : Nat} (h : i ≠ 1) : (sPeek μ).2 i = μ i := mu_ne h
theorem sNumB_ne {μ : Me} {lo hi : Int32} {i : Nat} (h : i ≠ 1) : (sNumB μ lo hi).2 i = μ i := by
  unfold sNumB
  split
  · unfold sNumE
    split
    · show sFail _ _ _ i = _; rw [sFail_ne h, mu_ne h, mu_ne h]
    · split
      · show mu _ _ _ _ i = _; rw [mu_ne h, mu_ne h]
      · show sFail _ _ _ i = _; rw [sFail_ne h, mu_ne h, mu_ne h]
  · rfl
theorem sNum_ne {μ : Me} {lo hi : Int32} {i : Nat} (h : i ≠ 1) : (sNum μ lo hi).2 i = μ i := by
  unfold sNum
  split
  · rw [sNumB_ne h, sPeek_ne h]
  · rw [sNumB_ne h, sFail_ne h, sPeek_ne h]
theorem sEnd_ne {μ : Me} {i : Nat} (h : i ≠ 1) : sEnd μ i = μ i := by
  unfold sEnd
  rw [mu_ne h]
  split
  · exact sPeek_ne h
  · rw [sFail_ne h]; exact sPeek_ne h
set_option maxHeartbeats 4000000 in
set_option maxRecDepth 100000 in
theorem l_X7_number_41 {μ : Me} {e : Nat × (Nat → aC)} {l : Nat} {lo hi : Int32} (hl : μ 1 1 = nI l) (hl9 : l ≤ 240) : ∀ (m : Nat) (t : Nat) (v g : Int32), l - t < m → t ≤ 100000 → AW none 2 0 0 mX7_number 0 0 41 [some (.ref 1), some (.int lo), some (.int hi), some (.int v), some (.int g)] [] (wS (mu μ 1 4 (nI t)) e) (a_eq (some (.int (sNumE μ lo hi (sDig (μ 2) (l - t) t v g)).1)) (wS (sNumE μ lo hi (sDig (μ 2) (l - t) t v g)).2 e)) := by
  intro m
  induction m with
  | zero => intro t v g hm; exact absurd hm (Nat.not_lt_zero _)
  | succ m ih =>
    intro t v g hm hc
    have ea : (mu μ 1 4 (nI t)) 1 4 = nI t := mu_same _ _ _ _
    have el : (mu μ 1 4 (nI t)) 1 1 = nI l := (mu_nj (by decide)).trans hl
    have e2 : (mu μ 1 4 (nI t)) 2 = μ 2 := mu_ne (by decide)
    refine AW.aload_n (n := 42) dX7_number_41 rfl rfl ?_
    refine AW.gi (n := 45) dX7_number_42 fl_X7_25 s_1 rfl rfl ?_
    refine AW.aload_n (n := 46) dX7_number_45 rfl rfl ?_
    refine AW.gi (n := 49) dX7_number_46 fl_X7_15 s_1 rfl rfl ?_
    rw [ea, el]
    refine AW.icmp_ge (n := 52) (t := 107) dX7_number_49 rfl rfl (fun h49 => ?_) (fun h49 => ?_)
    · have ht : l ≤ t := le_lit (b := l) (x := nI t) rfl (by omega) (by omega) h49
      have e9 : sDig (μ 2) (l - t) t v g = (t, v, g) := by rw [show l - t = 0 by omega, sDig]
      rw [e9]
      refine AW.iload (n := 109) dX7_number_107 rfl rfl ?_
      refine AW.iconst (n := 110) (v := 4) dX7_number_109 rfl rfl ?_
      refine AW.icmp_gt (n := 113) (t := 122) dX7_number_110 rfl rfl (fun h110 => ?_) (fun h110 => ?_)
      · refine AW.aload_n (n := 123) dX7_number_122 rfl rfl ?_
        refine AW.iconst (n := 124) (v := 2) dX7_number_123 rfl rfl ?_
        refine AW.aload_n (n := 125) dX7_number_124 rfl rfl ?_
        refine AW.gi (n := 128) dX7_number_125 fl_X7_28 s_1 rfl rfl ?_
        refine AW.ev2v (Mc := mX7_fail) (n := 131) dX7_number_128 lk_X7_47 k_mX7_fail s_1 rfl rfl (c_X7_fail) (Nat.le_of_ble_eq_true rfl) (by decide) (Nat.zero_le _) (Nat.zero_le _) rfl ?_
        refine AW.iconst (n := 132) (v := -1) dX7_number_131 rfl rfl ?_
        refine AW.iret dX7_number_132 rfl rfl (Nat.zero_le _) (Nat.zero_le _) ?_
        exact ⟨by simp [sNumE, h110], by simp [sNumE, h110, mu_at]⟩
      · refine AW.iload_n (n := 114) dX7_number_113 rfl rfl ?_
        refine AW.iload_n (n := 115) dX7_number_114 rfl rfl ?_
        refine AW.iload_n (n := 116) dX7_number_115 rfl rfl ?_
        refine AW.es3i (Mc := mX9_within) (n := 119) dX7_number_116 lk_X7_105 k_mX9_within (c_X9_within) (Nat.le_of_ble_eq_true rfl) (by decide) (Nat.zero_le _) (Nat.zero_le _) rfl ?_
        refine AW.bif_ne (n := 122) (t := 133) dX7_number_119 rfl rfl (fun h119 => ?_) (fun h119 => ?_)
        · refine AW.iload_n (n := 134) dX7_number_133 rfl rfl ?_
          refine AW.iret dX7_number_134 rfl rfl (Nat.zero_le _) (Nat.zero_le _) ?_
          exact ⟨by simp [sNumE, h110, h119], by simp [sNumE, h110, h119]⟩
        · refine AW.aload_n (n := 123) dX7_number_122 rfl rfl ?_
          refine AW.iconst (n := 124) (v := 2) dX7_number_123 rfl rfl ?_
          refine AW.aload_n (n := 125) dX7_number_124 rfl rfl ?_
          refine AW.gi (n := 128) dX7_number_125 fl_X7_28 s_1 rfl rfl ?_
          refine AW.ev2v (Mc := mX7_fail) (n := 131) dX7_number_128 lk_X7_47 k_mX7_fail s_1 rfl rfl (c_X7_fail) (Nat.le_of_ble_eq_true rfl) (by decide) (Nat.zero_le _) (Nat.zero_le _) rfl ?_
          refine AW.iconst (n := 132) (v := -1) dX7_number_131 rfl rfl ?_
          refine AW.iret dX7_number_132 rfl rfl (Nat.zero_le _) (Nat.zero_le _) ?_
          exact ⟨by simp [sNumE, h110, h119], by simp [sNumE, h110, h119, mu_at]⟩
    · have ht : t < l := nle_lit (b := l) (x := nI t) rfl (by omega) (by omega) h49
      have hs : l - t = (l - (t + 1)) + 1 := by omega
      refine AW.aload_n (n := 53) dX7_number_52 rfl rfl ?_
      refine AW.gr (n := 56) dX7_number_53 fl_X7_9 s_1 rfl rfl ?_
      refine AW.aload_n (n := 57) dX7_number_56 rfl rfl ?_
      refine AW.gi (n := 60) dX7_number_57 fl_X7_25 s_1 rfl rfl ?_
      refine AW.ia (n := 61) t dX7_number_60 s_2 ea (by omega) (by decide) rfl ?_
      rw [e2]
      refine AW.es1i (Mc := mX7_isFigure) (n := 64) dX7_number_61 lk_X7_102 k_mX7_isFigure (c_X7_isFigure) (Nat.le_of_ble_eq_true rfl) (by decide) (Nat.zero_le _) (Nat.zero_le _) rfl ?_
      refine AW.bif_eq (n := 67) (t := 107) dX7_number_64 rfl rfl (fun h64 => ?_) (fun h64 => ?_)
      · have e9 : sDig (μ 2) (l - t) t v g = (t, v, g) := by rw [hs, sDig, h64]; rfl
        rw [e9]
        refine AW.iload (n := 109) dX7_number_107 rfl rfl ?_
        refine AW.iconst (n := 110) (v := 4) dX7_number_109 rfl rfl ?_
        refine AW.icmp_gt (n := 113) (t := 122) dX7_number_110 rfl rfl (fun h110 => ?_) (fun h110 => ?_)
        · refine AW.aload_n (n := 123) dX7_number_122 rfl rfl ?_
          refine AW.iconst (n := 124) (v := 2) dX7_number_123 rfl rfl ?_
          refine AW.aload_n (n := 125) dX7_number_124 rfl rfl ?_
          refine AW.gi (n := 128) dX7_number_125 fl_X7_28 s_1 rfl rfl ?_
          refine AW.ev2v (Mc := mX7_fail) (n := 131) dX7_number_128 lk_X7_47 k_mX7_fail s_1 rfl rfl (c_X7_fail) (Nat.le_of_ble_eq_true rfl) (by decide) (Nat.zero_le _) (Nat.zero_le _) rfl ?_
          refine AW.iconst (n := 132) (v := -1) dX7_number_131 rfl rfl ?_
          refine AW.iret dX7_number_132 rfl rfl (Nat.zero_le _) (Nat.zero_le _) ?_
          exact ⟨by simp [sNumE, h110], by simp [sNumE, h110, mu_at]⟩
        · refine AW.iload_n (n := 114) dX7_number_113 rfl rfl ?_
          refine AW.iload_n (n := 115) dX7_number_114 rfl rfl ?_
          refine AW.iload_n (n := 116) dX7_number_115 rfl rfl ?_
          refine AW.es3i (Mc := mX9_within) (n := 119) dX7_number_116 lk_X7_105 k_mX9_within (c_X9_within) (Nat.le_of_ble_eq_true rfl) (by decide) (Nat.zero_le _) (Nat.zero_le _) rfl ?_
          refine AW.bif_ne (n := 122) (t := 133) dX7_number_119 rfl rfl (fun h119 => ?_) (fun h119 => ?_)
          · refine AW.iload_n (n := 134) dX7_number_133 rfl rfl ?_
            refine AW.iret dX7_number_134 rfl rfl (Nat.zero_le _) (Nat.zero_le _) ?_
            exact ⟨by simp [sNumE, h110, h119], by simp [sNumE, h110, h119]⟩
          · refine AW.aload_n (n := 123) dX7_number_122 rfl rfl ?_
            refine AW.iconst (n := 124) (v := 2) dX7_number_123 rfl rfl ?_
            refine AW.aload_n (n := 125) dX7_number_124 rfl rfl ?_
            refine AW.gi (n := 128) dX7_number_125 fl_X7_28 s_1 rfl rfl ?_
            refine AW.ev2v (Mc := mX7_fail) (n := 131) dX7_number_128 lk_X7_47 k_mX7_fail s_1 rfl rfl (c_X7_fail) (Nat.le_of_ble_eq_true rfl) (by decide) (Nat.zero_le _) (Nat.zero_le _) rfl ?_
            refine AW.iconst (n := 132) (v := -1) dX7_number_131 rfl rfl ?_
            refine AW.iret dX7_number_132 rfl rfl (Nat.zero_le _) (Nat.zero_le _) ?_
            exact ⟨by simp [sNumE, h110, h119], by simp [sNumE, h110, h119, mu_at]⟩
      · refine AW.inc4 (n := 70) (1) dX7_number_67 rfl (Nat.le_of_ble_eq_true rfl) rfl rfl ?_
        refine AW.iload (n := 72) dX7_number_70 rfl rfl ?_
        refine AW.iconst (n := 73) (v := 4) dX7_number_72 rfl rfl ?_
        refine AW.icmp_gt (n := 76) (t := 94) dX7_number_73 rfl rfl (fun h73 => ?_) (fun h73 => ?_)
        · refine AW.aload_n (n := 95) dX7_number_94 rfl rfl ?_
          refine AW.dup (n := 96) dX7_number_95 rfl rfl ?_
          refine AW.gi (n := 99) dX7_number_96 fl_X7_25 s_1 rfl rfl ?_
          refine AW.iconst (n := 100) (v := 1) dX7_number_99 rfl rfl ?_
          refine AW.iadd (n := 101) dX7_number_100 rfl ?_
          refine AW.pi (n := 104) dX7_number_101 fp_X7_25 s_1 rfl ⟨rfl, rfl⟩ rfl ?_
          refine AW.goto (t := 41) dX7_number_104 rfl ?_
          rw [ea]
          have e9 : sDig (μ 2) (l - t) t v g = sDig (μ 2) (l - (t + 1)) (t + 1) (if 4 < g + 1 then v else v * 10 + μ 2 t - 48) (g + 1) := by rw [hs, sDig, h64]; rfl
          rw [e9]
          have ev : (if 4 < g + 1 then v else v * 10 + μ 2 t - 48) = v := by simp [h73]
          rw [ev]
          refine AW.eqS (by rw [mu_mu, nI_1]) (ih (t + 1) _ _ (by omega) (by omega))
        · refine AW.iload_n (n := 77) dX7_number_76 rfl rfl ?_
          refine AW.bipush (n := 79) (v := 10) dX7_number_77 rfl rfl ?_
          refine AW.imul (n := 80) dX7_number_79 rfl ?_
          refine AW.aload_n (n := 81) dX7_number_80 rfl rfl ?_
          refine AW.gr (n := 84) dX7_number_81 fl_X7_9 s_1 rfl rfl ?_
          refine AW.aload_n (n := 85) dX7_number_84 rfl rfl ?_
          refine AW.gi (n := 88) dX7_number_85 fl_X7_25 s_1 rfl rfl ?_
          refine AW.ia (n := 89) t dX7_number_88 s_2 ea (by omega) (by decide) rfl ?_
          rw [e2]
          refine AW.iadd (n := 90) dX7_number_89 rfl ?_
          refine AW.bipush (n := 92) (v := 48) dX7_number_90 rfl rfl ?_
          refine AW.isub (n := 93) dX7_number_92 rfl ?_
          refine AW.ist3 (n := 94) dX7_number_93 (Nat.le_of_ble_eq_true rfl) rfl rfl ?_
          refine AW.aload_n (n := 95) dX7_number_94 rfl rfl ?_
          refine AW.dup (n := 96) dX7_number_95 rfl rfl ?_
          refine AW.gi (n := 99) dX7_number_96 fl_X7_25 s_1 rfl rfl ?_
          refine AW.iconst (n := 100) (v := 1) dX7_number_99 rfl rfl ?_
          refine AW.iadd (n := 101) dX7_number_100 rfl ?_
          refine AW.pi (n := 104) dX7_number_101 fp_X7_25 s_1 rfl ⟨rfl, rfl⟩ rfl ?_
          refine AW.goto (t := 41) dX7_number_104 rfl ?_
          rw [ea]
          have e9 : sDig (μ 2) (l - t) t v g = sDig (μ 2) (l - (t + 1)) (t + 1) (if 4 < g + 1 then v else v * 10 + μ 2 t - 48) (g + 1) := by rw [hs, sDig, h64]; rfl
          rw [e9]
          have ev : (if 4 < g + 1 then v else v * 10 + μ 2 t - 48) = v * 10 + μ 2 t - 48 := by simp [h73]
          rw [ev]
          refine AW.eqS (by rw [mu_mu, nI_1]) (ih (t + 1) _ _ (by omega) (by omega))
set_option maxHeartbeats 4000000 in
set_option maxRecDepth 100000 in
theorem l_X7_number_19 {μ : Me} {e : Nat × (Nat → aC)} {B : Nat} {lo hi : Int32} (ho : tOk B μ) (hB : B ≤ 100000) : AW none 2 0 0 mX7_number 0 0 19 [some (.ref 1), some (.int lo), some (.int hi), none, none] [] (wS μ e) (a_eq (some (.int (sNumB μ lo hi).1)) (wS (sNumB μ lo hi).2 e)) := by
  refine AW.aload_n (n := 20) dX7_number_19 rfl rfl ?_
  refine AW.gi (n := 23) dX7_number_20 fl_X7_19 s_1 rfl rfl ?_
  refine AW.if_eq (n := 26) (t := 28) dX7_number_23 rfl rfl (fun h23 => ?_) (fun h23 => ?_)
  · refine AW.aload_n (n := 29) dX7_number_28 rfl rfl ?_
    refine AW.aload_n (n := 30) dX7_number_29 rfl rfl ?_
    refine AW.gi (n := 33) dX7_number_30 fl_X7_25 s_1 rfl rfl ?_
    refine AW.pi (n := 36) dX7_number_33 fp_X7_28 s_1 rfl ⟨rfl, rfl⟩ rfl ?_
    refine AW.iconst (n := 37) (v := 0) dX7_number_36 rfl rfl ?_
    refine AW.ist3 (n := 38) dX7_number_37 (Nat.le_of_ble_eq_true rfl) rfl rfl ?_
    refine AW.iconst (n := 39) (v := 0) dX7_number_38 rfl rfl ?_
    refine AW.ist4 (n := 41) dX7_number_39 (Nat.le_of_ble_eq_true rfl) rfl rfl ?_
    obtain ⟨l, t, h1, h2, h3, h4⟩ := ho
    obtain ⟨e1, e2⟩ := tOk.r h1 h2 h3 h4 hB
    have e3 : (mu μ 1 5 (μ 1 4)) 1 4 = nI t := by rw [mu_nj (by decide)]; exact h3
    have h := l_X7_number_41 (μ := mu μ 1 5 (μ 1 4)) (e := e) (lo := lo) (hi := hi) (l := l) (by rw [mu_nj (by decide)]; exact h1) h2 (l - t + 1) t 0 0 (by omega) (by omega)
    rw [mu_self' e3] at h
    unfold sNumB
    rw [if_pos h23, e1, e2]
    exact h
  · refine AW.iconst (n := 27) (v := -1) dX7_number_26 rfl rfl ?_
    refine AW.iret dX7_number_27 rfl rfl (Nat.zero_le _) (Nat.zero_le _) ?_
    exact ⟨by simp [sNumB, h23], by simp [sNumB, h23]⟩
set_option maxHeartbeats 4000000 in
set_option maxRecDepth 100000 in
theorem c_X7_number {μ : Me} {e : Nat × (Nat → aC)} {B : Nat} {lo hi : Int32} (ho : tOk B μ) (hB : 240 ≤ B) (hB9 : B ≤ 100000) : AC 2 0 0 mX7_number [.ref 1, .int lo, .int hi] (wS μ e) (a_eq (some (.int ((sNum μ lo hi).1))) (wS ((sNum μ lo hi).2) e)) := by
  refine AC.of (L := [some (.ref 1), some (.int lo), some (.int hi), none, none]) (j := 2) (by decide) rfl (Nat.le_of_ble_eq_true rfl) ?_
  refine AW.aload_n (n := 1) dX7_number_0 rfl rfl ?_
  refine AW.ev0i (Mc := mX7_peek) (n := 4) dX7_number_1 lk_X7_36 k_mX7_peek s_1 rfl rfl (c_X7_peek ho hB9) (Nat.le_of_ble_eq_true rfl) (by decide) (Nat.zero_le _) (Nat.zero_le _) rfl ?_
  refine AW.es1i (Mc := mX7_isFigure) (n := 7) dX7_number_4 lk_X7_102 k_mX7_isFigure (c_X7_isFigure) (Nat.le_of_ble_eq_true rfl) (by decide) (Nat.zero_le _) (Nat.zero_le _) rfl ?_
  refine AW.bif_ne (n := 10) (t := 19) dX7_number_7 rfl rfl (fun h7 => ?_) (fun h7 => ?_)
  · have hk := ho.peek hB hB9
    unfold sNum
    rw [if_pos h7]
    exact l_X7_number_19 hk hB9
  · refine AW.aload_n (n := 11) dX7_number_10 rfl rfl ?_
    refine AW.iconst (n := 12) (v := 1) dX7_number_11 rfl rfl ?_
    refine AW.aload_n (n := 13) dX7_number_12 rfl rfl ?_
    refine AW.gi (n := 16) dX7_number_13 fl_X7_25 s_1 rfl rfl ?_
    refine AW.ev2v (Mc := mX7_fail) (n := 19) dX7_number_16 lk_X7_47 k_mX7_fail s_1 rfl rfl (c_X7_fail) (Nat.le_of_ble_eq_true rfl) (by decide) (Nat.zero_le _) (Nat.zero_le _) rfl ?_
    have hk := ho.peek hB hB9
    unfold sNum
    rw [if_neg (by rw [h7]; decide)]
    exact l_X7_number_19 hk.fail hB9
set_option maxHeartbeats 4000000 in
set_option maxRecDepth 100000 in
theorem c_X7_endClause {μ : Me} {e : Nat × (Nat → aC)} {B : Nat} (ho : tOk B μ) (hB9 : B ≤ 100000) : AC 2 0 0 mX7_endClause [.ref 1] (wS μ e) (a_eq none (wS (sEnd μ) e)) := by
  refine AC.of (L := [some (.ref 1)]) (j := 0) (by decide) rfl (Nat.le_of_ble_eq_true rfl) ?_
  refine AW.aload_n (n := 1) dX7_endClause_0 rfl rfl ?_
  refine AW.ev0i (Mc := mX7_peek) (n := 4) dX7_endClause_1 lk_X7_36 k_mX7_peek s_1 rfl rfl (c_X7_peek ho hB9) (Nat.le_of_ble_eq_true rfl) (by decide) (Nat.zero_le _) (Nat.zero_le _) rfl ?_
  refine AW.bipush (n := 6) (v := 59) dX7_endClause_4 rfl rfl ?_
  refine AW.icmp_eq (n := 9) (t := 18) dX7_endClause_6 rfl rfl (fun h6 => ?_) (fun h6 => ?_)
  · refine AW.aload_n (n := 19) dX7_endClause_18 rfl rfl ?_
    refine AW.dup (n := 20) dX7_endClause_19 rfl rfl ?_
    refine AW.gi (n := 23) dX7_endClause_20 fl_X7_25 s_1 rfl rfl ?_
    refine AW.iconst (n := 24) (v := 1) dX7_endClause_23 rfl rfl ?_
    refine AW.iadd (n := 25) dX7_endClause_24 rfl ?_
    refine AW.pi (n := 28) dX7_endClause_25 fp_X7_25 s_1 rfl ⟨rfl, rfl⟩ rfl ?_
    refine AW.ret dX7_endClause_28 rfl (Nat.zero_le _) (Nat.zero_le _) ?_
    exact ⟨rfl, by simp [sEnd, h6]⟩
  · refine AW.aload_n (n := 10) dX7_endClause_9 rfl rfl ?_
    refine AW.iconst (n := 11) (v := 1) dX7_endClause_10 rfl rfl ?_
    refine AW.aload_n (n := 12) dX7_endClause_11 rfl rfl ?_
    refine AW.gi (n := 15) dX7_endClause_12 fl_X7_25 s_1 rfl rfl ?_
    refine AW.ev2v (Mc := mX7_fail) (n := 18) dX7_endClause_15 lk_X7_47 k_mX7_fail s_1 rfl rfl (c_X7_fail) (Nat.le_of_ble_eq_true rfl) (by decide) (Nat.zero_le _) (Nat.zero_le _) rfl ?_
    refine AW.aload_n (n := 19) dX7_endClause_18 rfl rfl ?_
    refine AW.dup (n := 20) dX7_endClause_19 rfl rfl ?_
    refine AW.gi (n := 23) dX7_endClause_20 fl_X7_25 s_1 rfl rfl ?_
    refine AW.iconst (n := 24) (v := 1) dX7_endClause_23 rfl rfl ?_
    refine AW.iadd (n := 25) dX7_endClause_24 rfl ?_
    refine AW.pi (n := 28) dX7_endClause_25 fp_X7_25 s_1 rfl ⟨rfl, rfl⟩ rfl ?_
    refine AW.ret dX7_endClause_28 rfl (Nat.zero_le _) (Nat.zero_le _) ?_
    exact ⟨rfl, by simp [sEnd, h6]⟩
