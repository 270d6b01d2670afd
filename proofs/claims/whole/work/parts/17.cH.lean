theorem lsw_df {w : Int32} (h1 : ¬ w = 118) (h2 : ¬ w = 115) (h3 : ¬ w = 100) (h4 : ¬ w = 110) : Op.lookupswitch.offset [(100, 59), (110, 67), (115, 51), (118, 42)] 75 w.toInt = 75 := by
  have q : ∀ k : Int32, ¬ w = k → ¬ k.toInt = w.toInt := fun k hk e => hk (Int32.toInt_inj.mp e.symm)
  have q1 : ¬ (118 : Int) = w.toInt := q 118 h1
  have q2 : ¬ (115 : Int) = w.toInt := q 115 h2
  have q3 : ¬ (100 : Int) = w.toInt := q 100 h3
  have q4 : ¬ (110 : Int) = w.toInt := q 110 h4
  simp only [Op.lookupswitch.offset, if_neg q1, if_neg q2, if_neg q3, if_neg q4]
set_option maxHeartbeats 4000000 in
set_option maxRecDepth 100000 in
theorem c_X7_readClause {μ : Me} {e : Nat × (Nat → aC)} {B : Nat} {w : Int32} (ho : tOk B μ) (hB : 240 ≤ B) (hB9 : B ≤ 70000) (hd : dOk μ) : AC 4 0 0 mX7_readClause [.ref 1, .ref 3, .int w] (wS μ e) (a_eq none (wS (sClause μ w) e)) := by
  refine AC.of (L := [some (.ref 1), some (.ref 3), some (.int w), none]) (j := 1) (by decide) rfl (Nat.le_of_ble_eq_true rfl) ?_
  refine AW.aload_n (n := 1) dX7_readClause_0 rfl rfl ?_
  refine AW.gi (n := 4) dX7_readClause_1 fl_X7_44 s_3 rfl rfl ?_
  refine AW.if_le (n := 7) (t := 11) dX7_readClause_4 rfl rfl (fun h4 => ?_) (fun h4 => ?_)
  · refine AW.iconst (n := 12) (v := 0) dX7_readClause_11 rfl rfl ?_
    refine AW.ist3 (n := 13) dX7_readClause_12 (Nat.le_of_ble_eq_true rfl) rfl rfl ?_
    refine AW.iload_n (n := 14) dX7_readClause_13 rfl rfl ?_
    refine AW.if_ne (n := 17) (t := 33) dX7_readClause_14 rfl rfl (fun h14 => ?_) (fun h14 => ?_)
    · exact absurd rfl h14
    · refine AW.iload_n (n := 18) dX7_readClause_17 rfl rfl ?_
      refine AW.bipush (n := 20) (v := 118) dX7_readClause_18 rfl rfl ?_
      refine AW.icmp_eq (n := 23) (t := 33) dX7_readClause_20 rfl rfl (fun h20 => ?_) (fun h20 => ?_)
      · subst h20
        refine AW.iload_n (n := 34) dX7_readClause_33 rfl rfl ?_
        refine AW.lsw (t := 76) (o := 42) dX7_readClause_34 (by decide) (by decide) rfl ?_
        refine AW.aload_n (n := 77) dX7_readClause_76 rfl rfl ?_
        refine AW.aload_n (n := 78) dX7_readClause_77 rfl rfl ?_
        refine AW.iload_n (n := 79) dX7_readClause_78 rfl rfl ?_
        refine AW.ev2v (Mc := mX7_readVan) (n := 82) dX7_readClause_79 lk_X7_51 k_mX7_readVan s_1 rfl rfl (c_X7_readVan (ag := false) ho hB (by omega)) (Nat.le_of_ble_eq_true rfl) (by decide) (Nat.zero_le _) (Nat.zero_le _) rfl ?_
        refine AW.goto (t := 118) dX7_readClause_82 rfl ?_
        refine AW.ret dX7_readClause_118 rfl (Nat.zero_le _) (Nat.zero_le _) ?_
        exact ⟨rfl, by rw [sClause, if_pos h4, if_pos rfl]⟩
      · refine AW.aload_n (n := 24) dX7_readClause_23 rfl rfl ?_
        refine AW.iconst (n := 25) (v := 1) dX7_readClause_24 rfl rfl ?_
        refine AW.aload_n (n := 26) dX7_readClause_25 rfl rfl ?_
        refine AW.gi (n := 29) dX7_readClause_26 fl_X7_25 s_1 rfl rfl ?_
        refine AW.ev2v (Mc := mX7_fail) (n := 32) dX7_readClause_29 lk_X7_47 k_mX7_fail s_1 rfl rfl (c_X7_fail) (Nat.le_of_ble_eq_true rfl) (by decide) (Nat.zero_le _) (Nat.zero_le _) rfl ?_
        refine AW.ret dX7_readClause_32 rfl (Nat.zero_le _) (Nat.zero_le _) ?_
        exact ⟨rfl, by rw [sClause, if_pos h4, if_neg h20]⟩
  · refine AW.iconst (n := 8) (v := 1) dX7_readClause_7 rfl rfl ?_
    refine AW.goto (t := 12) dX7_readClause_8 rfl ?_
    refine AW.ist3 (n := 13) dX7_readClause_12 (Nat.le_of_ble_eq_true rfl) rfl rfl ?_
    refine AW.iload_n (n := 14) dX7_readClause_13 rfl rfl ?_
    refine AW.if_ne (n := 17) (t := 33) dX7_readClause_14 rfl rfl (fun h14 => ?_) (fun h14 => ?_)
    · rw [sClause, if_neg h4]
      by_cases hv : w = 118
      · subst hv
        refine AW.iload_n (n := 34) dX7_readClause_33 rfl rfl ?_
        refine AW.lsw (t := 76) (o := 42) dX7_readClause_34 (by decide) (by decide) rfl ?_
        refine AW.aload_n (n := 77) dX7_readClause_76 rfl rfl ?_
        refine AW.aload_n (n := 78) dX7_readClause_77 rfl rfl ?_
        refine AW.iload_n (n := 79) dX7_readClause_78 rfl rfl ?_
        refine AW.ev2v (Mc := mX7_readVan) (n := 82) dX7_readClause_79 lk_X7_51 k_mX7_readVan s_1 rfl rfl (c_X7_readVan (ag := true) ho hB (by omega)) (Nat.le_of_ble_eq_true rfl) (by decide) (Nat.zero_le _) (Nat.zero_le _) rfl ?_
        refine AW.goto (t := 118) dX7_readClause_82 rfl ?_
        refine AW.ret dX7_readClause_118 rfl (Nat.zero_le _) (Nat.zero_le _) ?_
        exact ⟨rfl, rfl⟩
      · rw [if_neg hv]
        by_cases hs : w = 115
        · subst hs
          refine AW.iload_n (n := 34) dX7_readClause_33 rfl rfl ?_
          refine AW.lsw (t := 85) (o := 51) dX7_readClause_34 (by decide) (by decide) rfl ?_
          refine AW.aload_n (n := 86) dX7_readClause_85 rfl rfl ?_
          refine AW.aload_n (n := 87) dX7_readClause_86 rfl rfl ?_
          refine AW.ev1v (Mc := mX7_readStop) (n := 90) dX7_readClause_87 lk_X7_55 k_mX7_readStop s_1 rfl rfl (c_X7_readStop ho hB (by omega) hd) (Nat.le_of_ble_eq_true rfl) (by decide) (Nat.zero_le _) (Nat.zero_le _) rfl ?_
          refine AW.goto (t := 118) dX7_readClause_90 rfl ?_
          refine AW.ret dX7_readClause_118 rfl (Nat.zero_le _) (Nat.zero_le _) ?_
          exact ⟨rfl, rfl⟩
        · rw [if_neg hs]
          by_cases hd0 : w = 100
          · subst hd0
            refine AW.iload_n (n := 34) dX7_readClause_33 rfl rfl ?_
            refine AW.lsw (t := 93) (o := 59) dX7_readClause_34 (by decide) (by decide) rfl ?_
            refine AW.aload_n (n := 94) dX7_readClause_93 rfl rfl ?_
            refine AW.aload_n (n := 95) dX7_readClause_94 rfl rfl ?_
            refine AW.ev1v (Mc := mX7_readDin) (n := 98) dX7_readClause_95 lk_X7_59 k_mX7_readDin s_1 rfl rfl (c_X7_readDin ho hB hB9 hd) (Nat.le_of_ble_eq_true rfl) (by decide) (Nat.zero_le _) (Nat.zero_le _) rfl ?_
            refine AW.goto (t := 118) dX7_readClause_98 rfl ?_
            refine AW.ret dX7_readClause_118 rfl (Nat.zero_le _) (Nat.zero_le _) ?_
            exact ⟨rfl, rfl⟩
          · rw [if_neg hd0]
            by_cases hn0 : w = 110
            · subst hn0
              refine AW.iload_n (n := 34) dX7_readClause_33 rfl rfl ?_
              refine AW.lsw (t := 101) (o := 67) dX7_readClause_34 (by decide) (by decide) rfl ?_
              refine AW.aload_n (n := 102) dX7_readClause_101 rfl rfl ?_
              refine AW.aload_n (n := 103) dX7_readClause_102 rfl rfl ?_
              refine AW.ev1v (Mc := mX7_readNeighbour) (n := 106) dX7_readClause_103 lk_X7_62 k_mX7_readNeighbour s_1 rfl rfl (c_X7_readNeighbour ho hB hB9 hd) (Nat.le_of_ble_eq_true rfl) (by decide) (Nat.zero_le _) (Nat.zero_le _) rfl ?_
              refine AW.goto (t := 118) dX7_readClause_106 rfl ?_
              refine AW.ret dX7_readClause_118 rfl (Nat.zero_le _) (Nat.zero_le _) ?_
              exact ⟨rfl, rfl⟩
            · rw [if_neg hn0]
              refine AW.iload_n (n := 34) dX7_readClause_33 rfl rfl ?_
              refine AW.lsw (t := 109) (o := 75) dX7_readClause_34 (by decide) (lsw_df hv hs hd0 hn0) rfl ?_
              refine AW.aload_n (n := 110) dX7_readClause_109 rfl rfl ?_
              refine AW.iconst (n := 111) (v := 1) dX7_readClause_110 rfl rfl ?_
              refine AW.aload_n (n := 112) dX7_readClause_111 rfl rfl ?_
              refine AW.gi (n := 115) dX7_readClause_112 fl_X7_25 s_1 rfl rfl ?_
              refine AW.ev2v (Mc := mX7_fail) (n := 118) dX7_readClause_115 lk_X7_47 k_mX7_fail s_1 rfl rfl (c_X7_fail) (Nat.le_of_ble_eq_true rfl) (by decide) (Nat.zero_le _) (Nat.zero_le _) rfl ?_
              refine AW.ret dX7_readClause_118 rfl (Nat.zero_le _) (Nat.zero_le _) ?_
              exact ⟨rfl, rfl⟩
    · exact absurd h14 (by decide)
set_option maxHeartbeats 4000000 in
set_option maxRecDepth 100000 in
theorem l_X7_readInto {e : Nat × (Nat → aC)} : ∀ (m c B : Nat) (μ : Me) (L3 : Option Value), 240 = c + m → tOk B μ → 240 ≤ B → B + 14 * m ≤ 60000 → dOk μ → AW none 5 0 0 mX7_readInto 0 0 21 [some (.ref 1), some (.ref 3), some (.int (nI c)), L3] [] (wS μ e) (a_eq none (wS (sRead m μ) e)) := by
  intro m
  induction m with
  | zero =>
    intro c B μ L3 hm ho hB hB9 hd
    refine AW.iload_n (n := 22) dX7_readInto_21 rfl rfl ?_
    refine AW.sipush (n := 25) (v := 240) dX7_readInto_22 rfl rfl ?_
    refine AW.icmp_ge (n := 28) (t := 58) dX7_readInto_25 rfl rfl (fun h25 => ?_) (fun h25 => ?_)
    · refine AW.ret dX7_readInto_58 rfl (Nat.zero_le _) (Nat.zero_le _) ?_
      exact ⟨rfl, rfl⟩
    · exact absurd (nI_le (a := 240) (b := c) (by omega) (by omega)) h25
  | succ m ih =>
    intro c B μ L3 hm ho hB hB9 hd
    refine AW.iload_n (n := 22) dX7_readInto_21 rfl rfl ?_
    refine AW.sipush (n := 25) (v := 240) dX7_readInto_22 rfl rfl ?_
    refine AW.icmp_ge (n := 28) (t := 58) dX7_readInto_25 rfl rfl (fun h25 => ?_) (fun h25 => ?_)
    · exact absurd ((nI_leI (a := 240) (b := c) (by omega) (by omega)).mp h25) (by omega)
    · refine AW.aload_n (n := 29) dX7_readInto_28 rfl rfl ?_
      refine AW.gi (n := 32) dX7_readInto_29 fl_X7_19 s_1 rfl rfl ?_
      refine AW.if_ne (n := 35) (t := 58) dX7_readInto_32 rfl rfl (fun h32 => ?_) (fun h32 => ?_)
      · refine AW.ret dX7_readInto_58 rfl (Nat.zero_le _) (Nat.zero_le _) ?_
        exact ⟨rfl, by rw [sRead, if_neg h32]⟩
      · refine AW.aload_n (n := 36) dX7_readInto_35 rfl rfl ?_
        refine AW.ev0i (Mc := mX7_peek) (n := 39) dX7_readInto_36 lk_X7_36 k_mX7_peek s_1 rfl rfl (c_X7_peek ho (by omega)) (Nat.le_of_ble_eq_true rfl) (by decide) (Nat.zero_le _) (Nat.zero_le _) rfl ?_
        refine AW.ist3 (n := 40) dX7_readInto_39 (Nat.le_of_ble_eq_true rfl) rfl rfl ?_
        refine AW.iload_n (n := 41) dX7_readInto_40 rfl rfl ?_
        refine AW.iconst (n := 42) (v := -1) dX7_readInto_41 rfl rfl ?_
        refine AW.icmp_ne (n := 45) (t := 46) dX7_readInto_42 rfl rfl (fun h42 => ?_) (fun h42 => ?_)
        · refine AW.aload_n (n := 47) dX7_readInto_46 rfl rfl ?_
          refine AW.aload_n (n := 48) dX7_readInto_47 rfl rfl ?_
          refine AW.iload_n (n := 49) dX7_readInto_48 rfl rfl ?_
          refine AW.ev2v (Mc := mX7_readClause) (n := 52) dX7_readInto_49 lk_X7_40 k_mX7_readClause s_1 rfl rfl (c_X7_readClause (ho.peek hB (by omega)) hB (by omega) (hd.of (sPeek_ne (by decide)))) (Nat.le_of_ble_eq_true rfl) (by decide) (Nat.zero_le _) (Nat.zero_le _) rfl ?_
          refine AW.inc2 (n := 55) (1) dX7_readInto_52 rfl (Nat.le_of_ble_eq_true rfl) rfl rfl ?_
          refine AW.goto (t := 21) dX7_readInto_55 rfl ?_
          rw [nI_1]
          rw [sRead, if_pos h32, if_neg h42]
          exact ih (c + 1) (B + 14) _ _ (by omega) ((ho.peek hB (by omega)).clause hB (by omega)) (by omega) (by omega) (hd.of (sPeek_ne (by decide))).clause
        · refine AW.ret dX7_readInto_45 rfl (Nat.zero_le _) (Nat.zero_le _) ?_
          exact ⟨rfl, by rw [sRead, if_pos h32, if_pos h42]⟩
set_option maxHeartbeats 4000000 in
set_option maxRecDepth 100000 in
theorem c_X7_readInto {μ : Me} {e : Nat × (Nat → aC)} {l : Nat} (hl : μ 1 1 = nI l) (hl9 : l ≤ 240) : AC 5 0 0 mX7_readInto [.ref 1, .ref 3] (wS μ e) (a_eq none (wS (sReadInto μ) e)) := by
  refine AC.of (L := [some (.ref 1), some (.ref 3), none, none]) (j := 2) (by decide) rfl (Nat.le_of_ble_eq_true rfl) ?_
  refine AW.aload_n (n := 1) dX7_readInto_0 rfl rfl ?_
  refine AW.ev0v (Mc := mX6_begin) (n := 4) dX7_readInto_1 lk_X7_31 k_mX6_begin s_3 rfl rfl (c_X6_begin sS_3) (Nat.le_of_ble_eq_true rfl) (by decide) (Nat.zero_le _) (Nat.zero_le _) rfl ?_
  refine AW.aload_n (n := 5) dX7_readInto_4 rfl rfl ?_
  refine AW.iconst (n := 6) (v := 0) dX7_readInto_5 rfl rfl ?_
  refine AW.pi (n := 9) dX7_readInto_6 fp_X7_19 s_1 rfl ⟨rfl, rfl⟩ rfl ?_
  refine AW.aload_n (n := 10) dX7_readInto_9 rfl rfl ?_
  refine AW.iconst (n := 11) (v := -1) dX7_readInto_10 rfl rfl ?_
  refine AW.pi (n := 14) dX7_readInto_11 fp_X7_22 s_1 rfl ⟨rfl, rfl⟩ rfl ?_
  refine AW.aload_n (n := 15) dX7_readInto_14 rfl rfl ?_
  refine AW.iconst (n := 16) (v := 0) dX7_readInto_15 rfl rfl ?_
  refine AW.pi (n := 19) dX7_readInto_16 fp_X7_25 s_1 rfl ⟨rfl, rfl⟩ rfl ?_
  refine AW.iconst (n := 20) (v := 0) dX7_readInto_19 rfl rfl ?_
  refine AW.ist2 (n := 21) dX7_readInto_20 (Nat.le_of_ble_eq_true rfl) rfl rfl ?_
  refine l_X7_readInto 240 0 240 _ none rfl ⟨l, 0, ?_, hl9, rfl, by omega⟩ (by omega) (by omega) ⟨0, 0, ?_, by omega, ?_, by omega⟩
  · simp [mu_at, sSBegin, hl]
  · simp [mu_at, sSBegin, nI_0]
  · simp [mu_at, sSBegin, nI_0]
