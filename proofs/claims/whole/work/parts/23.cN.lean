set_option maxHeartbeats 4000000 in
set_option maxRecDepth 100000 in
theorem c_X4_seek {μ : Me} {e : Nat × (Nat → aC)} {n dn : Nat} {hs op sz : Int32} {B : sB3} (ho : sOk μ 10 n dn) : AC 11 0 0 mX4_seek [.ref (154 + e.1)] (wS μ (sE e (sFl hs op sz B.1 B.2.1 B.2.2))) (a_eq none (wS μ (sE e (sFl hs op sz ((if sz ≤ 0 then B else sExt μ n hs op sz 8 0 0 0 0 0 0 B)).1 ((if sz ≤ 0 then B else sExt μ n hs op sz 8 0 0 0 0 0 0 B)).2.1 ((if sz ≤ 0 then B else sExt μ n hs op sz 8 0 0 0 0 0 0 B)).2.2)))) := by
  refine AC.of (L := [some (.ref (154 + e.1))]) (j := 0) (by decide) rfl (Nat.le_of_ble_eq_true rfl) ?_
  refine AW.aload_n (n := 1) dX4_seek_0 rfl rfl ?_
  refine AW.sg (n := 4) dX4_seek_1 fl_X4_52 rfl rfl ?_
  refine AW.if_le (n := 7) (t := 17) dX4_seek_4 rfl rfl (fun h4 => ?_) (fun h4 => ?_)
  · refine AW.ret dX4_seek_17 rfl (Nat.zero_le _) (Nat.zero_le _) ?_
    exact ⟨rfl, by rw [if_pos h4]⟩
  · refine AW.aload_n (n := 8) dX4_seek_7 rfl rfl ?_
    refine AW.iconst (n := 9) (v := 0) dX4_seek_8 rfl rfl ?_
    refine AW.iconst (n := 10) (v := 0) dX4_seek_9 rfl rfl ?_
    refine AW.iconst (n := 11) (v := 0) dX4_seek_10 rfl rfl ?_
    refine AW.iconst (n := 12) (v := 0) dX4_seek_11 rfl rfl ?_
    refine AW.iconst (n := 13) (v := 0) dX4_seek_12 rfl rfl ?_
    refine AW.iconst (n := 14) (v := 0) dX4_seek_13 rfl rfl ?_
    refine AW.es7v (Mc := mX4_extend) (n := 17) dX4_seek_14 lk_X4_55 k_mX4_extend (c_X4_extend ho 7 0 0 0 0 0 0 B rfl) (Nat.le_of_ble_eq_true rfl) (by decide) (Nat.zero_le _) (Nat.zero_le _) rfl ?_
    refine AW.ret dX4_seek_17 rfl (Nat.zero_le _) (Nat.zero_le _) ?_
    exact ⟨rfl, by rw [if_neg h4]⟩
theorem lsw_b {w : Int32} (h1 : ¬ w = 0) (h2 : ¬ w = 1) : Op.lookupswitch.offset [(0, 25), (1, 30)] 35 w.toInt = 35 := by
  have q : ∀ k : Int32, ¬ w = k → ¬ k.toInt = w.toInt := fun k hk e => hk (Int32.toInt_inj.mp e.symm)
  have q1 : ¬ (0 : Int) = w.toInt := q 0 h1
  have q2 : ¬ (1 : Int) = w.toInt := q 1 h2
  simp only [Op.lookupswitch.offset, if_neg q1, if_neg q2]
set_option maxHeartbeats 4000000 in
set_option maxRecDepth 100000 in
theorem c_X9_bestWay {μ : Me} {e : Nat × (Nat → aC)} {n dn : Nat} {h w : Int32} (ho : sOk μ 10 n dn) : AC 12 1 8 mX9_bestWay [.ref 0, .int h, .int w] (wS μ e) (fun r σ' => r = some (.int (oBest μ n h w)) ∧ ∃ e', σ' = wS μ e') := by
  refine AC.of (L := [some (.ref 0), some (.int h), some (.int w), none]) (j := 1) (by decide) rfl (Nat.le_of_ble_eq_true rfl) ?_
  refine AW.iload_n (n := 1) dX9_bestWay_0 rfl rfl ?_
  refine AW.iconst (n := 2) (v := 0) dX9_bestWay_1 rfl rfl ?_
  refine AW.iconst (n := 3) (v := 3) dX9_bestWay_2 rfl rfl ?_
  refine AW.es3i (Mc := mX9_within) (n := 6) dX9_bestWay_3 lk_X9_79 k_mX9_within (c_X9_within) (Nat.le_of_ble_eq_true rfl) (by decide) (Nat.zero_le _) (Nat.zero_le _) rfl ?_
  refine AW.bif_eq (n := 9) (t := 18) dX9_bestWay_6 rfl rfl (fun h6 => ?_) (fun h6 => ?_)
  · refine AW.ldc (n := 20) dX9_bestWay_18 kc_X9_83 rfl ?_
    refine AW.iret dX9_bestWay_20 rfl rfl (Nat.zero_le _) (Nat.zero_le _) ?_
    exact ⟨by simp [oBest, h6], e, rfl⟩
  · refine AW.iload_n (n := 10) dX9_bestWay_9 rfl rfl ?_
    refine AW.iconst (n := 11) (v := 0) dX9_bestWay_10 rfl rfl ?_
    refine AW.iconst (n := 12) (v := 2) dX9_bestWay_11 rfl rfl ?_
    refine AW.es3i (Mc := mX9_within) (n := 15) dX9_bestWay_12 lk_X9_79 k_mX9_within (c_X9_within) (Nat.le_of_ble_eq_true rfl) (by decide) (Nat.zero_le _) (Nat.zero_le _) rfl ?_
    refine AW.bif_ne (n := 18) (t := 21) dX9_bestWay_15 rfl rfl (fun h15 => ?_) (fun h15 => ?_)
    · refine AW.new0 (n := 24) (ci := 4) (q := (RX4, TX4, 8)) (fs := [.null, .null, .int 0, .int 0, .int 0, .int 0, .int 0, .int 0]) dX9_bestWay_21 rfl cl_X9_221 ins_X4 ini_X4 (fun ty hty j hj G => ?_) (by decide) (by decide) rfl ?_
      · have e0 := Option.some.inj ((hty j hj).symm.trans (tyX4_ok j hj))
        rw [e0]
        have hj8 : j < 8 := hj
        rcases (show j = 0 ∨ j = 1 ∨ j = 2 ∨ j = 3 ∨ j = 4 ∨ j = 5 ∨ j = 6 ∨ j = 7 by omega) with rfl | rfl | rfl | rfl | rfl | rfl | rfl | rfl <;> rfl
      rw [wS_push]
      change AW _ _ _ _ _ _ _ _ _ [.ref (154 + e.1)] (wS μ (sE e _)) _
      refine AW.dup (n := 25) dX9_bestWay_24 rfl rfl ?_
      refine AW.aload_n (n := 26) dX9_bestWay_25 rfl rfl ?_
      refine AW.gr (n := 29) dX9_bestWay_26 fl_X9_23 s_0 rfl rfl ?_
      refine AW.aload_n (n := 30) dX9_bestWay_29 rfl rfl ?_
      refine AW.gr (n := 33) dX9_bestWay_30 fl_X9_29 s_0 rfl rfl ?_
      refine AW.iload_n (n := 34) dX9_bestWay_33 rfl rfl ?_
      refine AW.calli0 (n := 37) (Mc := mX4_init) (As := [.ref 10, .ref 17, .int h]) (rest := [.ref (154 + e.1)]) dX9_bestWay_34 lk_X9_223 k_mX4_init (c_X4_init ho.1 ho.2.1) rfl rfl (Nat.le_of_ble_eq_true rfl) (by decide) (by decide) (by decide) rfl (fun r σ2 hp => ?_)
      obtain ⟨rfl, rfl⟩ := hp
      change AW _ _ _ _ _ _ _ _ _ [.ref (154 + e.1)] (wS μ (sE e _)) _
      refine AW.ast3 (n := 38) dX9_bestWay_37 (Nat.le_of_ble_eq_true rfl) rfl rfl ?_
      refine AW.aload_n (n := 39) dX9_bestWay_38 rfl rfl ?_
      refine AW.cS0v (Mc := mX4_seek) (n := 42) dX9_bestWay_39 lk_X9_226 k_mX4_seek (c_X4_seek (B := (-1, -1, -1)) ho) (Nat.le_of_ble_eq_true rfl) (by decide) (by decide) (by decide) rfl ?_
      refine AW.iload_n (n := 43) dX9_bestWay_42 rfl rfl ?_
      by_cases q0 : w = 0
      · subst q0
        refine AW.lsw (t := 68) (o := 25) dX9_bestWay_43 (by decide) (by decide) rfl ?_
        refine AW.aload_n (n := 69) dX9_bestWay_68 rfl rfl ?_
        refine AW.sg (n := 72) dX9_bestWay_69 fl_X9_229 rfl rfl ?_
        refine AW.iret dX9_bestWay_72 rfl rfl (by decide) (by decide) ?_
        exact ⟨by rw [oBest, if_pos h6, if_pos h15, if_pos rfl]; rfl, _, rfl⟩
      · by_cases q1 : w = 1
        · subst q1
          refine AW.lsw (t := 73) (o := 30) dX9_bestWay_43 (by decide) (by decide) rfl ?_
          refine AW.aload_n (n := 74) dX9_bestWay_73 rfl rfl ?_
          refine AW.sg (n := 77) dX9_bestWay_74 fl_X9_232 rfl rfl ?_
          refine AW.iret dX9_bestWay_77 rfl rfl (by decide) (by decide) ?_
          exact ⟨by rw [oBest, if_pos h6, if_pos h15, if_neg q0, if_pos rfl]; rfl, _, rfl⟩
        · refine AW.lsw (t := 78) (o := 35) dX9_bestWay_43 (by decide) (lsw_b q0 q1) rfl ?_
          refine AW.aload_n (n := 79) dX9_bestWay_78 rfl rfl ?_
          refine AW.sg (n := 82) dX9_bestWay_79 fl_X9_235 rfl rfl ?_
          refine AW.iret dX9_bestWay_82 rfl rfl (by decide) (by decide) ?_
          exact ⟨by rw [oBest, if_pos h6, if_pos h15, if_neg q0, if_neg q1]; rfl, _, rfl⟩
    · refine AW.ldc (n := 20) dX9_bestWay_18 kc_X9_83 rfl ?_
      refine AW.iret dX9_bestWay_20 rfl rfl (Nat.zero_le _) (Nat.zero_le _) ?_
      exact ⟨by simp [oBest, h6, h15], e, rfl⟩
