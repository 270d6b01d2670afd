set_option maxHeartbeats 4000000 in
set_option maxRecDepth 100000 in
theorem l_X7_readVan {μ : Me} {e : Nat × (Nat → aC)} {B : Nat} {ag : Int32} (ho : tOk B μ) (hB : 240 ≤ B) (hB9 : B ≤ 80000) : AW none 3 0 0 mX7_readVan 0 0 13 [some (.ref 1), some (.ref 3), some (.int ag)] [] (wS μ e) (a_eq none (wS (sVanB μ) e)) := by
  refine AW.aload_n (n := 14) dX7_readVan_13 rfl rfl ?_
  refine AW.dup (n := 15) dX7_readVan_14 rfl rfl ?_
  refine AW.gi (n := 18) dX7_readVan_15 fl_X7_25 s_1 rfl rfl ?_
  refine AW.iconst (n := 19) (v := 1) dX7_readVan_18 rfl rfl ?_
  refine AW.iadd (n := 20) dX7_readVan_19 rfl ?_
  refine AW.pi (n := 23) dX7_readVan_20 fp_X7_25 s_1 rfl ⟨rfl, rfl⟩ rfl ?_
  refine AW.aload_n (n := 24) dX7_readVan_23 rfl rfl ?_
  refine AW.aload_n (n := 25) dX7_readVan_24 rfl rfl ?_
  refine AW.iconst (n := 26) (v := 1) dX7_readVan_25 rfl rfl ?_
  refine AW.bipush (n := 28) (v := 90) dX7_readVan_26 rfl rfl ?_
  refine AW.ev2i (Mc := mX7_number) (n := 31) dX7_readVan_28 lk_X7_65 k_mX7_number s_1 rfl rfl (c_X7_number (tOk.inc ho) (by omega) (by omega)) (Nat.le_of_ble_eq_true rfl) (by decide) (Nat.zero_le _) (Nat.zero_le _) rfl ?_
  refine AW.pi (n := 34) dX7_readVan_31 fp_X7_44 s_3 rfl ⟨rfl, rfl⟩ rfl ?_
  refine AW.aload_n (n := 35) dX7_readVan_34 rfl rfl ?_
  refine AW.aload_n (n := 36) dX7_readVan_35 rfl rfl ?_
  refine AW.iconst (n := 37) (v := 0) dX7_readVan_36 rfl rfl ?_
  refine AW.bipush (n := 39) (v := 99) dX7_readVan_37 rfl rfl ?_
  refine AW.ev2i (Mc := mX7_number) (n := 42) dX7_readVan_39 lk_X7_65 k_mX7_number s_1 rfl rfl (c_X7_number ((tOk.inc ho).numTo (j := 0) (by omega) (by omega)) (by omega) (by omega)) (Nat.le_of_ble_eq_true rfl) (by decide) (Nat.zero_le _) (Nat.zero_le _) rfl ?_
  refine AW.pi (n := 45) dX7_readVan_42 fp_X7_69 s_3 rfl ⟨rfl, rfl⟩ rfl ?_
  refine AW.aload_n (n := 46) dX7_readVan_45 rfl rfl ?_
  refine AW.aload_n (n := 47) dX7_readVan_46 rfl rfl ?_
  refine AW.iconst (n := 48) (v := 1) dX7_readVan_47 rfl rfl ?_
  refine AW.bipush (n := 50) (v := 30) dX7_readVan_48 rfl rfl ?_
  refine AW.ev2i (Mc := mX7_number) (n := 53) dX7_readVan_50 lk_X7_65 k_mX7_number s_1 rfl rfl (c_X7_number (((tOk.inc ho).numTo (j := 0) (by omega) (by omega)).numTo (j := 1) (by omega) (by omega)) (by omega) (by omega)) (Nat.le_of_ble_eq_true rfl) (by decide) (Nat.zero_le _) (Nat.zero_le _) rfl ?_
  refine AW.pi (n := 56) dX7_readVan_53 fp_X7_72 s_3 rfl ⟨rfl, rfl⟩ rfl ?_
  refine AW.aload_n (n := 57) dX7_readVan_56 rfl rfl ?_
  refine AW.ev0v (Mc := mX7_endClause) (n := 60) dX7_readVan_57 lk_X7_75 k_mX7_endClause s_1 rfl rfl (c_X7_endClause ((((tOk.inc ho).numTo (j := 0) (by omega) (by omega)).numTo (j := 1) (by omega) (by omega)).numTo (j := 2) (by omega) (by omega)) (by omega)) (Nat.le_of_ble_eq_true rfl) (by decide) (Nat.zero_le _) (Nat.zero_le _) rfl ?_
  refine AW.ret dX7_readVan_60 rfl (Nat.zero_le _) (Nat.zero_le _) ?_
  exact ⟨rfl, rfl⟩
set_option maxHeartbeats 4000000 in
set_option maxRecDepth 100000 in
theorem c_X7_readVan {μ : Me} {e : Nat × (Nat → aC)} {B : Nat} {ag : Bool} (ho : tOk B μ) (hB : 240 ≤ B) (hB9 : B ≤ 80000) : AC 3 0 0 mX7_readVan [.ref 1, .ref 3, .int (b2i ag)] (wS μ e) (a_eq none (wS (sVan μ ag) e)) := by
  refine AC.of (L := [some (.ref 1), some (.ref 3), some (.int (b2i ag))]) (j := 0) (by decide) rfl (Nat.le_of_ble_eq_true rfl) ?_
  refine AW.iload_n (n := 1) dX7_readVan_0 rfl rfl ?_
  refine AW.bif_eq (n := 4) (t := 13) dX7_readVan_1 rfl rfl (fun h1 => ?_) (fun h1 => ?_)
  · rw [sVan, if_neg (by rw [h1]; decide)]
    exact l_X7_readVan ho hB hB9
  · refine AW.aload_n (n := 5) dX7_readVan_4 rfl rfl ?_
    refine AW.iconst (n := 6) (v := 3) dX7_readVan_5 rfl rfl ?_
    refine AW.aload_n (n := 7) dX7_readVan_6 rfl rfl ?_
    refine AW.gi (n := 10) dX7_readVan_7 fl_X7_25 s_1 rfl rfl ?_
    refine AW.ev2v (Mc := mX7_fail) (n := 13) dX7_readVan_10 lk_X7_47 k_mX7_fail s_1 rfl rfl (c_X7_fail) (Nat.le_of_ble_eq_true rfl) (by decide) (Nat.zero_le _) (Nat.zero_le _) rfl ?_
    rw [sVan, if_pos h1]
    exact l_X7_readVan ho.fail hB hB9
set_option maxHeartbeats 4000000 in
set_option maxRecDepth 100000 in
theorem l_X7_readStop {μ : Me} {e : Nat × (Nat → aC)} {B : Nat} (ho : tOk B μ) (hB : 240 ≤ B) (hB9 : B ≤ 80000) (hd : dOk μ) : AW none 3 0 0 mX7_readStop 0 0 18 [some (.ref 1), some (.ref 3), none, none, none] [] (wS μ e) (a_eq none (wS (sStopB μ) e)) := by
  refine AW.aload_n (n := 19) dX7_readStop_18 rfl rfl ?_
  refine AW.dup (n := 20) dX7_readStop_19 rfl rfl ?_
  refine AW.gi (n := 23) dX7_readStop_20 fl_X7_25 s_1 rfl rfl ?_
  refine AW.iconst (n := 24) (v := 1) dX7_readStop_23 rfl rfl ?_
  refine AW.iadd (n := 25) dX7_readStop_24 rfl ?_
  refine AW.pi (n := 28) dX7_readStop_25 fp_X7_25 s_1 rfl ⟨rfl, rfl⟩ rfl ?_
  refine AW.aload_n (n := 29) dX7_readStop_28 rfl rfl ?_
  refine AW.iconst (n := 30) (v := 0) dX7_readStop_29 rfl rfl ?_
  refine AW.bipush (n := 32) (v := 99) dX7_readStop_30 rfl rfl ?_
  refine AW.ev2i (Mc := mX7_number) (n := 35) dX7_readStop_32 lk_X7_65 k_mX7_number s_1 rfl rfl (c_X7_number (tOk.inc ho) (by omega) (by omega)) (Nat.le_of_ble_eq_true rfl) (by decide) (Nat.zero_le _) (Nat.zero_le _) rfl ?_
  refine AW.ist2 (n := 36) dX7_readStop_35 (Nat.le_of_ble_eq_true rfl) rfl rfl ?_
  refine AW.aload_n (n := 37) dX7_readStop_36 rfl rfl ?_
  refine AW.iconst (n := 38) (v := 0) dX7_readStop_37 rfl rfl ?_
  refine AW.sipush (n := 41) (v := 4095) dX7_readStop_38 rfl rfl ?_
  refine AW.ev2i (Mc := mX7_number) (n := 44) dX7_readStop_41 lk_X7_65 k_mX7_number s_1 rfl rfl (c_X7_number ((tOk.inc ho).num (by omega) (by omega)) (by omega) (by omega)) (Nat.le_of_ble_eq_true rfl) (by decide) (Nat.zero_le _) (Nat.zero_le _) rfl ?_
  refine AW.ist3 (n := 45) dX7_readStop_44 (Nat.le_of_ble_eq_true rfl) rfl rfl ?_
  refine AW.aload_n (n := 46) dX7_readStop_45 rfl rfl ?_
  refine AW.iconst (n := 47) (v := 0) dX7_readStop_46 rfl rfl ?_
  refine AW.bipush (n := 49) (v := 9) dX7_readStop_47 rfl rfl ?_
  refine AW.ev2i (Mc := mX7_number) (n := 52) dX7_readStop_49 lk_X7_65 k_mX7_number s_1 rfl rfl (c_X7_number (((tOk.inc ho).num (by omega) (by omega)).num (by omega) (by omega)) (by omega) (by omega)) (Nat.le_of_ble_eq_true rfl) (by decide) (Nat.zero_le _) (Nat.zero_le _) rfl ?_
  refine AW.ist4 (n := 54) dX7_readStop_52 (Nat.le_of_ble_eq_true rfl) rfl rfl ?_
  refine AW.aload_n (n := 55) dX7_readStop_54 rfl rfl ?_
  refine AW.ev0v (Mc := mX7_endClause) (n := 58) dX7_readStop_55 lk_X7_75 k_mX7_endClause s_1 rfl rfl (c_X7_endClause ((((tOk.inc ho).num (by omega) (by omega)).num (by omega) (by omega)).num (by omega) (by omega)) (by omega)) (Nat.le_of_ble_eq_true rfl) (by decide) (Nat.zero_le _) (Nat.zero_le _) rfl ?_
  refine AW.aload_n (n := 59) dX7_readStop_58 rfl rfl ?_
  refine AW.iload_n (n := 60) dX7_readStop_59 rfl rfl ?_
  refine AW.iload_n (n := 61) dX7_readStop_60 rfl rfl ?_
  refine AW.iload (n := 63) dX7_readStop_61 rfl rfl ?_
  refine AW.ev3v (Mc := mX6_addStop) (n := 66) dX7_readStop_63 lk_X7_81 k_mX6_addStop s_3 rfl rfl (c_X6_addStop (n := nOf μ) sS_3 (by have e9 := sStopB_3 μ; unfold sInc at e9; rw [e9]; exact hd.n.1) hd.n.2) (Nat.le_of_ble_eq_true rfl) (by decide) (Nat.zero_le _) (Nat.zero_le _) rfl ?_
  refine AW.ret dX7_readStop_66 rfl (Nat.zero_le _) (Nat.zero_le _) ?_
  exact ⟨rfl, rfl⟩
set_option maxHeartbeats 4000000 in
set_option maxRecDepth 100000 in
theorem c_X7_readStop {μ : Me} {e : Nat × (Nat → aC)} {B : Nat} (ho : tOk B μ) (hB : 240 ≤ B) (hB9 : B ≤ 80000) (hd : dOk μ) : AC 3 0 0 mX7_readStop [.ref 1, .ref 3] (wS μ e) (a_eq none (wS (sStop μ) e)) := by
  refine AC.of (L := [some (.ref 1), some (.ref 3), none, none, none]) (j := 3) (by decide) rfl (Nat.le_of_ble_eq_true rfl) ?_
  refine AW.aload_n (n := 1) dX7_readStop_0 rfl rfl ?_
  refine AW.gi (n := 4) dX7_readStop_1 fl_X7_78 s_3 rfl rfl ?_
  refine AW.bipush (n := 6) (v := 7) dX7_readStop_4 rfl rfl ?_
  refine AW.icmp_lt (n := 9) (t := 18) dX7_readStop_6 rfl rfl (fun h6 => ?_) (fun h6 => ?_)
  · rw [sStop, if_pos h6]
    exact l_X7_readStop ho hB hB9 hd
  · refine AW.aload_n (n := 10) dX7_readStop_9 rfl rfl ?_
    refine AW.iconst (n := 11) (v := 3) dX7_readStop_10 rfl rfl ?_
    refine AW.aload_n (n := 12) dX7_readStop_11 rfl rfl ?_
    refine AW.gi (n := 15) dX7_readStop_12 fl_X7_25 s_1 rfl rfl ?_
    refine AW.ev2v (Mc := mX7_fail) (n := 18) dX7_readStop_15 lk_X7_47 k_mX7_fail s_1 rfl rfl (c_X7_fail) (Nat.le_of_ble_eq_true rfl) (by decide) (Nat.zero_le _) (Nat.zero_le _) rfl ?_
    rw [sStop, if_neg h6]
    exact l_X7_readStop ho.fail hB hB9 (hd.of (sFail_ne (by decide)))
set_option maxHeartbeats 4000000 in
set_option maxRecDepth 100000 in
theorem l_X7_readDin_69 {μ : Me} {e : Nat × (Nat → aC)} {B more : Nat} {P : Option Value → aS → Prop} (ho : tOk B μ) (hB : 240 ≤ B) (hB9 : B ≤ 80000) (hd : dOk μ) (hk : AW none 3 0 0 mX7_readDin 0 0 39 [some (.ref 1), some (.ref 3), some (.int (nI (more + 1)))] [] (wS (sDinA μ) e) P) : AW none 3 0 0 mX7_readDin 0 0 69 [some (.ref 1), some (.ref 3), some (.int (nI more))] [] (wS μ e) P := by
  refine AW.aload_n (n := 70) dX7_readDin_69 rfl rfl ?_
  refine AW.dup (n := 71) dX7_readDin_70 rfl rfl ?_
  refine AW.gi (n := 74) dX7_readDin_71 fl_X7_25 s_1 rfl rfl ?_
  refine AW.iconst (n := 75) (v := 1) dX7_readDin_74 rfl rfl ?_
  refine AW.iadd (n := 76) dX7_readDin_75 rfl ?_
  refine AW.pi (n := 79) dX7_readDin_76 fp_X7_25 s_1 rfl ⟨rfl, rfl⟩ rfl ?_
  refine AW.aload_n (n := 80) dX7_readDin_79 rfl rfl ?_
  refine AW.aload_n (n := 81) dX7_readDin_80 rfl rfl ?_
  refine AW.iconst (n := 82) (v := 0) dX7_readDin_81 rfl rfl ?_
  refine AW.bipush (n := 84) (v := 9) dX7_readDin_82 rfl rfl ?_
  refine AW.ev2i (Mc := mX7_number) (n := 87) dX7_readDin_84 lk_X7_65 k_mX7_number s_1 rfl rfl (c_X7_number (tOk.inc ho) (by omega) (by omega)) (Nat.le_of_ble_eq_true rfl) (by decide) (Nat.zero_le _) (Nat.zero_le _) rfl ?_
  refine AW.ev1v (Mc := mX6_addDin) (n := 90) dX7_readDin_87 lk_X7_88 k_mX6_addDin s_3 rfl rfl (c_X6_addDin (dn := dnOf μ) sS_3 (by have e9 := sDinA_3 μ; unfold sInc at e9; rw [e9]; exact hd.dn.1) hd.dn.2) (Nat.le_of_ble_eq_true rfl) (by decide) (Nat.zero_le _) (Nat.zero_le _) rfl ?_
  refine AW.inc2 (n := 93) (1) dX7_readDin_90 rfl (Nat.le_of_ble_eq_true rfl) rfl rfl ?_
  refine AW.goto (t := 39) dX7_readDin_93 rfl ?_
  rw [nI_1]
  exact hk
set_option maxHeartbeats 4000000 in
set_option maxRecDepth 100000 in
theorem l_X7_readDin {e : Nat × (Nat → aC)} : ∀ (m more B : Nat) (μ : Me), 13 = more + m → tOk B μ → 240 ≤ B → B + m ≤ 80000 → dOk μ → AW none 3 0 0 mX7_readDin 0 0 39 [some (.ref 1), some (.ref 3), some (.int (nI more))] [] (wS μ e) (a_eq none (wS (sDinL m more μ) e)) := by
  intro m
  induction m with
  | zero =>
    intro more B μ hm ho hB hB9 hd
    refine AW.iload_n (n := 40) dX7_readDin_39 rfl rfl ?_
    refine AW.bipush (n := 42) (v := 12) dX7_readDin_40 rfl rfl ?_
    refine AW.icmp_gt (n := 45) (t := 96) dX7_readDin_42 rfl rfl (fun h42 => ?_) (fun h42 => ?_)
    · refine AW.aload_n (n := 97) dX7_readDin_96 rfl rfl ?_
      refine AW.ev0v (Mc := mX7_endClause) (n := 100) dX7_readDin_97 lk_X7_75 k_mX7_endClause s_1 rfl rfl (c_X7_endClause ho (by omega)) (Nat.le_of_ble_eq_true rfl) (by decide) (Nat.zero_le _) (Nat.zero_le _) rfl ?_
      refine AW.ret dX7_readDin_100 rfl (Nat.zero_le _) (Nat.zero_le _) ?_
      exact ⟨rfl, rfl⟩
    · exact absurd ((nI_ltI (a := 12) (b := more) (by omega) (by omega)).mpr (by omega)) h42
  | succ m ih =>
    intro more B μ hm ho hB hB9 hd
    refine AW.iload_n (n := 40) dX7_readDin_39 rfl rfl ?_
    refine AW.bipush (n := 42) (v := 12) dX7_readDin_40 rfl rfl ?_
    refine AW.icmp_gt (n := 45) (t := 96) dX7_readDin_42 rfl rfl (fun h42 => ?_) (fun h42 => ?_)
    · exact absurd ((nI_ltI (a := 12) (b := more) (by omega) (by omega)).mp h42) (by omega)
    · refine AW.aload_n (n := 46) dX7_readDin_45 rfl rfl ?_
      refine AW.ev0i (Mc := mX7_peek) (n := 49) dX7_readDin_46 lk_X7_36 k_mX7_peek s_1 rfl rfl (c_X7_peek ho (by omega)) (Nat.le_of_ble_eq_true rfl) (by decide) (Nat.zero_le _) (Nat.zero_le _) rfl ?_
      refine AW.bipush (n := 51) (v := 44) dX7_readDin_49 rfl rfl ?_
      refine AW.icmp_ne (n := 54) (t := 96) dX7_readDin_51 rfl rfl (fun h51 => ?_) (fun h51 => ?_)
      · skip
        refine AW.aload_n (n := 97) dX7_readDin_96 rfl rfl ?_
        refine AW.ev0v (Mc := mX7_endClause) (n := 100) dX7_readDin_97 lk_X7_75 k_mX7_endClause s_1 rfl rfl (c_X7_endClause (ho.peek hB (by omega)) (by omega)) (Nat.le_of_ble_eq_true rfl) (by decide) (Nat.zero_le _) (Nat.zero_le _) rfl ?_
        refine AW.ret dX7_readDin_100 rfl (Nat.zero_le _) (Nat.zero_le _) ?_
        exact ⟨rfl, by rw [sDinL, if_neg (by omega), if_neg h51]⟩
      · have hdp := hd.of (sPeek_ne (μ := μ) (i := 3) (by decide))
        have hop := ho.peek hB (by omega)
        have e9 : sDinL (m + 1) more μ = sDinL m (more + 1) (sDinS more (sPeek μ).2) := by rw [sDinL, if_neg (by omega), if_pos h51]
        rw [e9]
        refine AW.iload_n (n := 55) dX7_readDin_54 rfl rfl ?_
        refine AW.bipush (n := 57) (v := 12) dX7_readDin_55 rfl rfl ?_
        refine AW.icmp_ne (n := 60) (t := 69) dX7_readDin_57 rfl rfl (fun h57 => ?_) (fun h57 => ?_)
        · have hm12 : more ≠ 12 := fun q => h57 (by rw [q]; rfl)
          rw [sDinS, if_neg hm12]
          exact l_X7_readDin_69 hop hB (by omega) hdp (ih (more + 1) (B + 1) _ (by omega) (hop.dinA hB (by omega)) (by omega) (by omega) hdp.dinA)
        · refine AW.aload_n (n := 61) dX7_readDin_60 rfl rfl ?_
          refine AW.iconst (n := 62) (v := 1) dX7_readDin_61 rfl rfl ?_
          refine AW.aload_n (n := 63) dX7_readDin_62 rfl rfl ?_
          refine AW.gi (n := 66) dX7_readDin_63 fl_X7_25 s_1 rfl rfl ?_
          refine AW.ev2v (Mc := mX7_fail) (n := 69) dX7_readDin_66 lk_X7_47 k_mX7_fail s_1 rfl rfl (c_X7_fail) (Nat.le_of_ble_eq_true rfl) (by decide) (Nat.zero_le _) (Nat.zero_le _) rfl ?_
          have hm12 : more = 12 := (nI_eq (a := more) (b := 12) (by omega) (by omega)).mp h57
          rw [sDinS, if_pos hm12]
          exact l_X7_readDin_69 hop.fail hB (by omega) (hdp.of (sFail_ne (by decide))) (ih (more + 1) (B + 1) _ (by omega) (hop.fail.dinA hB (by omega)) (by omega) (by omega) (hdp.of (sFail_ne (by decide))).dinA)
set_option maxHeartbeats 4000000 in
set_option maxRecDepth 100000 in
theorem l_X7_readDin_16 {μ : Me} {e : Nat × (Nat → aC)} {B : Nat} (ho : tOk B μ) (hB : 240 ≤ B) (hB9 : B ≤ 70000) (hd : dOk μ) : AW none 3 0 0 mX7_readDin 0 0 16 [some (.ref 1), some (.ref 3), none] [] (wS μ e) (a_eq none (wS (sDinL 12 1 (sDinA μ)) e)) := by
  refine AW.aload_n (n := 17) dX7_readDin_16 rfl rfl ?_
  refine AW.dup (n := 18) dX7_readDin_17 rfl rfl ?_
  refine AW.gi (n := 21) dX7_readDin_18 fl_X7_25 s_1 rfl rfl ?_
  refine AW.iconst (n := 22) (v := 1) dX7_readDin_21 rfl rfl ?_
  refine AW.iadd (n := 23) dX7_readDin_22 rfl ?_
  refine AW.pi (n := 26) dX7_readDin_23 fp_X7_25 s_1 rfl ⟨rfl, rfl⟩ rfl ?_
  refine AW.aload_n (n := 27) dX7_readDin_26 rfl rfl ?_
  refine AW.aload_n (n := 28) dX7_readDin_27 rfl rfl ?_
  refine AW.iconst (n := 29) (v := 0) dX7_readDin_28 rfl rfl ?_
  refine AW.bipush (n := 31) (v := 9) dX7_readDin_29 rfl rfl ?_
  refine AW.ev2i (Mc := mX7_number) (n := 34) dX7_readDin_31 lk_X7_65 k_mX7_number s_1 rfl rfl (c_X7_number (tOk.inc ho) (by omega) (by omega)) (Nat.le_of_ble_eq_true rfl) (by decide) (Nat.zero_le _) (Nat.zero_le _) rfl ?_
  refine AW.ev1v (Mc := mX6_addDin) (n := 37) dX7_readDin_34 lk_X7_88 k_mX6_addDin s_3 rfl rfl (c_X6_addDin (dn := dnOf μ) sS_3 (by have e9 := sDinA_3 μ; unfold sInc at e9; rw [e9]; exact hd.dn.1) hd.dn.2) (Nat.le_of_ble_eq_true rfl) (by decide) (Nat.zero_le _) (Nat.zero_le _) rfl ?_
  refine AW.iconst (n := 38) (v := 1) dX7_readDin_37 rfl rfl ?_
  refine AW.ist2 (n := 39) dX7_readDin_38 (Nat.le_of_ble_eq_true rfl) rfl rfl ?_
  exact l_X7_readDin 12 1 (B + 1) _ (by omega) (ho.dinA hB (by omega)) (by omega) (by omega) hd.dinA
set_option maxHeartbeats 4000000 in
set_option maxRecDepth 100000 in
theorem c_X7_readDin {μ : Me} {e : Nat × (Nat → aC)} {B : Nat} (ho : tOk B μ) (hB : 240 ≤ B) (hB9 : B ≤ 70000) (hd : dOk μ) : AC 3 0 0 mX7_readDin [.ref 1, .ref 3] (wS μ e) (a_eq none (wS (sDin μ) e)) := by
  refine AC.of (L := [some (.ref 1), some (.ref 3), none]) (j := 1) (by decide) rfl (Nat.le_of_ble_eq_true rfl) ?_
  refine AW.aload_n (n := 1) dX7_readDin_0 rfl rfl ?_
  refine AW.gi (n := 4) dX7_readDin_1 fl_X7_85 s_3 rfl rfl ?_
  refine AW.if_le (n := 7) (t := 16) dX7_readDin_4 rfl rfl (fun h4 => ?_) (fun h4 => ?_)
  · rw [sDin, if_pos h4]
    exact l_X7_readDin_16 ho hB hB9 hd
  · refine AW.aload_n (n := 8) dX7_readDin_7 rfl rfl ?_
    refine AW.iconst (n := 9) (v := 3) dX7_readDin_8 rfl rfl ?_
    refine AW.aload_n (n := 10) dX7_readDin_9 rfl rfl ?_
    refine AW.gi (n := 13) dX7_readDin_10 fl_X7_25 s_1 rfl rfl ?_
    refine AW.ev2v (Mc := mX7_fail) (n := 16) dX7_readDin_13 lk_X7_47 k_mX7_fail s_1 rfl rfl (c_X7_fail) (Nat.le_of_ble_eq_true rfl) (by decide) (Nat.zero_le _) (Nat.zero_le _) rfl ?_
    rw [sDin, if_neg h4]
    exact l_X7_readDin_16 ho.fail hB hB9 (hd.of (sFail_ne (by decide)))
set_option maxHeartbeats 4000000 in
set_option maxRecDepth 100000 in
theorem l_X7_readNei_75 {μ : Me} {e : Nat × (Nat → aC)} {B : Nat} {s t : Int32} (ho : tOk B μ) (hB : 240 ≤ B) (hB9 : B ≤ 80000) (hd : dOk μ) : AW none 3 0 0 mX7_readNeighbour 0 0 75 [some (.ref 1), some (.ref 3), some (.int s), some (.int t), none] [] (wS μ e) (a_eq none (wS (sNeiB μ s t) e)) := by
  refine AW.aload_n (n := 76) dX7_readNeighbour_75 rfl rfl ?_
  refine AW.iconst (n := 77) (v := 1) dX7_readNeighbour_76 rfl rfl ?_
  refine AW.bipush (n := 79) (v := 9) dX7_readNeighbour_77 rfl rfl ?_
  refine AW.ev2i (Mc := mX7_number) (n := 82) dX7_readNeighbour_79 lk_X7_65 k_mX7_number s_1 rfl rfl (c_X7_number ho (by omega) (by omega)) (Nat.le_of_ble_eq_true rfl) (by decide) (Nat.zero_le _) (Nat.zero_le _) rfl ?_
  refine AW.ist4 (n := 84) dX7_readNeighbour_82 (Nat.le_of_ble_eq_true rfl) rfl rfl ?_
  refine AW.aload_n (n := 85) dX7_readNeighbour_84 rfl rfl ?_
  refine AW.ev0v (Mc := mX7_endClause) (n := 88) dX7_readNeighbour_85 lk_X7_75 k_mX7_endClause s_1 rfl rfl (c_X7_endClause (ho.num (by omega) (by omega)) (by omega)) (Nat.le_of_ble_eq_true rfl) (by decide) (Nat.zero_le _) (Nat.zero_le _) rfl ?_
  refine AW.aload_n (n := 89) dX7_readNeighbour_88 rfl rfl ?_
  refine AW.gi (n := 92) dX7_readNeighbour_89 fl_X7_19 s_1 rfl rfl ?_
  refine AW.if_ne (n := 95) (t := 118) dX7_readNeighbour_92 rfl rfl (fun h92 => ?_) (fun h92 => ?_)
  · refine AW.ret dX7_readNeighbour_118 rfl (Nat.zero_le _) (Nat.zero_le _) ?_
    exact ⟨rfl, by simp [sNeiB, sNeiC, h92]⟩
  · refine AW.aload_n (n := 96) dX7_readNeighbour_95 rfl rfl ?_
    refine AW.iload_n (n := 97) dX7_readNeighbour_96 rfl rfl ?_
    refine AW.ev1i (Mc := mX6_has) (n := 100) dX7_readNeighbour_97 lk_X7_92 k_mX6_has s_3 rfl rfl (c_X6_has sS_3) (Nat.le_of_ble_eq_true rfl) (by decide) (Nat.zero_le _) (Nat.zero_le _) rfl ?_
    refine AW.bif_eq (n := 103) (t := 118) dX7_readNeighbour_100 rfl rfl (fun h100 => ?_) (fun h100 => ?_)
    · refine AW.ret dX7_readNeighbour_118 rfl (Nat.zero_le _) (Nat.zero_le _) ?_
      exact ⟨rfl, by simp [sNeiB, sNeiC, h92, h100]⟩
    · have e3 : (sEnd (sNum μ 1 9).2) 3 = μ 3 := by rw [sEnd_ne (by decide), sNum_ne (by decide)]
      obtain ⟨j, hj, rfl⟩ := sHas_j (n := nOf μ) (by rw [e3]; exact hd.n.1) hd.n.2 h100
      have hj7 := hd.n.2
      have hjc := cl_nI (show j < 2147483648 by omega)
      refine AW.aload_n (n := 104) dX7_readNeighbour_103 rfl rfl ?_
      refine AW.gr (n := 107) dX7_readNeighbour_104 fl_X7_96 s_3 rfl rfl ?_
      refine AW.iload_n (n := 108) dX7_readNeighbour_107 rfl rfl ?_
      refine AW.iload_n (n := 109) dX7_readNeighbour_108 rfl rfl ?_
      refine AW.is (n := 110) j dX7_readNeighbour_109 s_7 rfl (by omega) (by decide) rfl ?_
      refine AW.aload_n (n := 111) dX7_readNeighbour_110 rfl rfl ?_
      refine AW.gr (n := 114) dX7_readNeighbour_111 fl_X7_99 s_3 rfl rfl ?_
      refine AW.iload_n (n := 115) dX7_readNeighbour_114 rfl rfl ?_
      refine AW.iload (n := 117) dX7_readNeighbour_115 rfl rfl ?_
      refine AW.is (n := 118) j dX7_readNeighbour_117 s_8 rfl (by omega) (by decide) rfl ?_
      refine AW.ret dX7_readNeighbour_118 rfl (Nat.zero_le _) (Nat.zero_le _) ?_
      exact ⟨rfl, by simp [sNeiB, sNeiC, h92, h100, hjc]⟩
set_option maxHeartbeats 4000000 in
set_option maxRecDepth 100000 in
theorem l_X7_readNei_49 {μ : Me} {e : Nat × (Nat → aC)} {B : Nat} {s : Int32} (ho : tOk B μ) (hB : 240 ≤ B) (hB9 : B ≤ 80000) (hd : dOk μ) : AW none 3 0 0 mX7_readNeighbour 0 0 49 [some (.ref 1), some (.ref 3), some (.int s), none, none] [] (wS μ e) (a_eq none (wS (sNeiA μ s) e)) := by
  refine AW.aload_n (n := 50) dX7_readNeighbour_49 rfl rfl ?_
  refine AW.iconst (n := 51) (v := 0) dX7_readNeighbour_50 rfl rfl ?_
  refine AW.aload_n (n := 52) dX7_readNeighbour_51 rfl rfl ?_
  refine AW.gi (n := 55) dX7_readNeighbour_52 fl_X7_78 s_3 rfl rfl ?_
  refine AW.iconst (n := 56) (v := 1) dX7_readNeighbour_55 rfl rfl ?_
  refine AW.isub (n := 57) dX7_readNeighbour_56 rfl ?_
  refine AW.ev2i (Mc := mX7_number) (n := 60) dX7_readNeighbour_57 lk_X7_65 k_mX7_number s_1 rfl rfl (c_X7_number ho (by omega) (by omega)) (Nat.le_of_ble_eq_true rfl) (by decide) (Nat.zero_le _) (Nat.zero_le _) rfl ?_
  refine AW.ist3 (n := 61) dX7_readNeighbour_60 (Nat.le_of_ble_eq_true rfl) rfl rfl ?_
  refine AW.iload_n (n := 62) dX7_readNeighbour_61 rfl rfl ?_
  refine AW.iload_n (n := 63) dX7_readNeighbour_62 rfl rfl ?_
  refine AW.icmp_ne (n := 66) (t := 75) dX7_readNeighbour_63 rfl rfl (fun h63 => ?_) (fun h63 => ?_)
  · unfold sNeiA
    dsimp only
    rw [if_neg h63]
    exact l_X7_readNei_75 (ho.num (by omega) (by omega)) hB hB9 (hd.of (sNum_ne (by decide)))
  · refine AW.aload_n (n := 67) dX7_readNeighbour_66 rfl rfl ?_
    refine AW.iconst (n := 68) (v := 4) dX7_readNeighbour_67 rfl rfl ?_
    refine AW.aload_n (n := 69) dX7_readNeighbour_68 rfl rfl ?_
    refine AW.gi (n := 72) dX7_readNeighbour_69 fl_X7_28 s_1 rfl rfl ?_
    refine AW.ev2v (Mc := mX7_fail) (n := 75) dX7_readNeighbour_72 lk_X7_47 k_mX7_fail s_1 rfl rfl (c_X7_fail) (Nat.le_of_ble_eq_true rfl) (by decide) (Nat.zero_le _) (Nat.zero_le _) rfl ?_
    unfold sNeiA
    dsimp only
    rw [if_pos h63]
    exact l_X7_readNei_75 (ho.num (by omega) (by omega)).fail hB hB9 (hd.of (by rw [sFail_ne (by decide), sNum_ne (by decide)]))
set_option maxHeartbeats 4000000 in
set_option maxRecDepth 100000 in
theorem c_X7_readNeighbour {μ : Me} {e : Nat × (Nat → aC)} {B : Nat} (ho : tOk B μ) (hB : 240 ≤ B) (hB9 : B ≤ 70000) (hd : dOk μ) : AC 3 0 0 mX7_readNeighbour [.ref 1, .ref 3] (wS μ e) (a_eq none (wS (sNei μ) e)) := by
  refine AC.of (L := [some (.ref 1), some (.ref 3), none, none, none]) (j := 3) (by decide) rfl (Nat.le_of_ble_eq_true rfl) ?_
  refine AW.aload_n (n := 1) dX7_readNeighbour_0 rfl rfl ?_
  refine AW.dup (n := 2) dX7_readNeighbour_1 rfl rfl ?_
  refine AW.gi (n := 5) dX7_readNeighbour_2 fl_X7_25 s_1 rfl rfl ?_
  refine AW.iconst (n := 6) (v := 1) dX7_readNeighbour_5 rfl rfl ?_
  refine AW.iadd (n := 7) dX7_readNeighbour_6 rfl ?_
  refine AW.pi (n := 10) dX7_readNeighbour_7 fp_X7_25 s_1 rfl ⟨rfl, rfl⟩ rfl ?_
  refine AW.aload_n (n := 11) dX7_readNeighbour_10 rfl rfl ?_
  refine AW.iconst (n := 12) (v := 0) dX7_readNeighbour_11 rfl rfl ?_
  refine AW.aload_n (n := 13) dX7_readNeighbour_12 rfl rfl ?_
  refine AW.gi (n := 16) dX7_readNeighbour_13 fl_X7_78 s_3 rfl rfl ?_
  refine AW.iconst (n := 17) (v := 1) dX7_readNeighbour_16 rfl rfl ?_
  refine AW.isub (n := 18) dX7_readNeighbour_17 rfl ?_
  refine AW.ev2i (Mc := mX7_number) (n := 21) dX7_readNeighbour_18 lk_X7_65 k_mX7_number s_1 rfl rfl (c_X7_number (tOk.inc ho) (by omega) (by omega)) (Nat.le_of_ble_eq_true rfl) (by decide) (Nat.zero_le _) (Nat.zero_le _) rfl ?_
  refine AW.ist2 (n := 22) dX7_readNeighbour_21 (Nat.le_of_ble_eq_true rfl) rfl rfl ?_
  have e1 : (sNum (sInc μ) 0 (μ 3 3 - 1)).2 3 = μ 3 := by rw [sNum_ne (by decide), sInc_ne (by decide)]
  have e7 : (sNum (sInc μ) 0 (μ 3 3 - 1)).2 7 = μ 7 := by rw [sNum_ne (by decide), sInc_ne (by decide)]
  have hon : tOk (B + 1) (sNum (sInc μ) 0 (μ 3 3 - 1)).2 := (tOk.inc ho).num (by omega) (by omega)
  have hdn := hd.of e1
  rw [show (mu μ 1 4 (μ 1 4 + 1)) 3 = μ 3 from mu_ne (by decide)]
  rw [show mu μ 1 4 (μ 1 4 + 1) = sInc μ from rfl]
  generalize hr : sNum (sInc μ) 0 (μ 3 3 - 1) = r at e1 e7 hon hdn ⊢
  unfold sNei
  dsimp only
  rw [hr]
  refine AW.aload_n (n := 23) dX7_readNeighbour_22 rfl rfl ?_
  refine AW.iload_n (n := 24) dX7_readNeighbour_23 rfl rfl ?_
  refine AW.ev1i (Mc := mX6_has) (n := 27) dX7_readNeighbour_24 lk_X7_92 k_mX6_has s_3 rfl rfl (c_X6_has sS_3) (Nat.le_of_ble_eq_true rfl) (by decide) (Nat.zero_le _) (Nat.zero_le _) rfl ?_
  rw [e1]
  refine AW.bif_eq (n := 30) (t := 49) dX7_readNeighbour_27 rfl rfl (fun h27 => ?_) (fun h27 => ?_)
  · rw [if_neg (by rw [h27]; decide)]
    exact l_X7_readNei_49 hon (by omega) (by omega) hdn
  · obtain ⟨j, hj, hjj⟩ := sHas_j (n := nOf μ) hd.n.1 hd.n.2 h27
    have hj7 := hd.n.2
    have hjc := cl_nI (show j < 2147483648 by omega)
    refine AW.aload_n (n := 31) dX7_readNeighbour_30 rfl rfl ?_
    refine AW.gr (n := 34) dX7_readNeighbour_31 fl_X7_96 s_3 rfl rfl ?_
    refine AW.iload_n (n := 35) dX7_readNeighbour_34 rfl rfl ?_
    refine AW.ia (n := 36) j dX7_readNeighbour_35 s_7 hjj (by omega) (by decide) rfl ?_
    rw [e7]
    refine AW.iconst (n := 37) (v := -1) dX7_readNeighbour_36 rfl rfl ?_
    refine AW.icmp_eq (n := 40) (t := 49) dX7_readNeighbour_37 rfl rfl (fun h37 => ?_) (fun h37 => ?_)
    · rw [if_pos h27, if_pos (by rw [hjj, hjc]; exact h37)]
      exact l_X7_readNei_49 hon (by omega) (by omega) hdn
    · refine AW.aload_n (n := 41) dX7_readNeighbour_40 rfl rfl ?_
      refine AW.iconst (n := 42) (v := 4) dX7_readNeighbour_41 rfl rfl ?_
      refine AW.aload_n (n := 43) dX7_readNeighbour_42 rfl rfl ?_
      refine AW.gi (n := 46) dX7_readNeighbour_43 fl_X7_28 s_1 rfl rfl ?_
      refine AW.ev2v (Mc := mX7_fail) (n := 49) dX7_readNeighbour_46 lk_X7_47 k_mX7_fail s_1 rfl rfl (c_X7_fail) (Nat.le_of_ble_eq_true rfl) (by decide) (Nat.zero_le _) (Nat.zero_le _) rfl ?_
      rw [if_pos h27, if_neg (by rw [hjj, hjc]; exact h37)]
      exact l_X7_readNei_49 hon.fail (by omega) (by omega) (hdn.of (sFail_ne (by decide)))
