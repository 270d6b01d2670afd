def mRuleB (ν : Me) : Me :=
  let r1 := mIn ν 1 90
  let r2 := mIn r1.2 0 99
  let n2 := mu r2.2 139 4 r2.1
  let r3 := mIn n2 1 30
  mu (mu r3.2 139 5 r3.1) 139 3 r1.1
def mRule (ν : Me) (w : Int32) : Me := if mOkB (mWant ν (decide (ν 139 3 = 0)) 3 w) then mRuleB (mWant ν (decide (ν 139 3 = 0)) 3 w) else mWant ν (decide (ν 139 3 = 0)) 3 w
def mInTo (ν : Me) (a j : Nat) (lo hi : Int32) : Me := mu (mIn ν lo hi).2 a j (mIn ν lo hi).1
def mStopB (ν : Me) (n : Nat) : Me := mu (mu (mu (mInTo (mInTo (mInTo ν 140 (7 + n) 0 99) 141 (7 + n) 0 4095) 142 (7 + n) 0 9) 143 (7 + n) (-1)) 144 (7 + n) 0) 136 9 (nI (n + 1))
def mnOf (ν : Me) : Nat := (ν 136 9).toNatClampNeg
def mdnOf (ν : Me) : Nat := (ν 136 12).toNatClampNeg
def mStop (ν : Me) (w : Int32) : Me := if mOkB (mWant ν (!decide (7 ≤ ν 136 9)) 3 w) then mStopB (mWant ν (!decide (7 ≤ ν 136 9)) 3 w) (mnOf ν) else mWant ν (!decide (7 ≤ ν 136 9)) 3 w
theorem mWant_ok {ν : Me} {g : Bool} {k w : Int32} (hk : ¬ k = 0) (h : mOkB (mWant ν g k w) = true) : g = true ∧ mWant ν g k w = ν := by
  cases g with
  | true => exact ⟨rfl, rfl⟩
  | false =>
    exfalso
    unfold mOkB mWant mFail at h
    simp only [Bool.false_eq_true, if_false] at h
    split at h
    · simp [mu_at, hk] at h
    · next q => exact q (of_decide_eq_true h)
theorem mWant_t (ν : Me) (k w : Int32) : mWant ν true k w = ν := rfl
theorem mFail_ne {ν : Me} {k w : Int32} {i : Nat} (h : i ≠ 136) : mFail ν k w i = ν i := by
  unfold mFail
  split
  · rw [mu_ne h, mu_ne h]
  · rfl
theorem mWant_ne {ν : Me} {g : Bool} {k w : Int32} {i : Nat} (h : i ≠ 136) : mWant ν g k w i = ν i := by
  unfold mWant; split
  · rfl
  · exact mFail_ne h
theorem mWant_j {ν : Me} {g : Bool} {k w : Int32} {j : Nat} (h1 : j ≠ 17) (h2 : j ≠ 18) : mWant ν g k w 136 j = ν 136 j := by
  unfold mWant mFail; split
  · rfl
  · split
    · rw [mu_nj h2, mu_nj h1]
    · rfl
theorem mHere_ne {ν : Me} {i : Nat} (h : i ≠ 136) : (mHere ν).2 i = ν i := mu_ne h
theorem mHere_j {ν : Me} {j : Nat} (h : j ≠ 15) : (mHere ν).2 136 j = ν 136 j := by show mu ν 136 15 (nI (mPos ν)) 136 j = _; exact mu_nj h
theorem mNumB_ne {ν : Me} {i : Nat} (h : i ≠ 136) : (mNumB ν).2 i = ν i := by
  unfold mNumB; split
  · show mWant _ _ _ _ i = _; rw [mWant_ne h, mu_ne h]
  · rfl
theorem mNumB_j {ν : Me} {j : Nat} (h1 : j ≠ 17) (h2 : j ≠ 18) (h3 : j ≠ 15) : (mNumB ν).2 136 j = ν 136 j := by
  unfold mNumB; split
  · show mWant _ _ _ _ 136 j = _; rw [mWant_j h1 h2, mu_nj h3]
  · rfl
theorem mNumA_ne {ν : Me} {i : Nat} (h : i ≠ 136) : mNumA ν i = ν i := by unfold mNumA; rw [mu_ne h, mHere_ne h]
theorem mNum_ne {ν : Me} {i : Nat} (h : i ≠ 136) : (mNum ν).2 i = ν i := by
  unfold mNum; split
  · rw [mNumB_ne h, mWant_ne h, mNumA_ne h]
  · rfl
theorem mNum_j {ν : Me} {j : Nat} (h1 : j ≠ 17) (h2 : j ≠ 18) (h3 : j ≠ 15) (h4 : j ≠ 16) : (mNum ν).2 136 j = ν 136 j := by
  unfold mNum; split
  · rw [mNumB_j h1 h2 h3, mWant_j h1 h2]; unfold mNumA; rw [mu_nj h4, mHere_j h3]
  · rfl
theorem mIn_ne {ν : Me} {lo hi : Int32} {i : Nat} (h : i ≠ 136) : (mIn ν lo hi).2 i = ν i := by
  show mInM _ _ _ _ i = _
  unfold mInM; rw [mWant_ne h, mNum_ne h]
theorem mIn_j {ν : Me} {lo hi : Int32} {j : Nat} (h1 : j ≠ 17) (h2 : j ≠ 18) (h3 : j ≠ 15) (h4 : j ≠ 16) : (mIn ν lo hi).2 136 j = ν 136 j := by
  show mInM _ _ _ _ 136 j = _
  unfold mInM; rw [mWant_j h1 h2, mNum_j h1 h2 h3 h4]
theorem uOk.inTo {B a j : Nat} {lo hi : Int32} {ν : Me} (h : uOk B ν) (hB : 240 ≤ B) (hB9 : B ≤ 100000) (ha : a ≠ 136) : uOk B (mInTo ν a j lo hi) := (h.inn hB hB9).mset (fun q => absurd q ha)
theorem mInTo_j {ν : Me} {a i j : Nat} {lo hi : Int32} (ha : a ≠ 136) (h1 : j ≠ 17) (h2 : j ≠ 18) (h3 : j ≠ 15) (h4 : j ≠ 16) : mInTo ν a i lo hi 136 j = ν 136 j := by
  unfold mInTo; rw [mu_ne ha.symm, mIn_j h1 h2 h3 h4]
set_option maxHeartbeats 4000000 in
set_option maxRecDepth 100000 in
theorem c_X10_takeNumber {μ : Me} {e : Nat × (Nat → aC)} {B : Nat} (ho : uOk B μ) (hB : 240 ≤ B) (hB9 : B ≤ 80000) : AC 1 0 0 mX10_takeNumber [.ref 136] (wS μ e) (a_eq (some (.int ((mNum μ).1))) (wS ((mNum μ).2) e)) := by
  refine AC.of (L := [some (.ref 136), none, none, none]) (j := 3) (by decide) rfl (Nat.le_of_ble_eq_true rfl) ?_
  refine AW.aload_n (n := 1) dX10_takeNumber_0 rfl rfl ?_
  refine AW.gi (n := 4) dX10_takeNumber_1 fl_X10_80 s_136 rfl rfl ?_
  refine AW.if_le (n := 7) (t := 9) dX10_takeNumber_4 rfl rfl (fun h4 => ?_) (fun h4 => ?_)
  · refine AW.aload_n (n := 10) dX10_takeNumber_9 rfl rfl ?_
    refine AW.ev0i (Mc := mX10_here) (n := 13) dX10_takeNumber_10 lk_X10_83 k_mX10_here s_136 rfl rfl (c_X10_here ho (by omega)) (Nat.le_of_ble_eq_true rfl) (by decide) (Nat.zero_le _) (Nat.zero_le _) rfl ?_
    refine AW.ist1 (n := 14) dX10_takeNumber_13 (Nat.le_of_ble_eq_true rfl) rfl rfl ?_
    refine AW.aload_n (n := 15) dX10_takeNumber_14 rfl rfl ?_
    refine AW.aload_n (n := 16) dX10_takeNumber_15 rfl rfl ?_
    refine AW.gi (n := 19) dX10_takeNumber_16 fl_X10_77 s_136 rfl rfl ?_
    refine AW.pi (n := 22) dX10_takeNumber_19 fp_X10_87 s_136 rfl ⟨rfl, rfl⟩ rfl ?_
    change AW _ _ _ _ _ _ _ _ _ _ (wS (mNumA μ) e) _
    refine AW.aload_n (n := 23) dX10_takeNumber_22 rfl rfl ?_
    refine AW.iload_n (n := 24) dX10_takeNumber_23 rfl rfl ?_
    refine AW.i2l (n := 25) dX10_takeNumber_24 rfl ?_
    refine AW.ldc2 (n := 28) dX10_takeNumber_25 kl_X10_90 rfl ?_
    refine AW.ldc2 (n := 31) dX10_takeNumber_28 kl_X10_92 rfl ?_
    refine AW.es3i (Mc := mX10_in) (n := 34) dX10_takeNumber_31 lk_X10_68 k_mX10_in (c_X10_in _ 48 57 rfl (by decide) (by decide)) (Nat.le_of_ble_eq_true rfl) (by decide) (Nat.zero_le _) (Nat.zero_le _) rfl ?_
    refine AW.iconst (n := 35) (v := 1) dX10_takeNumber_34 rfl rfl ?_
    refine AW.aload_n (n := 36) dX10_takeNumber_35 rfl rfl ?_
    refine AW.gi (n := 39) dX10_takeNumber_36 fl_X10_77 s_136 rfl rfl ?_
    change AW _ _ _ _ _ _ _ _ _ (_ :: _ :: .int (b2i (sIsFig (mHere μ).1)) :: _) _ _
    refine AW.ev3i (Mc := mX10_want) (n := 42) dX10_takeNumber_39 lk_X10_94 k_mX10_want s_136 rfl rfl (c_X10_want) (Nat.le_of_ble_eq_true rfl) (by decide) (Nat.zero_le _) (Nat.zero_le _) rfl ?_
    refine AW.bif_ne (n := 45) (t := 47) dX10_takeNumber_42 rfl rfl (fun h42 => ?_) (fun h42 => ?_)
    · refine AW.iconst (n := 48) (v := 0) dX10_takeNumber_47 rfl rfl ?_
      refine AW.ist2 (n := 49) dX10_takeNumber_48 (Nat.le_of_ble_eq_true rfl) rfl rfl ?_
      have hw := (ho.numA hB (by omega)).want (g := sIsFig (mHere μ).1) (k := 1) (w := mNumA μ 136 15)
      rw [mNum, if_pos h4, mNumB, if_pos h42]
      generalize mWant (mNumA μ) (sIsFig (mHere μ).1) 1 (mNumA μ 136 15) = ν at hw ⊢
      obtain ⟨l, t, g1, g2, g3, g4⟩ := hw
      obtain ⟨e1, e2⟩ := uOk.r g1 g2 g3 g4 (by omega)
      have h := l_X10_num_49 (e := e) (c := (mHere μ).1) g1 g2 (l - t + 1) t 0 (by omega) (by omega)
      rw [mu_self' g3] at h
      rw [e1, e2]
      exact h
    · refine AW.iconst (n := 46) (v := 0) dX10_takeNumber_45 rfl rfl ?_
      refine AW.iret dX10_takeNumber_46 rfl rfl (Nat.zero_le _) (Nat.zero_le _) ?_
      rw [mNum, if_pos h4, mNumB, if_neg (by rw [h42]; decide)]
      exact ⟨rfl, rfl⟩
  · refine AW.iconst (n := 8) (v := 0) dX10_takeNumber_7 rfl rfl ?_
    refine AW.iret dX10_takeNumber_8 rfl rfl (Nat.zero_le _) (Nat.zero_le _) ?_
    exact ⟨by rw [mNum, if_neg h4], by rw [mNum, if_neg h4]⟩
set_option maxHeartbeats 4000000 in
set_option maxRecDepth 100000 in
theorem c_X10_takeIn {μ : Me} {e : Nat × (Nat → aC)} {B : Nat} {lo hi : Int32} (ho : uOk B μ) (hB : 240 ≤ B) (hB9 : B ≤ 80000) : AC 2 0 0 mX10_takeIn [.ref 136, .int lo, .int hi] (wS μ e) (a_eq (some (.int ((mIn μ lo hi).1))) (wS ((mIn μ lo hi).2) e)) := by
  refine AC.of (L := [some (.ref 136), some (.int lo), some (.int hi), none, none]) (j := 2) (by decide) rfl (Nat.le_of_ble_eq_true rfl) ?_
  refine AW.aload_n (n := 1) dX10_takeIn_0 rfl rfl ?_
  refine AW.ev0i (Mc := mX10_takeNumber) (n := 4) dX10_takeIn_1 lk_X10_99 k_mX10_takeNumber s_136 rfl rfl (c_X10_takeNumber ho hB hB9) (Nat.le_of_ble_eq_true rfl) (by decide) (Nat.zero_le _) (Nat.zero_le _) rfl ?_
  refine AW.ist3 (n := 5) dX10_takeIn_4 (Nat.le_of_ble_eq_true rfl) rfl rfl ?_
  refine AW.aload_n (n := 6) dX10_takeIn_5 rfl rfl ?_
  refine AW.aload_n (n := 7) dX10_takeIn_6 rfl rfl ?_
  refine AW.gi (n := 10) dX10_takeIn_7 fl_X10_80 s_136 rfl rfl ?_
  refine AW.if_gt (n := 13) (t := 25) dX10_takeIn_10 rfl rfl (fun h10 => ?_) (fun h10 => ?_)
  · refine AW.iconst (n := 26) (v := 1) dX10_takeIn_25 rfl rfl ?_
    refine AW.goto (t := 30) dX10_takeIn_26 rfl ?_
    refine AW.iconst (n := 31) (v := 2) dX10_takeIn_30 rfl rfl ?_
    refine AW.aload_n (n := 32) dX10_takeIn_31 rfl rfl ?_
    refine AW.gi (n := 35) dX10_takeIn_32 fl_X10_87 s_136 rfl rfl ?_
    refine AW.ev3i (Mc := mX10_want) (n := 38) dX10_takeIn_35 lk_X10_94 k_mX10_want s_136 rfl rfl (c_X10_want (g := true)) (Nat.le_of_ble_eq_true rfl) (by decide) (Nat.zero_le _) (Nat.zero_le _) rfl ?_
    refine AW.ist4 (n := 40) dX10_takeIn_38 (Nat.le_of_ble_eq_true rfl) rfl rfl ?_
    refine AW.aload_n (n := 41) dX10_takeIn_40 rfl rfl ?_
    refine AW.gi (n := 44) dX10_takeIn_41 fl_X10_80 s_136 rfl rfl ?_
    refine AW.if_le (n := 47) (t := 51) dX10_takeIn_44 rfl rfl (fun h44 => ?_) (fun h44 => ?_)
    · refine AW.iload_n (n := 52) dX10_takeIn_51 rfl rfl ?_
      refine AW.iret dX10_takeIn_52 rfl rfl (Nat.zero_le _) (Nat.zero_le _) ?_
      have eM : mInM (mNum μ).2 (mNum μ).1 lo hi = mWant (mNum μ).2 true 2 ((mNum μ).2 136 16) := by unfold mInM; rw [if_neg (fun q => Int32.not_lt.mpr q h10)]
      unfold mIn
      rw [eM]
      exact ⟨by rw [if_pos h44], rfl⟩
    · refine AW.iconst (n := 48) (v := 0) dX10_takeIn_47 rfl rfl ?_
      refine AW.goto (t := 52) dX10_takeIn_48 rfl ?_
      refine AW.iret dX10_takeIn_52 rfl rfl (Nat.zero_le _) (Nat.zero_le _) ?_
      have eM : mInM (mNum μ).2 (mNum μ).1 lo hi = mWant (mNum μ).2 true 2 ((mNum μ).2 136 16) := by unfold mInM; rw [if_neg (fun q => Int32.not_lt.mpr q h10)]
      unfold mIn
      rw [eM]
      exact ⟨by rw [if_neg h44], rfl⟩
  · refine AW.iload_n (n := 14) dX10_takeIn_13 rfl rfl ?_
    refine AW.i2l (n := 15) dX10_takeIn_14 rfl ?_
    refine AW.iload_n (n := 16) dX10_takeIn_15 rfl rfl ?_
    refine AW.i2l (n := 17) dX10_takeIn_16 rfl ?_
    refine AW.iload_n (n := 18) dX10_takeIn_17 rfl rfl ?_
    refine AW.i2l (n := 19) dX10_takeIn_18 rfl ?_
    refine AW.es3i (Mc := mX10_in) (n := 22) dX10_takeIn_19 lk_X10_68 k_mX10_in (c_X10_in _ _ _ rfl rfl rfl) (Nat.le_of_ble_eq_true rfl) (by decide) (Nat.zero_le _) (Nat.zero_le _) rfl ?_
    refine AW.bif_eq (n := 25) (t := 29) dX10_takeIn_22 rfl rfl (fun h22 => ?_) (fun h22 => ?_)
    · refine AW.iconst (n := 30) (v := 0) dX10_takeIn_29 rfl rfl ?_
      refine AW.iconst (n := 31) (v := 2) dX10_takeIn_30 rfl rfl ?_
      refine AW.aload_n (n := 32) dX10_takeIn_31 rfl rfl ?_
      refine AW.gi (n := 35) dX10_takeIn_32 fl_X10_87 s_136 rfl rfl ?_
      refine AW.ev3i (Mc := mX10_want) (n := 38) dX10_takeIn_35 lk_X10_94 k_mX10_want s_136 rfl rfl (c_X10_want (g := false)) (Nat.le_of_ble_eq_true rfl) (by decide) (Nat.zero_le _) (Nat.zero_le _) rfl ?_
      refine AW.ist4 (n := 40) dX10_takeIn_38 (Nat.le_of_ble_eq_true rfl) rfl rfl ?_
      refine AW.aload_n (n := 41) dX10_takeIn_40 rfl rfl ?_
      refine AW.gi (n := 44) dX10_takeIn_41 fl_X10_80 s_136 rfl rfl ?_
      refine AW.if_le (n := 47) (t := 51) dX10_takeIn_44 rfl rfl (fun h44 => ?_) (fun h44 => ?_)
      · refine AW.iload_n (n := 52) dX10_takeIn_51 rfl rfl ?_
        refine AW.iret dX10_takeIn_52 rfl rfl (Nat.zero_le _) (Nat.zero_le _) ?_
        have eM : mInM (mNum μ).2 (mNum μ).1 lo hi = mWant (mNum μ).2 false 2 ((mNum μ).2 136 16) := by unfold mInM; rw [if_pos (Int32.not_lt.mp h10), h22]
        unfold mIn
        rw [eM]
        exact ⟨by rw [if_pos h44], rfl⟩
      · refine AW.iconst (n := 48) (v := 0) dX10_takeIn_47 rfl rfl ?_
        refine AW.goto (t := 52) dX10_takeIn_48 rfl ?_
        refine AW.iret dX10_takeIn_52 rfl rfl (Nat.zero_le _) (Nat.zero_le _) ?_
        have eM : mInM (mNum μ).2 (mNum μ).1 lo hi = mWant (mNum μ).2 false 2 ((mNum μ).2 136 16) := by unfold mInM; rw [if_pos (Int32.not_lt.mp h10), h22]
        unfold mIn
        rw [eM]
        exact ⟨by rw [if_neg h44], rfl⟩
    · refine AW.iconst (n := 26) (v := 1) dX10_takeIn_25 rfl rfl ?_
      refine AW.goto (t := 30) dX10_takeIn_26 rfl ?_
      refine AW.iconst (n := 31) (v := 2) dX10_takeIn_30 rfl rfl ?_
      refine AW.aload_n (n := 32) dX10_takeIn_31 rfl rfl ?_
      refine AW.gi (n := 35) dX10_takeIn_32 fl_X10_87 s_136 rfl rfl ?_
      refine AW.ev3i (Mc := mX10_want) (n := 38) dX10_takeIn_35 lk_X10_94 k_mX10_want s_136 rfl rfl (c_X10_want (g := true)) (Nat.le_of_ble_eq_true rfl) (by decide) (Nat.zero_le _) (Nat.zero_le _) rfl ?_
      refine AW.ist4 (n := 40) dX10_takeIn_38 (Nat.le_of_ble_eq_true rfl) rfl rfl ?_
      refine AW.aload_n (n := 41) dX10_takeIn_40 rfl rfl ?_
      refine AW.gi (n := 44) dX10_takeIn_41 fl_X10_80 s_136 rfl rfl ?_
      refine AW.if_le (n := 47) (t := 51) dX10_takeIn_44 rfl rfl (fun h44 => ?_) (fun h44 => ?_)
      · refine AW.iload_n (n := 52) dX10_takeIn_51 rfl rfl ?_
        refine AW.iret dX10_takeIn_52 rfl rfl (Nat.zero_le _) (Nat.zero_le _) ?_
        have eM : mInM (mNum μ).2 (mNum μ).1 lo hi = mWant (mNum μ).2 true 2 ((mNum μ).2 136 16) := by unfold mInM; rw [if_pos (Int32.not_lt.mp h10), h22]
        unfold mIn
        rw [eM]
        exact ⟨by rw [if_pos h44], rfl⟩
      · refine AW.iconst (n := 48) (v := 0) dX10_takeIn_47 rfl rfl ?_
        refine AW.goto (t := 52) dX10_takeIn_48 rfl ?_
        refine AW.iret dX10_takeIn_52 rfl rfl (Nat.zero_le _) (Nat.zero_le _) ?_
        have eM : mInM (mNum μ).2 (mNum μ).1 lo hi = mWant (mNum μ).2 true 2 ((mNum μ).2 136 16) := by unfold mInM; rw [if_pos (Int32.not_lt.mp h10), h22]
        unfold mIn
        rw [eM]
        exact ⟨by rw [if_neg h44], rfl⟩
set_option maxHeartbeats 4000000 in
set_option maxRecDepth 100000 in
theorem l_X10_rule {μ : Me} {e : Nat × (Nat → aC)} {B : Nat} {w : Int32} (ho : uOk B μ) (hB : 240 ≤ B) (hB9 : B ≤ 80000) : AW none 3 0 0 mX10_takeRule 0 0 23 [some (.ref 136), some (.int w), none] [] (wS μ e) (a_eq none (wS (mRuleB μ) e)) := by
  refine AW.aload_n (n := 24) dX10_takeRule_23 rfl rfl ?_
  refine AW.iconst (n := 25) (v := 1) dX10_takeRule_24 rfl rfl ?_
  refine AW.bipush (n := 27) (v := 90) dX10_takeRule_25 rfl rfl ?_
  refine AW.ev2i (Mc := mX10_takeIn) (n := 30) dX10_takeRule_27 lk_X10_102 k_mX10_takeIn s_136 rfl rfl (c_X10_takeIn ho hB hB9) (Nat.le_of_ble_eq_true rfl) (by decide) (Nat.zero_le _) (Nat.zero_le _) rfl ?_
  refine AW.ist2 (n := 31) dX10_takeRule_30 (Nat.le_of_ble_eq_true rfl) rfl rfl ?_
  refine AW.aload_n (n := 32) dX10_takeRule_31 rfl rfl ?_
  refine AW.gr (n := 35) dX10_takeRule_32 fl_X10_17 s_136 rfl rfl ?_
  refine AW.iconst (n := 36) (v := 4) dX10_takeRule_35 rfl rfl ?_
  refine AW.aload_n (n := 37) dX10_takeRule_36 rfl rfl ?_
  refine AW.iconst (n := 38) (v := 0) dX10_takeRule_37 rfl rfl ?_
  refine AW.bipush (n := 40) (v := 99) dX10_takeRule_38 rfl rfl ?_
  refine AW.ev2i (Mc := mX10_takeIn) (n := 43) dX10_takeRule_40 lk_X10_102 k_mX10_takeIn s_136 rfl rfl (c_X10_takeIn (ho.inn (by omega) (by omega)) hB hB9) (Nat.le_of_ble_eq_true rfl) (by decide) (Nat.zero_le _) (Nat.zero_le _) rfl ?_
  refine AW.is (n := 44) 4 dX10_takeRule_43 s_139 rfl (by decide) (by decide) rfl ?_
  refine AW.aload_n (n := 45) dX10_takeRule_44 rfl rfl ?_
  refine AW.gr (n := 48) dX10_takeRule_45 fl_X10_17 s_136 rfl rfl ?_
  refine AW.iconst (n := 49) (v := 5) dX10_takeRule_48 rfl rfl ?_
  refine AW.aload_n (n := 50) dX10_takeRule_49 rfl rfl ?_
  refine AW.iconst (n := 51) (v := 1) dX10_takeRule_50 rfl rfl ?_
  refine AW.bipush (n := 53) (v := 30) dX10_takeRule_51 rfl rfl ?_
  refine AW.ev2i (Mc := mX10_takeIn) (n := 56) dX10_takeRule_53 lk_X10_102 k_mX10_takeIn s_136 rfl rfl (c_X10_takeIn ((ho.inn (by omega) (by omega)).inTo (a := 139) (j := 4) (by omega) (by omega) (by decide)) hB hB9) (Nat.le_of_ble_eq_true rfl) (by decide) (Nat.zero_le _) (Nat.zero_le _) rfl ?_
  refine AW.is (n := 57) 5 dX10_takeRule_56 s_139 rfl (by decide) (by decide) rfl ?_
  refine AW.aload_n (n := 58) dX10_takeRule_57 rfl rfl ?_
  refine AW.gr (n := 61) dX10_takeRule_58 fl_X10_17 s_136 rfl rfl ?_
  refine AW.iconst (n := 62) (v := 3) dX10_takeRule_61 rfl rfl ?_
  refine AW.iload_n (n := 63) dX10_takeRule_62 rfl rfl ?_
  refine AW.is (n := 64) 3 dX10_takeRule_63 s_139 rfl (by decide) (by decide) rfl ?_
  refine AW.ret dX10_takeRule_64 rfl (Nat.zero_le _) (Nat.zero_le _) ?_
  exact ⟨rfl, rfl⟩
set_option maxHeartbeats 4000000 in
set_option maxRecDepth 100000 in
theorem c_X10_takeRule {μ : Me} {e : Nat × (Nat → aC)} {B : Nat} {w : Int32} (ho : uOk B μ) (hB : 240 ≤ B) (hB9 : B ≤ 80000) : AC 3 0 0 mX10_takeRule [.ref 136, .int w] (wS μ e) (a_eq none (wS (mRule μ w) e)) := by
  refine AC.of (L := [some (.ref 136), some (.int w), none]) (j := 1) (by decide) rfl (Nat.le_of_ble_eq_true rfl) ?_
  refine AW.aload_n (n := 1) dX10_takeRule_0 rfl rfl ?_
  refine AW.aload_n (n := 2) dX10_takeRule_1 rfl rfl ?_
  refine AW.gr (n := 5) dX10_takeRule_2 fl_X10_17 s_136 rfl rfl ?_
  refine AW.iconst (n := 6) (v := 3) dX10_takeRule_5 rfl rfl ?_
  refine AW.ia (n := 7) 3 dX10_takeRule_6 s_139 rfl (by decide) (by decide) rfl ?_
  refine AW.if_ne (n := 10) (t := 14) dX10_takeRule_7 rfl rfl (fun h7 => ?_) (fun h7 => ?_)
  · refine AW.iconst (n := 15) (v := 0) dX10_takeRule_14 rfl rfl ?_
    refine AW.iconst (n := 16) (v := 3) dX10_takeRule_15 rfl rfl ?_
    refine AW.iload_n (n := 17) dX10_takeRule_16 rfl rfl ?_
    refine AW.ev3i (Mc := mX10_want) (n := 20) dX10_takeRule_17 lk_X10_94 k_mX10_want s_136 rfl rfl (c_X10_want (g := false)) (Nat.le_of_ble_eq_true rfl) (by decide) (Nat.zero_le _) (Nat.zero_le _) rfl ?_
    have eg : decide (μ 139 3 = 0) = false := decide_eq_false h7
    unfold mRule
    rw [eg]
    refine AW.bif_eq (n := 23) (t := 64) dX10_takeRule_20 rfl rfl (fun h20 => ?_) (fun h20 => ?_)
    · refine AW.ret dX10_takeRule_64 rfl (Nat.zero_le _) (Nat.zero_le _) ?_
      rw [if_neg (by rw [h20]; decide)]
      exact ⟨rfl, rfl⟩
    · rw [if_pos h20]
      exact l_X10_rule ho.want hB hB9
  · refine AW.iconst (n := 11) (v := 1) dX10_takeRule_10 rfl rfl ?_
    refine AW.goto (t := 15) dX10_takeRule_11 rfl ?_
    refine AW.iconst (n := 16) (v := 3) dX10_takeRule_15 rfl rfl ?_
    refine AW.iload_n (n := 17) dX10_takeRule_16 rfl rfl ?_
    refine AW.ev3i (Mc := mX10_want) (n := 20) dX10_takeRule_17 lk_X10_94 k_mX10_want s_136 rfl rfl (c_X10_want (g := true)) (Nat.le_of_ble_eq_true rfl) (by decide) (Nat.zero_le _) (Nat.zero_le _) rfl ?_
    have eg : decide (μ 139 3 = 0) = true := decide_eq_true h7
    unfold mRule
    rw [eg]
    refine AW.bif_eq (n := 23) (t := 64) dX10_takeRule_20 rfl rfl (fun h20 => ?_) (fun h20 => ?_)
    · refine AW.ret dX10_takeRule_64 rfl (Nat.zero_le _) (Nat.zero_le _) ?_
      rw [if_neg (by rw [h20]; decide)]
      exact ⟨rfl, rfl⟩
    · rw [if_pos h20]
      exact l_X10_rule ho.want hB hB9
set_option maxHeartbeats 4000000 in
set_option maxRecDepth 100000 in
theorem l_X10_stop {μ : Me} {e : Nat × (Nat → aC)} {B n : Nat} {w : Int32} (ho : uOk B μ) (hB : 240 ≤ B) (hB9 : B ≤ 80000) (hn : μ 136 9 = nI n) (hn7 : n < 7) : AW none 3 0 0 mX10_takeStop 0 0 23 [some (.ref 136), some (.int w), none] [] (wS μ e) (a_eq none (wS (mStopB μ n) e)) := by
  refine AW.bipush (n := 25) (v := 7) dX10_takeStop_23 rfl rfl ?_
  refine AW.aload_n (n := 26) dX10_takeStop_25 rfl rfl ?_
  refine AW.gi (n := 29) dX10_takeStop_26 fl_X10_106 s_136 rfl rfl ?_
  refine AW.iadd (n := 30) dX10_takeStop_29 rfl ?_
  rw [hn, show (7 : Int32) + nI n = nI (7 + n) from nI_add 7 n]
  refine AW.ist2 (n := 31) dX10_takeStop_30 (Nat.le_of_ble_eq_true rfl) rfl rfl ?_
  refine AW.aload_n (n := 32) dX10_takeStop_31 rfl rfl ?_
  refine AW.gr (n := 35) dX10_takeStop_32 fl_X10_20 s_136 rfl rfl ?_
  refine AW.iload_n (n := 36) dX10_takeStop_35 rfl rfl ?_
  refine AW.aload_n (n := 37) dX10_takeStop_36 rfl rfl ?_
  refine AW.iconst (n := 38) (v := 0) dX10_takeStop_37 rfl rfl ?_
  refine AW.bipush (n := 40) (v := 99) dX10_takeStop_38 rfl rfl ?_
  refine AW.ev2i (Mc := mX10_takeIn) (n := 43) dX10_takeStop_40 lk_X10_102 k_mX10_takeIn s_136 rfl rfl (c_X10_takeIn ho hB hB9) (Nat.le_of_ble_eq_true rfl) (by decide) (Nat.zero_le _) (Nat.zero_le _) rfl ?_
  refine AW.is (n := 44) (7 + n) dX10_takeStop_43 s_140 rfl (by omega) (by decide) rfl ?_
  refine AW.aload_n (n := 45) dX10_takeStop_44 rfl rfl ?_
  refine AW.gr (n := 48) dX10_takeStop_45 fl_X10_23 s_136 rfl rfl ?_
  refine AW.iload_n (n := 49) dX10_takeStop_48 rfl rfl ?_
  refine AW.aload_n (n := 50) dX10_takeStop_49 rfl rfl ?_
  refine AW.iconst (n := 51) (v := 0) dX10_takeStop_50 rfl rfl ?_
  refine AW.sipush (n := 54) (v := 4095) dX10_takeStop_51 rfl rfl ?_
  refine AW.ev2i (Mc := mX10_takeIn) (n := 57) dX10_takeStop_54 lk_X10_102 k_mX10_takeIn s_136 rfl rfl (c_X10_takeIn (ho.inTo (a := 140) (j := 7 + n) (by omega) (by omega) (by decide)) hB hB9) (Nat.le_of_ble_eq_true rfl) (by decide) (Nat.zero_le _) (Nat.zero_le _) rfl ?_
  refine AW.is (n := 58) (7 + n) dX10_takeStop_57 s_141 rfl (by omega) (by decide) rfl ?_
  refine AW.aload_n (n := 59) dX10_takeStop_58 rfl rfl ?_
  refine AW.gr (n := 62) dX10_takeStop_59 fl_X10_26 s_136 rfl rfl ?_
  refine AW.iload_n (n := 63) dX10_takeStop_62 rfl rfl ?_
  refine AW.aload_n (n := 64) dX10_takeStop_63 rfl rfl ?_
  refine AW.iconst (n := 65) (v := 0) dX10_takeStop_64 rfl rfl ?_
  refine AW.bipush (n := 67) (v := 9) dX10_takeStop_65 rfl rfl ?_
  refine AW.ev2i (Mc := mX10_takeIn) (n := 70) dX10_takeStop_67 lk_X10_102 k_mX10_takeIn s_136 rfl rfl (c_X10_takeIn ((ho.inTo (a := 140) (j := 7 + n) (by omega) (by omega) (by decide)).inTo (a := 141) (j := 7 + n) (by omega) (by omega) (by decide)) hB hB9) (Nat.le_of_ble_eq_true rfl) (by decide) (Nat.zero_le _) (Nat.zero_le _) rfl ?_
  refine AW.is (n := 71) (7 + n) dX10_takeStop_70 s_142 rfl (by omega) (by decide) rfl ?_
  refine AW.aload_n (n := 72) dX10_takeStop_71 rfl rfl ?_
  refine AW.gr (n := 75) dX10_takeStop_72 fl_X10_29 s_136 rfl rfl ?_
  refine AW.iload_n (n := 76) dX10_takeStop_75 rfl rfl ?_
  refine AW.iconst (n := 77) (v := -1) dX10_takeStop_76 rfl rfl ?_
  refine AW.is (n := 78) (7 + n) dX10_takeStop_77 s_143 rfl (by omega) (by decide) rfl ?_
  refine AW.aload_n (n := 79) dX10_takeStop_78 rfl rfl ?_
  refine AW.gr (n := 82) dX10_takeStop_79 fl_X10_32 s_136 rfl rfl ?_
  refine AW.iload_n (n := 83) dX10_takeStop_82 rfl rfl ?_
  refine AW.iconst (n := 84) (v := 0) dX10_takeStop_83 rfl rfl ?_
  refine AW.is (n := 85) (7 + n) dX10_takeStop_84 s_144 rfl (by omega) (by decide) rfl ?_
  refine AW.aload_n (n := 86) dX10_takeStop_85 rfl rfl ?_
  refine AW.dup (n := 87) dX10_takeStop_86 rfl rfl ?_
  refine AW.gi (n := 90) dX10_takeStop_87 fl_X10_106 s_136 rfl rfl ?_
  refine AW.iconst (n := 91) (v := 1) dX10_takeStop_90 rfl rfl ?_
  refine AW.iadd (n := 92) dX10_takeStop_91 rfl ?_
  refine AW.pi (n := 95) dX10_takeStop_92 fp_X10_106 s_136 rfl ⟨rfl, rfl⟩ rfl ?_
  refine AW.ret dX10_takeStop_95 rfl (Nat.zero_le _) (Nat.zero_le _) ?_
  refine ⟨rfl, ?_⟩
  have e9 : (mInTo (mInTo (mInTo μ 140 (7 + n) 0 99) 141 (7 + n) 0 4095) 142 (7 + n) 0 9) 136 9 = nI n := by
    rw [mInTo_j (by decide) (by decide) (by decide) (by decide) (by decide), mInTo_j (by decide) (by decide) (by decide) (by decide) (by decide), mInTo_j (by decide) (by decide) (by decide) (by decide) (by decide)]; exact hn
  show wS (mu (mu (mu (mInTo (mInTo (mInTo μ 140 (7 + n) 0 99) 141 (7 + n) 0 4095) 142 (7 + n) 0 9) 143 (7 + n) (-1)) 144 (7 + n) 0) 136 9 ((mu (mu (mInTo (mInTo (mInTo μ 140 (7 + n) 0 99) 141 (7 + n) 0 4095) 142 (7 + n) 0 9) 143 (7 + n) (-1)) 144 (7 + n) 0) 136 9 + 1)) e = _
  rw [mu_ne (by decide), mu_ne (by decide), e9, nI_1]
  rfl
set_option maxHeartbeats 4000000 in
set_option maxRecDepth 100000 in
theorem c_X10_takeStop {μ : Me} {e : Nat × (Nat → aC)} {B : Nat} {w : Int32} (ho : uOk B μ) (hB : 240 ≤ B) (hB9 : B ≤ 80000) (hn : μ 136 9 = nI (mnOf μ)) (hn7 : mnOf μ ≤ 7) : AC 3 0 0 mX10_takeStop [.ref 136, .int w] (wS μ e) (a_eq none (wS (mStop μ w) e)) := by
  refine AC.of (L := [some (.ref 136), some (.int w), none]) (j := 1) (by decide) rfl (Nat.le_of_ble_eq_true rfl) ?_
  refine AW.aload_n (n := 1) dX10_takeStop_0 rfl rfl ?_
  refine AW.aload_n (n := 2) dX10_takeStop_1 rfl rfl ?_
  refine AW.gi (n := 5) dX10_takeStop_2 fl_X10_106 s_136 rfl rfl ?_
  refine AW.bipush (n := 7) (v := 7) dX10_takeStop_5 rfl rfl ?_
  refine AW.icmp_ge (n := 10) (t := 14) dX10_takeStop_7 rfl rfl (fun h7 => ?_) (fun h7 => ?_)
  · refine AW.iconst (n := 15) (v := 0) dX10_takeStop_14 rfl rfl ?_
    refine AW.iconst (n := 16) (v := 3) dX10_takeStop_15 rfl rfl ?_
    refine AW.iload_n (n := 17) dX10_takeStop_16 rfl rfl ?_
    refine AW.ev3i (Mc := mX10_want) (n := 20) dX10_takeStop_17 lk_X10_94 k_mX10_want s_136 rfl rfl (c_X10_want (g := false)) (Nat.le_of_ble_eq_true rfl) (by decide) (Nat.zero_le _) (Nat.zero_le _) rfl ?_
    have eg : (!decide (7 ≤ μ 136 9)) = false := by rw [decide_eq_true h7]; rfl
    unfold mStop
    rw [eg]
    refine AW.bif_eq (n := 23) (t := 95) dX10_takeStop_20 rfl rfl (fun h20 => ?_) (fun h20 => ?_)
    · refine AW.ret dX10_takeStop_95 rfl (Nat.zero_le _) (Nat.zero_le _) ?_
      rw [if_neg (by rw [h20]; decide)]
      exact ⟨rfl, rfl⟩
    · exact Bool.noConfusion (mWant_ok (by decide) h20).1
  · refine AW.iconst (n := 11) (v := 1) dX10_takeStop_10 rfl rfl ?_
    refine AW.goto (t := 15) dX10_takeStop_11 rfl ?_
    refine AW.iconst (n := 16) (v := 3) dX10_takeStop_15 rfl rfl ?_
    refine AW.iload_n (n := 17) dX10_takeStop_16 rfl rfl ?_
    refine AW.ev3i (Mc := mX10_want) (n := 20) dX10_takeStop_17 lk_X10_94 k_mX10_want s_136 rfl rfl (c_X10_want (g := true)) (Nat.le_of_ble_eq_true rfl) (by decide) (Nat.zero_le _) (Nat.zero_le _) rfl ?_
    have eg : (!decide (7 ≤ μ 136 9)) = true := by rw [decide_eq_false h7]; rfl
    unfold mStop
    rw [eg]
    refine AW.bif_eq (n := 23) (t := 95) dX10_takeStop_20 rfl rfl (fun h20 => ?_) (fun h20 => ?_)
    · refine AW.ret dX10_takeStop_95 rfl (Nat.zero_le _) (Nat.zero_le _) ?_
      rw [if_neg (by rw [h20]; decide)]
      exact ⟨rfl, rfl⟩
    · rw [if_pos h20]
      exact l_X10_stop ho hB hB9 hn (nle_lit (b := 7) hn (by omega) (by omega) h7)
