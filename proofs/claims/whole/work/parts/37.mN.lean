def qPretends (ν : Me) (way h w : Int32) : Int32 × Me :=
  if sIsWay (ν 136 8) way then (if sWithin h 0 3 then (if sWithin w 0 1 then
    (if w = 0 then (mTry ν way 0).1 - (mTry (mTry ν way 0).2 way h).1 else (mTry ν way 0).2 136 20 - (mTry (mTry ν way 0).2 way h).2 136 20 + 100, (mTry (mTry ν way 0).2 way h).2) else (-1000000002, ν)) else (-1000000002, ν)) else (-1000000001, ν)
def qBears (ν : Me) (s : Int32) : Int32 := if sHas (ν 136 8) s then (if ν 143 s.toNatClampNeg = -1 then 0 else ν 144 s.toNatClampNeg - ν 137 (7 + s.toNatClampNeg)) else -1000000001
def qSee (ν : Me) (z : Nat) (s : Int32) (b : Bool) : Int32 × Me := if sHas (ν 136 8) s then (if z = 6 then (-1000000004, ν) else (nI (z + 1), mu (mu (mu ν 149 z s) 150 z (b2i b)) 136 26 (nI (z + 1)))) else (-1000000001, ν)
def qWrite (ν : Me) (z : Nat) (s is : Int32) : Int32 × Me := if sHas (ν 136 8) s then (if sWithin is 1 4 then (if z = 20 then (-1000000004, ν) else (nI (z + 1), mu (mu (mu ν 152 z s) 153 z is) 136 30 (nI (z + 1)))) else (-1000000002, ν)) else (-1000000001, ν)
def qJudge (ν : Me) (z : Nat) : Int32 := sWrong (ν 137) (ν 152) (ν 153) z 0
def qTear (ν : Me) : Int32 × Me := (ν 136 26 + ν 136 30, mu (mu ν 136 26 0) 136 30 0)
def qSeed (ν : Me) (v : Int32) : Int32 × Me := if 0 ≤ v then (ν 137 17, mu ν 137 17 v) else (-1000000002, ν)
def qKeep (ν : Me) (i : Int32) : Int32 × Me := if sWithin i 0 1 then (1, mu (mu (mCopy ν 0 (36 + 18 * i.toNatClampNeg)) 138 i.toNatClampNeg 1) 136 22 0) else (-1000000001, ν)
def qGoBack (ν : Me) (i : Int32) : Int32 × Me := if sWithin i 0 1 then (if ν 138 i.toNatClampNeg = 0 then (-1000000003, ν) else (1, mu (mCopy ν (36 + 18 * i.toNatClampNeg) 0) 136 22 0)) else (-1000000001, ν)
theorem p36 (i : Nat) : (36 : Int32) + 18 * nI i = nI (36 + 18 * i) := by rw [← nI_add, ← pk_mul]; rfl
set_option maxHeartbeats 4000000 in
set_option maxRecDepth 100000 in
theorem c_X10_pretends {μ : Me} {e : Nat × (Nat → aC)} {n d : Nat} {way h w : Int32} (hG : mG μ n d) : AC 5 0 0 mX10_pretends [.ref 136, .int way, .int h, .int w] (wS μ e) (a_eq (some (.int ((qPretends μ way h w).1))) (wS ((qPretends μ way h w).2) e)) := by
  refine AC.of (L := [some (.ref 136), some (.int way), some (.int h), some (.int w), none, none, none]) (j := 3) (by decide) rfl (Nat.le_of_ble_eq_true rfl) ?_
  refine AW.aload_n (n := 1) dX10_pretends_0 rfl rfl ?_
  refine AW.iload_n (n := 2) dX10_pretends_1 rfl rfl ?_
  refine AW.ev1i (Mc := mX10_isWay) (n := 5) dX10_pretends_2 lk_X10_200 k_mX10_isWay s_136 rfl rfl (c_X10_isWay hG.1 hG.2.1) (Nat.le_of_ble_eq_true rfl) (by decide) (Nat.zero_le _) (Nat.zero_le _) rfl ?_
  refine AW.bif_ne (n := 8) (t := 11) dX10_pretends_5 rfl rfl (fun h5 => ?_) (fun h5 => ?_)
  · refine AW.iload_n (n := 12) dX10_pretends_11 rfl rfl ?_
    refine AW.es1i (Mc := mX10_isHaste) (n := 15) dX10_pretends_12 lk_X10_203 k_mX10_isHaste (c_X10_isHaste) (Nat.le_of_ble_eq_true rfl) (by decide) (Nat.zero_le _) (Nat.zero_le _) rfl ?_
    refine AW.bif_eq (n := 18) (t := 28) dX10_pretends_15 rfl rfl (fun h15 => ?_) (fun h15 => ?_)
    · refine AW.ldc (n := 30) dX10_pretends_28 kc_X10_72 rfl ?_
      refine AW.iret dX10_pretends_30 rfl rfl (Nat.zero_le _) (Nat.zero_le _) ?_
      exact ⟨by simp [qPretends, h5, h15], by simp [qPretends, h5, h15]⟩
    · refine AW.iload_n (n := 19) dX10_pretends_18 rfl rfl ?_
      refine AW.i2l (n := 20) dX10_pretends_19 rfl ?_
      refine AW.lconst (n := 21) (v := 0) dX10_pretends_20 rfl rfl ?_
      refine AW.lconst (n := 22) (v := 1) dX10_pretends_21 rfl rfl ?_
      refine AW.es3i (Mc := mX10_in) (n := 25) dX10_pretends_22 lk_X10_68 k_mX10_in (c_X10_in w 0 1 rfl (by decide) (by decide)) (Nat.le_of_ble_eq_true rfl) (by decide) (Nat.zero_le _) (Nat.zero_le _) rfl ?_
      refine AW.bif_ne (n := 28) (t := 31) dX10_pretends_25 rfl rfl (fun h25 => ?_) (fun h25 => ?_)
      · have hw := mWok.of hG.1 hG.2.1 h5
        refine AW.aload_n (n := 32) dX10_pretends_31 rfl rfl ?_
        refine AW.iload_n (n := 33) dX10_pretends_32 rfl rfl ?_
        refine AW.iconst (n := 34) (v := 0) dX10_pretends_33 rfl rfl ?_
        refine AW.ev2i (Mc := mX10_tryRound) (n := 37) dX10_pretends_34 lk_X10_224 k_mX10_tryRound s_136 rfl rfl (c_X10_tryRound (by decide) hw hG) (Nat.le_of_ble_eq_true rfl) (by decide) (Nat.zero_le _) (Nat.zero_le _) rfl ?_
        refine AW.ist4 (n := 39) dX10_pretends_37 (Nat.le_of_ble_eq_true rfl) rfl rfl ?_
        refine AW.aload_n (n := 40) dX10_pretends_39 rfl rfl ?_
        refine AW.gi (n := 43) dX10_pretends_40 fl_X10_176 s_136 rfl rfl ?_
        refine AW.ist5 (n := 45) dX10_pretends_43 (Nat.le_of_ble_eq_true rfl) rfl rfl ?_
        refine AW.aload_n (n := 46) dX10_pretends_45 rfl rfl ?_
        refine AW.iload_n (n := 47) dX10_pretends_46 rfl rfl ?_
        refine AW.iload_n (n := 48) dX10_pretends_47 rfl rfl ?_
        refine AW.ev2i (Mc := mX10_tryRound) (n := 51) dX10_pretends_48 lk_X10_224 k_mX10_tryRound s_136 rfl rfl (c_X10_tryRound h15 hw (hG.try hw)) (Nat.le_of_ble_eq_true rfl) (by decide) (Nat.zero_le _) (Nat.zero_le _) rfl ?_
        refine AW.ist6 (n := 53) dX10_pretends_51 (Nat.le_of_ble_eq_true rfl) rfl rfl ?_
        refine AW.iload_n (n := 54) dX10_pretends_53 rfl rfl ?_
        refine AW.if_ne (n := 57) (t := 65) dX10_pretends_54 rfl rfl (fun h54 => ?_) (fun h54 => ?_)
        · refine AW.iload (n := 67) dX10_pretends_65 rfl rfl ?_
          refine AW.aload_n (n := 68) dX10_pretends_67 rfl rfl ?_
          refine AW.gi (n := 71) dX10_pretends_68 fl_X10_176 s_136 rfl rfl ?_
          refine AW.isub (n := 72) dX10_pretends_71 rfl ?_
          refine AW.bipush (n := 74) (v := 100) dX10_pretends_72 rfl rfl ?_
          refine AW.iadd (n := 75) dX10_pretends_74 rfl ?_
          refine AW.iret dX10_pretends_75 rfl rfl (Nat.zero_le _) (Nat.zero_le _) ?_
          rw [qPretends, if_pos h5, if_pos h15, if_pos h25]
          exact ⟨by simp only [if_neg h54]; rfl, rfl⟩
        · refine AW.iload (n := 59) dX10_pretends_57 rfl rfl ?_
          refine AW.iload (n := 61) dX10_pretends_59 rfl rfl ?_
          refine AW.isub (n := 62) dX10_pretends_61 rfl ?_
          refine AW.goto (t := 75) dX10_pretends_62 rfl ?_
          refine AW.iret dX10_pretends_75 rfl rfl (Nat.zero_le _) (Nat.zero_le _) ?_
          rw [qPretends, if_pos h5, if_pos h15, if_pos h25]
          exact ⟨by simp only [if_pos h54]; rfl, rfl⟩
      · refine AW.ldc (n := 30) dX10_pretends_28 kc_X10_72 rfl ?_
        refine AW.iret dX10_pretends_30 rfl rfl (Nat.zero_le _) (Nat.zero_le _) ?_
        exact ⟨by simp [qPretends, h5, h15, h25], by simp [qPretends, h5, h15, h25]⟩
  · refine AW.ldc (n := 10) dX10_pretends_8 kc_X10_167 rfl ?_
    refine AW.iret dX10_pretends_10 rfl rfl (Nat.zero_le _) (Nat.zero_le _) ?_
    exact ⟨by simp [qPretends, h5], by simp [qPretends, h5]⟩
set_option maxHeartbeats 4000000 in
set_option maxRecDepth 100000 in
theorem c_X10_bears {μ : Me} {e : Nat × (Nat → aC)} {n d : Nat} {s : Int32} (hG : mG μ n d) : AC 2 0 0 mX10_bears [.ref 136, .int s] (wS μ e) (a_eq (some (.int (qBears μ s))) (wS μ e)) := by
  refine AC.of (L := [some (.ref 136), some (.int s)]) (j := 0) (by decide) rfl (Nat.le_of_ble_eq_true rfl) ?_
  refine AW.aload_n (n := 1) dX10_bears_0 rfl rfl ?_
  refine AW.iload_n (n := 2) dX10_bears_1 rfl rfl ?_
  refine AW.ev1i (Mc := mX10_isStop) (n := 5) dX10_bears_2 lk_X10_150 k_mX10_isStop s_136 rfl rfl (c_X10_isStop hG.1 hG.2.1) (Nat.le_of_ble_eq_true rfl) (by decide) (Nat.zero_le _) (Nat.zero_le _) rfl ?_
  refine AW.bif_ne (n := 8) (t := 11) dX10_bears_5 rfl rfl (fun h5 => ?_) (fun h5 => ?_)
  · obtain ⟨j, hj, rfl⟩ := sHas_j hG.1 hG.2.1 h5
    have h7 := hG.2.1
    have hjc := cl_nI (show j < 2147483648 by omega)
    refine AW.aload_n (n := 12) dX10_bears_11 rfl rfl ?_
    refine AW.gr (n := 15) dX10_bears_12 fl_X10_29 s_136 rfl rfl ?_
    refine AW.iload_n (n := 16) dX10_bears_15 rfl rfl ?_
    refine AW.ia (n := 17) j dX10_bears_16 s_143 rfl (by omega) (by decide) rfl ?_
    refine AW.iconst (n := 18) (v := -1) dX10_bears_17 rfl rfl ?_
    refine AW.icmp_ne (n := 21) (t := 25) dX10_bears_18 rfl rfl (fun h18 => ?_) (fun h18 => ?_)
    · refine AW.aload_n (n := 26) dX10_bears_25 rfl rfl ?_
      refine AW.gr (n := 29) dX10_bears_26 fl_X10_32 s_136 rfl rfl ?_
      refine AW.iload_n (n := 30) dX10_bears_29 rfl rfl ?_
      refine AW.ia (n := 31) j dX10_bears_30 s_144 rfl (by omega) (by decide) rfl ?_
      refine AW.aload_n (n := 32) dX10_bears_31 rfl rfl ?_
      refine AW.gr (n := 35) dX10_bears_32 fl_X10_7 s_136 rfl rfl ?_
      refine AW.bipush (n := 37) (v := 7) dX10_bears_35 rfl rfl ?_
      refine AW.iload_n (n := 38) dX10_bears_37 rfl rfl ?_
      refine AW.iadd (n := 39) dX10_bears_38 rfl ?_
      refine AW.ia (n := 40) (7 + j) dX10_bears_39 s_137 (nI_add 7 j) (by omega) (by decide) rfl ?_
      refine AW.isub (n := 41) dX10_bears_40 rfl ?_
      refine AW.iret dX10_bears_41 rfl rfl (Nat.zero_le _) (Nat.zero_le _) ?_
      exact ⟨by simp [qBears, h5, h18, hjc], rfl⟩
    · refine AW.iconst (n := 22) (v := 0) dX10_bears_21 rfl rfl ?_
      refine AW.goto (t := 41) dX10_bears_22 rfl ?_
      refine AW.iret dX10_bears_41 rfl rfl (Nat.zero_le _) (Nat.zero_le _) ?_
      exact ⟨by simp [qBears, h5, h18, hjc], rfl⟩
  · refine AW.ldc (n := 10) dX10_bears_8 kc_X10_167 rfl ?_
    refine AW.iret dX10_bears_10 rfl rfl (Nat.zero_le _) (Nat.zero_le _) ?_
    exact ⟨by simp [qBears, h5], rfl⟩
set_option maxHeartbeats 4000000 in
set_option maxRecDepth 100000 in
theorem l_X10_heard {μ : Me} {e : Nat × (Nat → aC)} {k : Nat} {q : Int32} (hk : k ≤ 60) : ∀ (m : Nat) (i : Nat), k - i < m → i ≤ k → AW none 1 0 0 mX10_heard 0 0 34 [some (.ref 136), some (.int (nI k)), some (.int q), some (.long (sOdds q i)), none, some (.int (nI i))] [] (wS μ e) (a_eq (some (.int (1000000000 - sOdds q k).toInt32)) (wS μ e)) := by
  intro m
  induction m with
  | zero => intro i hm; exact absurd hm (Nat.not_lt_zero _)
  | succ m ih =>
    intro i hm hc
    refine AW.iload (n := 36) dX10_heard_34 rfl rfl ?_
    refine AW.iload_n (n := 37) dX10_heard_36 rfl rfl ?_
    refine AW.icmp_ge (n := 40) (t := 58) dX10_heard_37 rfl rfl (fun h37 => ?_) (fun h37 => ?_)
    · have hi : k ≤ i := le_lit (b := k) (x := nI i) rfl (by omega) (by omega) h37
      have he : i = k := by omega
      subst he
      refine AW.ldc2 (n := 61) dX10_heard_58 kl_X10_251 rfl ?_
      refine AW.lload_n (n := 62) dX10_heard_61 rfl rfl ?_
      refine AW.lsub (n := 63) dX10_heard_62 rfl ?_
      refine AW.l2i (n := 64) dX10_heard_63 rfl ?_
      refine AW.iret dX10_heard_64 rfl rfl (Nat.zero_le _) (Nat.zero_le _) ?_
      exact ⟨rfl, rfl⟩
    · have hi : i < k := nle_lit (b := k) (x := nI i) rfl (by omega) (by omega) h37
      refine AW.lload_n (n := 41) dX10_heard_40 rfl rfl ?_
      refine AW.bipush (n := 43) (v := 100) dX10_heard_41 rfl rfl ?_
      refine AW.iload_n (n := 44) dX10_heard_43 rfl rfl ?_
      refine AW.isub (n := 45) dX10_heard_44 rfl ?_
      refine AW.i2l (n := 46) dX10_heard_45 rfl ?_
      refine AW.lmul (n := 47) dX10_heard_46 rfl ?_
      refine AW.ldc2 (n := 50) dX10_heard_47 kl_X10_249 rfl ?_
      refine AW.ldiv (n := 51) dX10_heard_50 (by decide) rfl ?_
      refine AW.lstore_n (n := 52) dX10_heard_51 (Nat.le_of_ble_eq_true rfl) rfl rfl rfl ?_
      refine AW.inc5 (n := 55) (1) dX10_heard_52 rfl (Nat.le_of_ble_eq_true rfl) rfl rfl ?_
      refine AW.goto (t := 34) dX10_heard_55 rfl ?_
      rw [nI_1]
      exact ih (i + 1) (by omega) (by omega)
set_option maxHeartbeats 4000000 in
set_option maxRecDepth 100000 in
theorem c_X10_heard {μ : Me} {e : Nat × (Nat → aC)} {n q : Int32}  : AC 1 0 0 mX10_heard [.ref 136, .int n, .int q] (wS μ e) (a_eq (some (.int (oHeard n q))) (wS μ e)) := by
  refine AC.of (L := [some (.ref 136), some (.int n), some (.int q), none, none, none]) (j := 3) (by decide) rfl (Nat.le_of_ble_eq_true rfl) ?_
  refine AW.iload_n (n := 1) dX10_heard_0 rfl rfl ?_
  refine AW.i2l (n := 2) dX10_heard_1 rfl ?_
  refine AW.lconst (n := 3) (v := 0) dX10_heard_2 rfl rfl ?_
  refine AW.ldc2 (n := 6) dX10_heard_3 kl_X10_247 rfl ?_
  refine AW.es3i (Mc := mX10_in) (n := 9) dX10_heard_6 lk_X10_68 k_mX10_in (c_X10_in n 0 60 rfl (by decide) (by decide)) (Nat.le_of_ble_eq_true rfl) (by decide) (Nat.zero_le _) (Nat.zero_le _) rfl ?_
  refine AW.bif_eq (n := 12) (t := 24) dX10_heard_9 rfl rfl (fun h9 => ?_) (fun h9 => ?_)
  · refine AW.ldc (n := 26) dX10_heard_24 kc_X10_72 rfl ?_
    refine AW.iret dX10_heard_26 rfl rfl (Nat.zero_le _) (Nat.zero_le _) ?_
    exact ⟨by simp [oHeard, h9], rfl⟩
  · refine AW.iload_n (n := 13) dX10_heard_12 rfl rfl ?_
    refine AW.i2l (n := 14) dX10_heard_13 rfl ?_
    refine AW.lconst (n := 15) (v := 0) dX10_heard_14 rfl rfl ?_
    refine AW.ldc2 (n := 18) dX10_heard_15 kl_X10_249 rfl ?_
    refine AW.es3i (Mc := mX10_in) (n := 21) dX10_heard_18 lk_X10_68 k_mX10_in (c_X10_in q 0 100 rfl (by decide) (by decide)) (Nat.le_of_ble_eq_true rfl) (by decide) (Nat.zero_le _) (Nat.zero_le _) rfl ?_
    refine AW.bif_ne (n := 24) (t := 27) dX10_heard_21 rfl rfl (fun h21 => ?_) (fun h21 => ?_)
    · refine AW.ldc2 (n := 30) dX10_heard_27 kl_X10_251 rfl ?_
      refine AW.lstore_n (n := 31) dX10_heard_30 (Nat.le_of_ble_eq_true rfl) rfl rfl rfl ?_
      refine AW.iconst (n := 32) (v := 0) dX10_heard_31 rfl rfl ?_
      refine AW.ist5 (n := 34) dX10_heard_32 (Nat.le_of_ble_eq_true rfl) rfl rfl ?_
      obtain ⟨k, hk1, hk2, rfl⟩ := win_j (a := 0) (b := 60) (by decide) h9 (by decide)
      have h := l_X10_heard (e := e) (μ := μ) (q := q) hk2 (k + 1) 0 (by omega) (by omega)
      simp only [oHeard, h9, h21, if_true, cl_nI (show k < 2147483648 by omega)]
      exact h
    · refine AW.ldc (n := 26) dX10_heard_24 kc_X10_72 rfl ?_
      refine AW.iret dX10_heard_26 rfl rfl (Nat.zero_le _) (Nat.zero_le _) ?_
      exact ⟨by simp [oHeard, h9, h21], rfl⟩
set_option maxHeartbeats 4000000 in
set_option maxRecDepth 100000 in
theorem c_X10_see {μ : Me} {e : Nat × (Nat → aC)} {n d z : Nat} {s : Int32} {b : Bool} (hG : mG μ n d) (hz : μ 136 26 = nI z) (hz9 : z ≤ 6) : AC 2 0 0 mX10_see [.ref 136, .int s, .int (b2i b)] (wS μ e) (a_eq (some (.int ((qSee μ z s b).1))) (wS ((qSee μ z s b).2) e)) := by
  refine AC.of (L := [some (.ref 136), some (.int s), some (.int (b2i b))]) (j := 0) (by decide) rfl (Nat.le_of_ble_eq_true rfl) ?_
  refine AW.aload_n (n := 1) dX10_see_0 rfl rfl ?_
  refine AW.iload_n (n := 2) dX10_see_1 rfl rfl ?_
  refine AW.ev1i (Mc := mX10_isStop) (n := 5) dX10_see_2 lk_X10_150 k_mX10_isStop s_136 rfl rfl (c_X10_isStop hG.1 hG.2.1) (Nat.le_of_ble_eq_true rfl) (by decide) (Nat.zero_le _) (Nat.zero_le _) rfl ?_
  refine AW.bif_ne (n := 8) (t := 11) dX10_see_5 rfl rfl (fun h5 => ?_) (fun h5 => ?_)
  · refine AW.aload_n (n := 12) dX10_see_11 rfl rfl ?_
    refine AW.gi (n := 15) dX10_see_12 fl_X10_137 s_136 rfl rfl ?_
    refine AW.bipush (n := 17) (v := 6) dX10_see_15 rfl rfl ?_
    refine AW.icmp_ne (n := 20) (t := 23) dX10_see_17 rfl rfl (fun h17 => ?_) (fun h17 => ?_)
    · have q : ¬ z = 6 := by rintro rfl; exact h17 hz
      refine AW.aload_n (n := 24) dX10_see_23 rfl rfl ?_
      refine AW.gr (n := 27) dX10_see_24 fl_X10_51 s_136 rfl rfl ?_
      refine AW.aload_n (n := 28) dX10_see_27 rfl rfl ?_
      refine AW.gi (n := 31) dX10_see_28 fl_X10_137 s_136 rfl rfl ?_
      refine AW.iload_n (n := 32) dX10_see_31 rfl rfl ?_
      refine AW.is (n := 33) z dX10_see_32 s_149 hz (by omega) (by decide) rfl ?_
      refine AW.aload_n (n := 34) dX10_see_33 rfl rfl ?_
      refine AW.gr (n := 37) dX10_see_34 fl_X10_54 s_136 rfl rfl ?_
      refine AW.aload_n (n := 38) dX10_see_37 rfl rfl ?_
      refine AW.gi (n := 41) dX10_see_38 fl_X10_137 s_136 rfl rfl ?_
      refine AW.iload_n (n := 42) dX10_see_41 rfl rfl ?_
      refine AW.zs (n := 43) z dX10_see_42 s_150 (by simp [mu_at, hz]) (by omega) (by decide) nar_b2i rfl ?_
      refine AW.aload_n (n := 44) dX10_see_43 rfl rfl ?_
      refine AW.dup (n := 45) dX10_see_44 rfl rfl ?_
      refine AW.gi (n := 48) dX10_see_45 fl_X10_137 s_136 rfl rfl ?_
      refine AW.iconst (n := 49) (v := 1) dX10_see_48 rfl rfl ?_
      refine AW.iadd (n := 50) dX10_see_49 rfl ?_
      refine AW.pi (n := 53) dX10_see_50 fp_X10_137 s_136 rfl ⟨rfl, rfl⟩ rfl ?_
      refine AW.aload_n (n := 54) dX10_see_53 rfl rfl ?_
      refine AW.gi (n := 57) dX10_see_54 fl_X10_137 s_136 rfl rfl ?_
      refine AW.iret dX10_see_57 rfl rfl (Nat.zero_le _) (Nat.zero_le _) ?_
      exact ⟨by simp [qSee, h5, q, mu_at, hz, nI_1], by simp [qSee, h5, q, mu_at, hz, nI_1]⟩
    · have q : z = 6 := by rw [hz] at h17; exact (nI_eq (by omega) (by omega)).mp h17
      refine AW.ldc (n := 22) dX10_see_20 kc_X10_76 rfl ?_
      refine AW.iret dX10_see_22 rfl rfl (Nat.zero_le _) (Nat.zero_le _) ?_
      exact ⟨by simp [qSee, h5, q, mu_at, hz, nI_1], by simp [qSee, h5, q, mu_at, hz, nI_1]⟩
  · refine AW.ldc (n := 10) dX10_see_8 kc_X10_167 rfl ?_
    refine AW.iret dX10_see_10 rfl rfl (Nat.zero_le _) (Nat.zero_le _) ?_
    exact ⟨by simp [qSee, h5], by simp [qSee, h5]⟩
set_option maxHeartbeats 4000000 in
set_option maxRecDepth 100000 in
theorem c_X10_write {μ : Me} {e : Nat × (Nat → aC)} {n d z : Nat} {s is : Int32} (hG : mG μ n d) (hz : μ 136 30 = nI z) (hz9 : z ≤ 20) : AC 2 0 0 mX10_write [.ref 136, .int s, .int is] (wS μ e) (a_eq (some (.int ((qWrite μ z s is).1))) (wS ((qWrite μ z s is).2) e)) := by
  refine AC.of (L := [some (.ref 136), some (.int s), some (.int is)]) (j := 0) (by decide) rfl (Nat.le_of_ble_eq_true rfl) ?_
  refine AW.aload_n (n := 1) dX10_write_0 rfl rfl ?_
  refine AW.iload_n (n := 2) dX10_write_1 rfl rfl ?_
  refine AW.ev1i (Mc := mX10_isStop) (n := 5) dX10_write_2 lk_X10_150 k_mX10_isStop s_136 rfl rfl (c_X10_isStop hG.1 hG.2.1) (Nat.le_of_ble_eq_true rfl) (by decide) (Nat.zero_le _) (Nat.zero_le _) rfl ?_
  refine AW.bif_ne (n := 8) (t := 11) dX10_write_5 rfl rfl (fun h5 => ?_) (fun h5 => ?_)
  · refine AW.iload_n (n := 12) dX10_write_11 rfl rfl ?_
    refine AW.i2l (n := 13) dX10_write_12 rfl ?_
    refine AW.lconst (n := 14) (v := 1) dX10_write_13 rfl rfl ?_
    refine AW.ldc2 (n := 17) dX10_write_14 kl_X10_259 rfl ?_
    refine AW.es3i (Mc := mX10_in) (n := 20) dX10_write_17 lk_X10_68 k_mX10_in (c_X10_in is 1 4 rfl (by decide) (by decide)) (Nat.le_of_ble_eq_true rfl) (by decide) (Nat.zero_le _) (Nat.zero_le _) rfl ?_
    refine AW.bif_ne (n := 23) (t := 26) dX10_write_20 rfl rfl (fun h20 => ?_) (fun h20 => ?_)
    · refine AW.aload_n (n := 27) dX10_write_26 rfl rfl ?_
      refine AW.gi (n := 30) dX10_write_27 fl_X10_140 s_136 rfl rfl ?_
      refine AW.bipush (n := 32) (v := 20) dX10_write_30 rfl rfl ?_
      refine AW.icmp_ne (n := 35) (t := 38) dX10_write_32 rfl rfl (fun h32 => ?_) (fun h32 => ?_)
      · have q : ¬ z = 20 := by rintro rfl; exact h32 hz
        refine AW.aload_n (n := 39) dX10_write_38 rfl rfl ?_
        refine AW.gr (n := 42) dX10_write_39 fl_X10_60 s_136 rfl rfl ?_
        refine AW.aload_n (n := 43) dX10_write_42 rfl rfl ?_
        refine AW.gi (n := 46) dX10_write_43 fl_X10_140 s_136 rfl rfl ?_
        refine AW.iload_n (n := 47) dX10_write_46 rfl rfl ?_
        refine AW.is (n := 48) z dX10_write_47 s_152 hz (by omega) (by decide) rfl ?_
        refine AW.aload_n (n := 49) dX10_write_48 rfl rfl ?_
        refine AW.gr (n := 52) dX10_write_49 fl_X10_63 s_136 rfl rfl ?_
        refine AW.aload_n (n := 53) dX10_write_52 rfl rfl ?_
        refine AW.gi (n := 56) dX10_write_53 fl_X10_140 s_136 rfl rfl ?_
        refine AW.iload_n (n := 57) dX10_write_56 rfl rfl ?_
        refine AW.is (n := 58) z dX10_write_57 s_153 (by simp [mu_at, hz]) (by omega) (by decide) rfl ?_
        refine AW.aload_n (n := 59) dX10_write_58 rfl rfl ?_
        refine AW.dup (n := 60) dX10_write_59 rfl rfl ?_
        refine AW.gi (n := 63) dX10_write_60 fl_X10_140 s_136 rfl rfl ?_
        refine AW.iconst (n := 64) (v := 1) dX10_write_63 rfl rfl ?_
        refine AW.iadd (n := 65) dX10_write_64 rfl ?_
        refine AW.pi (n := 68) dX10_write_65 fp_X10_140 s_136 rfl ⟨rfl, rfl⟩ rfl ?_
        refine AW.aload_n (n := 69) dX10_write_68 rfl rfl ?_
        refine AW.gi (n := 72) dX10_write_69 fl_X10_140 s_136 rfl rfl ?_
        refine AW.iret dX10_write_72 rfl rfl (Nat.zero_le _) (Nat.zero_le _) ?_
        exact ⟨by simp [qWrite, h5, h20, q, mu_at, hz, nI_1], by simp [qWrite, h5, h20, q, mu_at, hz, nI_1]⟩
      · have q : z = 20 := by rw [hz] at h32; exact (nI_eq (by omega) (by omega)).mp h32
        refine AW.ldc (n := 37) dX10_write_35 kc_X10_76 rfl ?_
        refine AW.iret dX10_write_37 rfl rfl (Nat.zero_le _) (Nat.zero_le _) ?_
        exact ⟨by simp [qWrite, h5, h20, q, mu_at, hz, nI_1], by simp [qWrite, h5, h20, q, mu_at, hz, nI_1]⟩
    · refine AW.ldc (n := 25) dX10_write_23 kc_X10_72 rfl ?_
      refine AW.iret dX10_write_25 rfl rfl (Nat.zero_le _) (Nat.zero_le _) ?_
      exact ⟨by simp [qWrite, h5, h20], by simp [qWrite, h5, h20]⟩
  · refine AW.ldc (n := 10) dX10_write_8 kc_X10_167 rfl ?_
    refine AW.iret dX10_write_10 rfl rfl (Nat.zero_le _) (Nat.zero_le _) ?_
    exact ⟨by simp [qWrite, h5], by simp [qWrite, h5]⟩
set_option maxHeartbeats 4000000 in
set_option maxRecDepth 100000 in
theorem l_X10_judge {μ : Me} {e : Nat × (Nat → aC)} {z : Nat} (hz : μ 136 30 = nI z) (hz9 : z ≤ 20) (hv : ∀ i, i < z → ∃ j : Nat, j < 7 ∧ μ 152 i = nI j) : ∀ (m : Nat) (i : Nat), z - i < m → i ≤ z → AW none 0 0 0 mX10_judge 0 0 2 [some (.ref 136), some (.int (nI i))] [] (wS μ e) (a_eq (some (.int (sWrong (μ 137) (μ 152) (μ 153) (z - i) i))) (wS μ e)) := by
  intro m
  induction m with
  | zero => intro i hm; exact absurd hm (Nat.not_lt_zero _)
  | succ m ih =>
    intro i hm hc
    refine AW.iload_n (n := 3) dX10_judge_2 rfl rfl ?_
    refine AW.aload_n (n := 4) dX10_judge_3 rfl rfl ?_
    refine AW.gi (n := 7) dX10_judge_4 fl_X10_140 s_136 rfl rfl ?_
    refine AW.icmp_ge (n := 10) (t := 38) dX10_judge_7 rfl rfl (fun h7 => ?_) (fun h7 => ?_)
    · have hi : z ≤ i := le_lit (b := z) (x := nI i) rfl (by omega) (by omega) (by rw [← hz]; exact h7)
      refine AW.iconst (n := 39) (v := -1) dX10_judge_38 rfl rfl ?_
      refine AW.iret dX10_judge_39 rfl rfl (Nat.zero_le _) (Nat.zero_le _) ?_
      exact ⟨by rw [show z - i = 0 by omega]; rfl, rfl⟩
    · have hi : i < z := nle_lit (b := z) (x := nI i) rfl (by omega) (by omega) (by rw [← hz]; exact h7)
      obtain ⟨j, hj, hjj⟩ := hv i hi
      have hs : z - i = (z - (i + 1)) + 1 := by omega
      refine AW.aload_n (n := 11) dX10_judge_10 rfl rfl ?_
      refine AW.gr (n := 14) dX10_judge_11 fl_X10_7 s_136 rfl rfl ?_
      refine AW.aload_n (n := 15) dX10_judge_14 rfl rfl ?_
      refine AW.gr (n := 18) dX10_judge_15 fl_X10_60 s_136 rfl rfl ?_
      refine AW.iload_n (n := 19) dX10_judge_18 rfl rfl ?_
      refine AW.ia (n := 20) i dX10_judge_19 s_152 rfl (by omega) (by decide) rfl ?_
      refine AW.ia (n := 21) j dX10_judge_20 s_137 hjj (by omega) (by decide) rfl ?_
      refine AW.aload_n (n := 22) dX10_judge_21 rfl rfl ?_
      refine AW.gr (n := 25) dX10_judge_22 fl_X10_63 s_136 rfl rfl ?_
      refine AW.iload_n (n := 26) dX10_judge_25 rfl rfl ?_
      refine AW.ia (n := 27) i dX10_judge_26 s_153 rfl (by omega) (by decide) rfl ?_
      refine AW.icmp_eq (n := 30) (t := 32) dX10_judge_27 rfl rfl (fun h27 => ?_) (fun h27 => ?_)
      · refine AW.inc1 (n := 35) (1) dX10_judge_32 rfl (Nat.le_of_ble_eq_true rfl) rfl rfl ?_
        refine AW.goto (t := 2) dX10_judge_35 rfl ?_
        rw [nI_1]
        have e9 : sWrong (μ 137) (μ 152) (μ 153) (z - i) i = sWrong (μ 137) (μ 152) (μ 153) (z - (i + 1)) (i + 1) := by rw [hs, sWrong, hjj, cl_nI (by omega), if_pos h27]
        rw [e9]
        exact ih (i + 1) (by omega) (by omega)
      · refine AW.iload_n (n := 31) dX10_judge_30 rfl rfl ?_
        refine AW.iret dX10_judge_31 rfl rfl (Nat.zero_le _) (Nat.zero_le _) ?_
        exact ⟨by rw [hs, sWrong, hjj, cl_nI (by omega), if_neg h27], rfl⟩
set_option maxHeartbeats 4000000 in
set_option maxRecDepth 100000 in
theorem c_X10_judge {μ : Me} {e : Nat × (Nat → aC)} {z : Nat} (hz : μ 136 30 = nI z) (hz9 : z ≤ 20) (hv : ∀ i, i < z → ∃ j : Nat, j < 7 ∧ μ 152 i = nI j) : AC 0 0 0 mX10_judge [.ref 136] (wS μ e) (a_eq (some (.int (qJudge μ z))) (wS μ e)) := by
  refine AC.of (L := [some (.ref 136), none]) (j := 1) (by decide) rfl (Nat.le_of_ble_eq_true rfl) ?_
  refine AW.iconst (n := 1) (v := 0) dX10_judge_0 rfl rfl ?_
  refine AW.ist1 (n := 2) dX10_judge_1 (Nat.le_of_ble_eq_true rfl) rfl rfl ?_
  exact l_X10_judge hz hz9 hv (z + 1) 0 (by omega) (Nat.zero_le _)
set_option maxHeartbeats 4000000 in
set_option maxRecDepth 100000 in
theorem c_X10_tear {μ : Me} {e : Nat × (Nat → aC)}   : AC 0 0 0 mX10_tear [.ref 136] (wS μ e) (a_eq (some (.int ((qTear μ).1))) (wS ((qTear μ).2) e)) := by
  refine AC.of (L := [some (.ref 136), none]) (j := 1) (by decide) rfl (Nat.le_of_ble_eq_true rfl) ?_
  refine AW.aload_n (n := 1) dX10_tear_0 rfl rfl ?_
  refine AW.gi (n := 4) dX10_tear_1 fl_X10_137 s_136 rfl rfl ?_
  refine AW.aload_n (n := 5) dX10_tear_4 rfl rfl ?_
  refine AW.gi (n := 8) dX10_tear_5 fl_X10_140 s_136 rfl rfl ?_
  refine AW.iadd (n := 9) dX10_tear_8 rfl ?_
  refine AW.ist1 (n := 10) dX10_tear_9 (Nat.le_of_ble_eq_true rfl) rfl rfl ?_
  refine AW.aload_n (n := 11) dX10_tear_10 rfl rfl ?_
  refine AW.iconst (n := 12) (v := 0) dX10_tear_11 rfl rfl ?_
  refine AW.pi (n := 15) dX10_tear_12 fp_X10_137 s_136 rfl ⟨rfl, rfl⟩ rfl ?_
  refine AW.aload_n (n := 16) dX10_tear_15 rfl rfl ?_
  refine AW.iconst (n := 17) (v := 0) dX10_tear_16 rfl rfl ?_
  refine AW.pi (n := 20) dX10_tear_17 fp_X10_140 s_136 rfl ⟨rfl, rfl⟩ rfl ?_
  refine AW.iload_n (n := 21) dX10_tear_20 rfl rfl ?_
  refine AW.iret dX10_tear_21 rfl rfl (Nat.zero_le _) (Nat.zero_le _) ?_
  exact ⟨rfl, rfl⟩
set_option maxHeartbeats 4000000 in
set_option maxRecDepth 100000 in
theorem c_X10_seed {μ : Me} {e : Nat × (Nat → aC)} {v : Int32}  : AC 0 0 0 mX10_seed [.ref 136, .int v] (wS μ e) (a_eq (some (.int ((qSeed μ v).1))) (wS ((qSeed μ v).2) e)) := by
  refine AC.of (L := [some (.ref 136), some (.int v), none]) (j := 1) (by decide) rfl (Nat.le_of_ble_eq_true rfl) ?_
  refine AW.iload_n (n := 1) dX10_seed_0 rfl rfl ?_
  refine AW.if_ge (n := 4) (t := 7) dX10_seed_1 rfl rfl (fun h1 => ?_) (fun h1 => ?_)
  · refine AW.aload_n (n := 8) dX10_seed_7 rfl rfl ?_
    refine AW.gr (n := 11) dX10_seed_8 fl_X10_7 s_136 rfl rfl ?_
    refine AW.bipush (n := 13) (v := 17) dX10_seed_11 rfl rfl ?_
    refine AW.ia (n := 14) 17 dX10_seed_13 s_137 rfl (by omega) (by decide) rfl ?_
    refine AW.ist2 (n := 15) dX10_seed_14 (Nat.le_of_ble_eq_true rfl) rfl rfl ?_
    refine AW.aload_n (n := 16) dX10_seed_15 rfl rfl ?_
    refine AW.gr (n := 19) dX10_seed_16 fl_X10_7 s_136 rfl rfl ?_
    refine AW.bipush (n := 21) (v := 17) dX10_seed_19 rfl rfl ?_
    refine AW.iload_n (n := 22) dX10_seed_21 rfl rfl ?_
    refine AW.is (n := 23) 17 dX10_seed_22 s_137 rfl (by omega) (by decide) rfl ?_
    refine AW.iload_n (n := 24) dX10_seed_23 rfl rfl ?_
    refine AW.iret dX10_seed_24 rfl rfl (Nat.zero_le _) (Nat.zero_le _) ?_
    exact ⟨by simp [qSeed, h1], by simp [qSeed, h1]⟩
  · refine AW.ldc (n := 6) dX10_seed_4 kc_X10_72 rfl ?_
    refine AW.iret dX10_seed_6 rfl rfl (Nat.zero_le _) (Nat.zero_le _) ?_
    exact ⟨by simp [qSeed, h1], by simp [qSeed, h1]⟩
set_option maxHeartbeats 4000000 in
set_option maxRecDepth 100000 in
theorem c_X10_keep {μ : Me} {e : Nat × (Nat → aC)} {i : Int32}  : AC 1 0 0 mX10_keep [.ref 136, .int i] (wS μ e) (a_eq (some (.int ((qKeep μ i).1))) (wS ((qKeep μ i).2) e)) := by
  refine AC.of (L := [some (.ref 136), some (.int i)]) (j := 0) (by decide) rfl (Nat.le_of_ble_eq_true rfl) ?_
  refine AW.iload_n (n := 1) dX10_keep_0 rfl rfl ?_
  refine AW.i2l (n := 2) dX10_keep_1 rfl ?_
  refine AW.lconst (n := 3) (v := 0) dX10_keep_2 rfl rfl ?_
  refine AW.lconst (n := 4) (v := 1) dX10_keep_3 rfl rfl ?_
  refine AW.es3i (Mc := mX10_in) (n := 7) dX10_keep_4 lk_X10_68 k_mX10_in (c_X10_in i 0 1 rfl (by decide) (by decide)) (Nat.le_of_ble_eq_true rfl) (by decide) (Nat.zero_le _) (Nat.zero_le _) rfl ?_
  refine AW.bif_ne (n := 10) (t := 13) dX10_keep_7 rfl rfl (fun h7 => ?_) (fun h7 => ?_)
  · obtain ⟨j, -, hj, rfl⟩ := win_j (a := 0) (b := 1) (by omega) h7 (by omega)
    have hjc := cl_nI (show j < 2147483648 by omega)
    refine AW.aload_n (n := 14) dX10_keep_13 rfl rfl ?_
    refine AW.iconst (n := 15) (v := 0) dX10_keep_14 rfl rfl ?_
    refine AW.bipush (n := 17) (v := 36) dX10_keep_15 rfl rfl ?_
    refine AW.bipush (n := 19) (v := 18) dX10_keep_17 rfl rfl ?_
    refine AW.iload_n (n := 20) dX10_keep_19 rfl rfl ?_
    refine AW.imul (n := 21) dX10_keep_20 rfl ?_
    refine AW.iadd (n := 22) dX10_keep_21 rfl ?_
    rw [p36]
    refine AW.ev2v (Mc := mX10_copy) (n := 25) dX10_keep_22 lk_X10_192 k_mX10_copy s_136 rfl rfl (c_X10_copy (x := 0) (y := 36 + 18 * j) (by omega) (by omega)) (Nat.le_of_ble_eq_true rfl) (by decide) (Nat.zero_le _) (Nat.zero_le _) rfl ?_
    refine AW.aload_n (n := 26) dX10_keep_25 rfl rfl ?_
    refine AW.gr (n := 29) dX10_keep_26 fl_X10_13 s_136 rfl rfl ?_
    refine AW.iload_n (n := 30) dX10_keep_29 rfl rfl ?_
    refine AW.iconst (n := 31) (v := 1) dX10_keep_30 rfl rfl ?_
    refine AW.zs (n := 32) j dX10_keep_31 s_138 rfl (by omega) (by decide) rfl rfl ?_
    refine AW.aload_n (n := 33) dX10_keep_32 rfl rfl ?_
    refine AW.iconst (n := 34) (v := 0) dX10_keep_33 rfl rfl ?_
    refine AW.pi (n := 37) dX10_keep_34 fp_X10_143 s_136 rfl ⟨rfl, rfl⟩ rfl ?_
    refine AW.iconst (n := 38) (v := 1) dX10_keep_37 rfl rfl ?_
    refine AW.iret dX10_keep_38 rfl rfl (Nat.zero_le _) (Nat.zero_le _) ?_
    exact ⟨by simp [qKeep, h7, hjc], by simp [qKeep, h7, hjc]⟩
  · refine AW.ldc (n := 12) dX10_keep_10 kc_X10_167 rfl ?_
    refine AW.iret dX10_keep_12 rfl rfl (Nat.zero_le _) (Nat.zero_le _) ?_
    exact ⟨by simp [qKeep, h7], by simp [qKeep, h7]⟩
set_option maxHeartbeats 4000000 in
set_option maxRecDepth 100000 in
theorem c_X10_goBack {μ : Me} {e : Nat × (Nat → aC)} {i : Int32}  : AC 1 0 0 mX10_goBack [.ref 136, .int i] (wS μ e) (a_eq (some (.int ((qGoBack μ i).1))) (wS ((qGoBack μ i).2) e)) := by
  refine AC.of (L := [some (.ref 136), some (.int i)]) (j := 0) (by decide) rfl (Nat.le_of_ble_eq_true rfl) ?_
  refine AW.iload_n (n := 1) dX10_goBack_0 rfl rfl ?_
  refine AW.i2l (n := 2) dX10_goBack_1 rfl ?_
  refine AW.lconst (n := 3) (v := 0) dX10_goBack_2 rfl rfl ?_
  refine AW.lconst (n := 4) (v := 1) dX10_goBack_3 rfl rfl ?_
  refine AW.es3i (Mc := mX10_in) (n := 7) dX10_goBack_4 lk_X10_68 k_mX10_in (c_X10_in i 0 1 rfl (by decide) (by decide)) (Nat.le_of_ble_eq_true rfl) (by decide) (Nat.zero_le _) (Nat.zero_le _) rfl ?_
  refine AW.bif_ne (n := 10) (t := 13) dX10_goBack_7 rfl rfl (fun h7 => ?_) (fun h7 => ?_)
  · obtain ⟨j, -, hj, rfl⟩ := win_j (a := 0) (b := 1) (by omega) h7 (by omega)
    have hjc := cl_nI (show j < 2147483648 by omega)
    refine AW.aload_n (n := 14) dX10_goBack_13 rfl rfl ?_
    refine AW.gr (n := 17) dX10_goBack_14 fl_X10_13 s_136 rfl rfl ?_
    refine AW.iload_n (n := 18) dX10_goBack_17 rfl rfl ?_
    refine AW.za (n := 19) j dX10_goBack_18 s_138 rfl (by omega) (by decide) rfl ?_
    refine AW.if_ne (n := 22) (t := 25) dX10_goBack_19 rfl rfl (fun h19 => ?_) (fun h19 => ?_)
    · refine AW.aload_n (n := 26) dX10_goBack_25 rfl rfl ?_
      refine AW.bipush (n := 28) (v := 36) dX10_goBack_26 rfl rfl ?_
      refine AW.bipush (n := 30) (v := 18) dX10_goBack_28 rfl rfl ?_
      refine AW.iload_n (n := 31) dX10_goBack_30 rfl rfl ?_
      refine AW.imul (n := 32) dX10_goBack_31 rfl ?_
      refine AW.iadd (n := 33) dX10_goBack_32 rfl ?_
      refine AW.iconst (n := 34) (v := 0) dX10_goBack_33 rfl rfl ?_
      rw [p36]
      refine AW.ev2v (Mc := mX10_copy) (n := 37) dX10_goBack_34 lk_X10_192 k_mX10_copy s_136 rfl rfl (c_X10_copy (x := 36 + 18 * j) (y := 0) (by omega) (by omega)) (Nat.le_of_ble_eq_true rfl) (by decide) (Nat.zero_le _) (Nat.zero_le _) rfl ?_
      refine AW.aload_n (n := 38) dX10_goBack_37 rfl rfl ?_
      refine AW.iconst (n := 39) (v := 0) dX10_goBack_38 rfl rfl ?_
      refine AW.pi (n := 42) dX10_goBack_39 fp_X10_143 s_136 rfl ⟨rfl, rfl⟩ rfl ?_
      refine AW.iconst (n := 43) (v := 1) dX10_goBack_42 rfl rfl ?_
      refine AW.iret dX10_goBack_43 rfl rfl (Nat.zero_le _) (Nat.zero_le _) ?_
      exact ⟨by simp [qGoBack, h7, h19, hjc], by simp [qGoBack, h7, h19, hjc]⟩
    · refine AW.ldc (n := 24) dX10_goBack_22 kc_X10_209 rfl ?_
      refine AW.iret dX10_goBack_24 rfl rfl (Nat.zero_le _) (Nat.zero_le _) ?_
      exact ⟨by simp [qGoBack, h7, h19, hjc], by simp [qGoBack, h7, h19, hjc]⟩
  · refine AW.ldc (n := 12) dX10_goBack_10 kc_X10_167 rfl ?_
    refine AW.iret dX10_goBack_12 rfl rfl (Nat.zero_le _) (Nat.zero_le _) ?_
    exact ⟨by simp [qGoBack, h7], by simp [qGoBack, h7]⟩
