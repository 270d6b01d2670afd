def mNear (f : Nat → Int32) (set d : Int32) (y : Nat) : Nat → Int32
  | 0 => 0
  | i + 1 => mNear f set d y i + b2i (sBit set (nI i) && !decide (d < sFar (f i) (nI y)))
def mLock (f : Nat → Int32) (set d : Int32) (n : Nat) : Nat → Int32 × Int32
  | 0 => (0, 0)
  | y + 1 => (if mNear f set d y n ≤ (mLock f set d n y).2 then (mLock f set d n y).1 else nI y, if mNear f set d y n ≤ (mLock f set d n y).2 then (mLock f set d n y).2 else mNear f set d y n)
def qLocker (ν : Me) (n : Nat) (way d w : Int32) : Int32 × Me :=
  if sIsWay (ν 136 8) way then (if sWithin d 0 99 then (if sWithin w 0 1 then
    (if w = 0 then (mLock (ν 140) ((mTry ν way 0).2 136 21) d n 100).1 else (mLock (ν 140) ((mTry ν way 0).2 136 21) d n 100).2, (mTry ν way 0).2) else (-1000000002, ν)) else (-1000000002, ν)) else (-1000000001, ν)
def mSlF (ν : Me) : Nat → Me
  | 0 => ν
  | i + 1 => mu (mu (mSlF ν i) 137 (18 + i) 1) 137 (25 + i) 0
def mSlip (ν : Me) (way h : Int32) : Int32 × Me := mRoundIn (mSlF (mCopy ν 0 18) 7) 18 way h
def mFit (x : Int32) (g h : Nat → Int32) : Nat → Bool
  | 0 => true
  | k + 1 => mFit x g h k && decide (b2i (sBit x (g k)) = h k)
def mFHm (ν : Me) (way : Int32) (h : Nat) : Me := mu (mSlip ν way (nI h)).2 151 h ((mSlip ν way (nI h)).2 136 21)
def mFH (ν : Me) (way : Int32) (z : Nat) : Nat → Int32 × Me
  | 0 => (0, ν)
  | h + 1 => ((mFH ν way z h).1 ||| (b2i (mFit (mFHm (mFH ν way z h).2 way h 151 h) (mFHm (mFH ν way z h).2 way h 149) (mFHm (mFH ν way z h).2 way h 150) z) <<< (nI h &&& 31)), mFHm (mFH ν way z h).2 way h)
def mPop (x : Int32) : Nat → Int32
  | 0 => 0
  | i + 1 => mPop x i + ((x >>> (nI i &&& 31)) &&& 1)
def mAskN (set : Int32) (f : Nat → Int32) (s : Nat) : Nat → Int32
  | 0 => 0
  | h + 1 => mAskN set f s h + b2i (sBit set (nI h) && sBit (f h) (nI s))
def mWst (all set : Int32) (f : Nat → Int32) (s : Nat) : Int32 := if mAskN set f s 4 ≤ all - mAskN set f s 4 then all - mAskN set f s 4 else mAskN set f s 4
def mAsk (all set : Int32) (f : Nat → Int32) : Nat → Int32 × Int32
  | 0 => (-1, all)
  | s + 1 => (if (mAsk all set f s).2 ≤ mWst all set f s then (mAsk all set f s).1 else nI s, if (mAsk all set f s).2 ≤ mWst all set f s then (mAsk all set f s).2 else mWst all set f s)
def qRang (ν : Me) (n z : Nat) (way w : Int32) : Int32 × Me :=
  if sIsWay (ν 136 8) way then (if sWithin w 0 1 then
    (if w = 0 then (mFH ν way z 4).1 else (mAsk (mPop (mFH ν way z 4).1 4) (mFH ν way z 4).1 ((mFH ν way z 4).2 151) n).1, (mFH ν way z 4).2) else (-1000000002, ν)) else (-1000000001, ν)
theorem mG.slF {ν : Me} {n d : Nat} (h : mG ν n d) : ∀ i, mG (mSlF ν i) n d := by
  intro i
  induction i with
  | zero => exact h
  | succ i ih => exact (ih.mu (Or.inl rfl)).mu (Or.inl rfl)
theorem slF_fr {ν : Me} : ∀ i, i ≤ 7 → mFr 18 ν (mSlF ν i) := by
  intro i
  induction i with
  | zero => intro _; exact mFr.rfl' 18 ν
  | succ i ih => intro hi; exact ((ih (by omega)).mu (by omega)).mu (by omega)
theorem mSlip_fr {ν : Me} {n : Nat} {way h : Int32} (hw : mWok way n) (h7 : n ≤ 7) : mFr 18 (mCopy ν 0 18) (mSlip ν way h).2 := (slF_fr 7 (by omega)).trans (mRI_fr hw h7)
theorem mG.slip {ν : Me} {n d : Nat} {way h : Int32} (hG : mG ν n d) (hw : mWok way n) : mG (mSlip ν way h).2 n d := hG.copy.fr (mSlip_fr hw hG.2.1)
theorem slip_seen {ν : Me} {n : Nat} {way h : Int32} (hw : mWok way n) (h7 : n ≤ 7) : (mSlip ν way h).2 136 26 = ν 136 26 := by
  rw [(mSlip_fr hw h7).2.1 26 (by decide) (by decide), mCopy, cpy_ne (by decide)]
set_option maxHeartbeats 4000000 in
set_option maxRecDepth 100000 in
theorem l_X10_counting {μ : Me} {e : Nat × (Nat → aC)} {n : Nat} (hn : μ 136 8 = nI n) (h7 : n ≤ 7) : ∀ (m : Nat) (i : Nat), n - i < m → i ≤ n → AW none 1 0 0 mX10_counting 0 0 4 [some (.ref 136), some (.int (mCnt (μ 137) i)), some (.int (nI i))] [] (wS μ e) (a_eq (some (.int (mCnt (μ 137) n))) (wS μ e)) := by
  intro m
  induction m with
  | zero => intro i hm; exact absurd hm (Nat.not_lt_zero _)
  | succ m ih =>
    intro i hm hc
    refine AW.iload_n (n := 5) dX10_counting_4 rfl rfl ?_
    refine AW.aload_n (n := 6) dX10_counting_5 rfl rfl ?_
    refine AW.gi (n := 9) dX10_counting_6 fl_X10_131 s_136 rfl rfl ?_
    refine AW.icmp_ge (n := 12) (t := 51) dX10_counting_9 rfl rfl (fun h9 => ?_) (fun h9 => ?_)
    · have hii : i = n := by have := le_lit (b := n) (x := nI i) rfl (by omega) (by omega) (by rw [← hn]; exact h9); omega
      subst hii
      refine AW.iload_n (n := 52) dX10_counting_51 rfl rfl ?_
      refine AW.iret dX10_counting_52 rfl rfl (Nat.zero_le _) (Nat.zero_le _) ?_
      exact ⟨rfl, rfl⟩
    · have hii : i < n := nle_lit (b := n) (x := nI i) rfl (by omega) (by omega) (by rw [← hn]; exact h9)
      refine AW.iload_n (n := 13) dX10_counting_12 rfl rfl ?_
      refine AW.aload_n (n := 14) dX10_counting_13 rfl rfl ?_
      refine AW.gr (n := 17) dX10_counting_14 fl_X10_7 s_136 rfl rfl ?_
      refine AW.iload_n (n := 18) dX10_counting_17 rfl rfl ?_
      refine AW.ia (n := 19) i dX10_counting_18 s_137 rfl (by omega) (by decide) rfl ?_
      refine AW.iconst (n := 20) (v := 1) dX10_counting_19 rfl rfl ?_
      refine AW.icmp_eq (n := 23) (t := 33) dX10_counting_20 rfl rfl (fun h20 => ?_) (fun h20 => ?_)
      · refine AW.iconst (n := 34) (v := 1) dX10_counting_33 rfl rfl ?_
        refine AW.goto (t := 38) dX10_counting_34 rfl ?_
        refine AW.es1i (Mc := mX10_one) (n := 41) dX10_counting_38 lk_X10_160 k_mX10_one (c_X10_one (b := true)) (Nat.le_of_ble_eq_true rfl) (by decide) (Nat.zero_le _) (Nat.zero_le _) rfl ?_
        refine AW.iload_n (n := 42) dX10_counting_41 rfl rfl ?_
        refine AW.ishl (n := 43) dX10_counting_42 rfl ?_
        refine AW.ior (n := 44) dX10_counting_43 rfl ?_
        refine AW.ist1 (n := 45) dX10_counting_44 (Nat.le_of_ble_eq_true rfl) rfl rfl ?_
        refine AW.inc2 (n := 48) (1) dX10_counting_45 rfl (Nat.le_of_ble_eq_true rfl) rfl rfl ?_
        refine AW.goto (t := 4) dX10_counting_48 rfl ?_
        rw [nI_1]
        refine AW.eqL ?_ (ih (i + 1) (by omega) (by omega))
        simp [mCnt, sCounts, b2i, or0, h20]
      · refine AW.aload_n (n := 24) dX10_counting_23 rfl rfl ?_
        refine AW.gr (n := 27) dX10_counting_24 fl_X10_7 s_136 rfl rfl ?_
        refine AW.iload_n (n := 28) dX10_counting_27 rfl rfl ?_
        refine AW.ia (n := 29) i dX10_counting_28 s_137 rfl (by omega) (by decide) rfl ?_
        refine AW.iconst (n := 30) (v := 4) dX10_counting_29 rfl rfl ?_
        refine AW.icmp_ne (n := 33) (t := 37) dX10_counting_30 rfl rfl (fun h30 => ?_) (fun h30 => ?_)
        · refine AW.iconst (n := 38) (v := 0) dX10_counting_37 rfl rfl ?_
          refine AW.es1i (Mc := mX10_one) (n := 41) dX10_counting_38 lk_X10_160 k_mX10_one (c_X10_one (b := false)) (Nat.le_of_ble_eq_true rfl) (by decide) (Nat.zero_le _) (Nat.zero_le _) rfl ?_
          refine AW.iload_n (n := 42) dX10_counting_41 rfl rfl ?_
          refine AW.ishl (n := 43) dX10_counting_42 rfl ?_
          refine AW.ior (n := 44) dX10_counting_43 rfl ?_
          refine AW.ist1 (n := 45) dX10_counting_44 (Nat.le_of_ble_eq_true rfl) rfl rfl ?_
          refine AW.inc2 (n := 48) (1) dX10_counting_45 rfl (Nat.le_of_ble_eq_true rfl) rfl rfl ?_
          refine AW.goto (t := 4) dX10_counting_48 rfl ?_
          rw [nI_1]
          refine AW.eqL ?_ (ih (i + 1) (by omega) (by omega))
          simp [mCnt, sCounts, b2i, or0, h20, h30]
        · refine AW.iconst (n := 34) (v := 1) dX10_counting_33 rfl rfl ?_
          refine AW.goto (t := 38) dX10_counting_34 rfl ?_
          refine AW.es1i (Mc := mX10_one) (n := 41) dX10_counting_38 lk_X10_160 k_mX10_one (c_X10_one (b := true)) (Nat.le_of_ble_eq_true rfl) (by decide) (Nat.zero_le _) (Nat.zero_le _) rfl ?_
          refine AW.iload_n (n := 42) dX10_counting_41 rfl rfl ?_
          refine AW.ishl (n := 43) dX10_counting_42 rfl ?_
          refine AW.ior (n := 44) dX10_counting_43 rfl ?_
          refine AW.ist1 (n := 45) dX10_counting_44 (Nat.le_of_ble_eq_true rfl) rfl rfl ?_
          refine AW.inc2 (n := 48) (1) dX10_counting_45 rfl (Nat.le_of_ble_eq_true rfl) rfl rfl ?_
          refine AW.goto (t := 4) dX10_counting_48 rfl ?_
          rw [nI_1]
          refine AW.eqL ?_ (ih (i + 1) (by omega) (by omega))
          simp [mCnt, sCounts, b2i, or0, h20, h30]
set_option maxHeartbeats 4000000 in
set_option maxRecDepth 100000 in
theorem c_X10_counting {μ : Me} {e : Nat × (Nat → aC)} {n : Nat} (hn : μ 136 8 = nI n) (h7 : n ≤ 7) : AC 1 0 0 mX10_counting [.ref 136] (wS μ e) (a_eq (some (.int (mCnt (μ 137) n))) (wS μ e)) := by
  refine AC.of (L := [some (.ref 136), none, none]) (j := 2) (by decide) rfl (Nat.le_of_ble_eq_true rfl) ?_
  refine AW.iconst (n := 1) (v := 0) dX10_counting_0 rfl rfl ?_
  refine AW.ist1 (n := 2) dX10_counting_1 (Nat.le_of_ble_eq_true rfl) rfl rfl ?_
  refine AW.iconst (n := 3) (v := 0) dX10_counting_2 rfl rfl ?_
  refine AW.ist2 (n := 4) dX10_counting_3 (Nat.le_of_ble_eq_true rfl) rfl rfl ?_
  exact l_X10_counting hn h7 (n + 1) 0 (by omega) (by omega)
set_option maxHeartbeats 4000000 in
set_option maxRecDepth 100000 in
theorem l_X10_lock66 {μ : Me} {e : Nat × (Nat → aC)} {n y : Nat} {way d w b5 b6 : Int32} {l4 : Int32} {Q : Option Value → aS → Prop} (hn : μ 136 8 = nI n) (h7 : n ≤ 7) (hk : ∀ L9 : Option Value, AW none 5 0 0 mX10_locker 0 0 122 [some (.ref 136), some (.int way), some (.int d), some (.int w), some (.int l4), some (.int b5), some (.int b6), some (.int (nI y)), some (.int (mNear (μ 140) (μ 136 21) d y n)), L9] [] (wS μ e) Q) : ∀ (m : Nat) (i : Nat), n - i < m → i ≤ n → AW none 5 0 0 mX10_locker 0 0 66 [some (.ref 136), some (.int way), some (.int d), some (.int w), some (.int l4), some (.int b5), some (.int b6), some (.int (nI y)), some (.int (mNear (μ 140) (μ 136 21) d y i)), some (.int (nI i))] [] (wS μ e) Q := by
  intro m
  induction m with
  | zero => intro i hm; exact absurd hm (Nat.not_lt_zero _)
  | succ m ih =>
    intro i hm hc
    refine AW.iload (n := 68) dX10_locker_66 rfl rfl ?_
    refine AW.aload_n (n := 69) dX10_locker_68 rfl rfl ?_
    refine AW.gi (n := 72) dX10_locker_69 fl_X10_131 s_136 rfl rfl ?_
    refine AW.icmp_ge (n := 75) (t := 122) dX10_locker_72 rfl rfl (fun h72 => ?_) (fun h72 => ?_)
    · have hii : i = n := by have := le_lit (b := n) (x := nI i) rfl (by omega) (by omega) (by rw [← hn]; exact h72); omega
      subst hii
      exact hk _
    · have hii : i < n := nle_lit (b := n) (x := nI i) rfl (by omega) (by omega) (by rw [← hn]; exact h72)
      refine AW.iload (n := 77) dX10_locker_75 rfl rfl ?_
      refine AW.aload_n (n := 78) dX10_locker_77 rfl rfl ?_
      refine AW.gi (n := 81) dX10_locker_78 fl_X10_179 s_136 rfl rfl ?_
      refine AW.iload (n := 83) dX10_locker_81 rfl rfl ?_
      refine AW.es2i (Mc := mX10_has) (n := 86) dX10_locker_83 lk_X10_154 k_mX10_has (c_X10_has) (Nat.le_of_ble_eq_true rfl) (by decide) (Nat.zero_le _) (Nat.zero_le _) rfl ?_
      refine AW.bif_eq (n := 89) (t := 109) dX10_locker_86 rfl rfl (fun h86 => ?_) (fun h86 => ?_)
      · refine AW.iconst (n := 110) (v := 0) dX10_locker_109 rfl rfl ?_
        refine AW.es1i (Mc := mX10_one) (n := 113) dX10_locker_110 lk_X10_160 k_mX10_one (c_X10_one (b := false)) (Nat.le_of_ble_eq_true rfl) (by decide) (Nat.zero_le _) (Nat.zero_le _) rfl ?_
        refine AW.iadd (n := 114) dX10_locker_113 rfl ?_
        refine AW.ist8 (n := 116) dX10_locker_114 (Nat.le_of_ble_eq_true rfl) rfl rfl ?_
        refine AW.inc9 (n := 119) (1) dX10_locker_116 rfl (Nat.le_of_ble_eq_true rfl) rfl rfl ?_
        refine AW.goto (t := 66) dX10_locker_119 rfl ?_
        rw [nI_1]
        refine AW.eqL ?_ (ih (i + 1) (by omega) (by omega))
        simp [mNear, b2i, h86]
      · refine AW.aload_n (n := 90) dX10_locker_89 rfl rfl ?_
        refine AW.gr (n := 93) dX10_locker_90 fl_X10_20 s_136 rfl rfl ?_
        refine AW.iload (n := 95) dX10_locker_93 rfl rfl ?_
        refine AW.ia (n := 96) i dX10_locker_95 s_140 rfl (by omega) (by decide) rfl ?_
        refine AW.iload (n := 98) dX10_locker_96 rfl rfl ?_
        refine AW.es2i (Mc := mX10_far) (n := 101) dX10_locker_98 lk_X10_185 k_mX10_far (c_X10_far) (Nat.le_of_ble_eq_true rfl) (by decide) (Nat.zero_le _) (Nat.zero_le _) rfl ?_
        refine AW.iload_n (n := 102) dX10_locker_101 rfl rfl ?_
        refine AW.icmp_gt (n := 105) (t := 109) dX10_locker_102 rfl rfl (fun h102 => ?_) (fun h102 => ?_)
        · refine AW.iconst (n := 110) (v := 0) dX10_locker_109 rfl rfl ?_
          refine AW.es1i (Mc := mX10_one) (n := 113) dX10_locker_110 lk_X10_160 k_mX10_one (c_X10_one (b := false)) (Nat.le_of_ble_eq_true rfl) (by decide) (Nat.zero_le _) (Nat.zero_le _) rfl ?_
          refine AW.iadd (n := 114) dX10_locker_113 rfl ?_
          refine AW.ist8 (n := 116) dX10_locker_114 (Nat.le_of_ble_eq_true rfl) rfl rfl ?_
          refine AW.inc9 (n := 119) (1) dX10_locker_116 rfl (Nat.le_of_ble_eq_true rfl) rfl rfl ?_
          refine AW.goto (t := 66) dX10_locker_119 rfl ?_
          rw [nI_1]
          refine AW.eqL ?_ (ih (i + 1) (by omega) (by omega))
          simp [mNear, b2i, h86, h102]
        · refine AW.iconst (n := 106) (v := 1) dX10_locker_105 rfl rfl ?_
          refine AW.goto (t := 110) dX10_locker_106 rfl ?_
          refine AW.es1i (Mc := mX10_one) (n := 113) dX10_locker_110 lk_X10_160 k_mX10_one (c_X10_one (b := true)) (Nat.le_of_ble_eq_true rfl) (by decide) (Nat.zero_le _) (Nat.zero_le _) rfl ?_
          refine AW.iadd (n := 114) dX10_locker_113 rfl ?_
          refine AW.ist8 (n := 116) dX10_locker_114 (Nat.le_of_ble_eq_true rfl) rfl rfl ?_
          refine AW.inc9 (n := 119) (1) dX10_locker_116 rfl (Nat.le_of_ble_eq_true rfl) rfl rfl ?_
          refine AW.goto (t := 66) dX10_locker_119 rfl ?_
          rw [nI_1]
          refine AW.eqL ?_ (ih (i + 1) (by omega) (by omega))
          simp [mNear, b2i, h86, h102]
set_option maxHeartbeats 4000000 in
set_option maxRecDepth 100000 in
theorem l_X10_lock53 {μ : Me} {e : Nat × (Nat → aC)} {n : Nat} {way d w l4 : Int32} (hn : μ 136 8 = nI n) (h7 : n ≤ 7) : ∀ (m : Nat) (y : Nat) (L8 L9 : Option Value), 100 - y < m → y ≤ 100 → AW none 5 0 0 mX10_locker 0 0 53 [some (.ref 136), some (.int way), some (.int d), some (.int w), some (.int l4), some (.int (mLock (μ 140) (μ 136 21) d n y).1), some (.int (mLock (μ 140) (μ 136 21) d n y).2), some (.int (nI y)), L8, L9] [] (wS μ e) (a_eq (some (.int (if w = 0 then (mLock (μ 140) (μ 136 21) d n 100).1 else (mLock (μ 140) (μ 136 21) d n 100).2))) (wS μ e)) := by
  intro m
  induction m with
  | zero => intro y L8 L9 hm; exact absurd hm (Nat.not_lt_zero _)
  | succ m ih =>
    intro y L8 L9 hm hc
    refine AW.iload (n := 55) dX10_locker_53 rfl rfl ?_
    refine AW.bipush (n := 57) (v := 100) dX10_locker_55 rfl rfl ?_
    refine AW.icmp_ge (n := 60) (t := 160) dX10_locker_57 rfl rfl (fun h57 => ?_) (fun h57 => ?_)
    · have hiy : y = 100 := by have := le_lit (b := 100) (x := nI y) rfl (by omega) (by omega) h57; omega
      subst hiy
      refine AW.iload_n (n := 161) dX10_locker_160 rfl rfl ?_
      refine AW.if_ne (n := 164) (t := 169) dX10_locker_161 rfl rfl (fun h161 => ?_) (fun h161 => ?_)
      · refine AW.iload (n := 171) dX10_locker_169 rfl rfl ?_
        refine AW.iret dX10_locker_171 rfl rfl (Nat.zero_le _) (Nat.zero_le _) ?_
        exact ⟨by rw [if_neg h161], rfl⟩
      · refine AW.iload (n := 166) dX10_locker_164 rfl rfl ?_
        refine AW.goto (t := 171) dX10_locker_166 rfl ?_
        refine AW.iret dX10_locker_171 rfl rfl (Nat.zero_le _) (Nat.zero_le _) ?_
        exact ⟨by rw [if_pos h161], rfl⟩
    · have hiy : y < 100 := nle_lit (b := 100) (x := nI y) rfl (by omega) (by omega) h57
      refine AW.iconst (n := 61) (v := 0) dX10_locker_60 rfl rfl ?_
      refine AW.ist8 (n := 63) dX10_locker_61 (Nat.le_of_ble_eq_true rfl) rfl rfl ?_
      refine AW.iconst (n := 64) (v := 0) dX10_locker_63 rfl rfl ?_
      refine AW.ist9 (n := 66) dX10_locker_64 (Nat.le_of_ble_eq_true rfl) rfl rfl ?_
      refine l_X10_lock66 hn h7 (fun L9 => ?_) (n + 1) 0 (by omega) (by omega)
      refine AW.iload (n := 124) dX10_locker_122 rfl rfl ?_
      refine AW.iload (n := 126) dX10_locker_124 rfl rfl ?_
      refine AW.icmp_le (n := 129) (t := 134) dX10_locker_126 rfl rfl (fun h126 => ?_) (fun h126 => ?_)
      · refine AW.iload (n := 136) dX10_locker_134 rfl rfl ?_
        refine AW.ist5 (n := 138) dX10_locker_136 (Nat.le_of_ble_eq_true rfl) rfl rfl ?_
        refine AW.iload (n := 140) dX10_locker_138 rfl rfl ?_
        refine AW.iload (n := 142) dX10_locker_140 rfl rfl ?_
        refine AW.icmp_le (n := 145) (t := 150) dX10_locker_142 rfl rfl (fun h142 => ?_) (fun h142 => ?_)
        · refine AW.iload (n := 152) dX10_locker_150 rfl rfl ?_
          refine AW.ist6 (n := 154) dX10_locker_152 (Nat.le_of_ble_eq_true rfl) rfl rfl ?_
          refine AW.inc7 (n := 157) (1) dX10_locker_154 rfl (Nat.le_of_ble_eq_true rfl) rfl rfl ?_
          refine AW.goto (t := 53) dX10_locker_157 rfl ?_
          rw [nI_1]
          have e9 : mLock (μ 140) (μ 136 21) d n (y + 1) = ((mLock (μ 140) (μ 136 21) d n y).1, (mLock (μ 140) (μ 136 21) d n y).2) := by rw [mLock, if_pos h126, if_pos h126]
          have h9 := fun A B => ih (y + 1) A B (by omega) (by omega)
          simp only [e9] at h9
          exact h9 _ _
        · exact absurd h126 h142
      · refine AW.iload (n := 131) dX10_locker_129 rfl rfl ?_
        refine AW.goto (t := 136) dX10_locker_131 rfl ?_
        refine AW.ist5 (n := 138) dX10_locker_136 (Nat.le_of_ble_eq_true rfl) rfl rfl ?_
        refine AW.iload (n := 140) dX10_locker_138 rfl rfl ?_
        refine AW.iload (n := 142) dX10_locker_140 rfl rfl ?_
        refine AW.icmp_le (n := 145) (t := 150) dX10_locker_142 rfl rfl (fun h142 => ?_) (fun h142 => ?_)
        · exact absurd h142 h126
        · refine AW.iload (n := 147) dX10_locker_145 rfl rfl ?_
          refine AW.goto (t := 152) dX10_locker_147 rfl ?_
          refine AW.ist6 (n := 154) dX10_locker_152 (Nat.le_of_ble_eq_true rfl) rfl rfl ?_
          refine AW.inc7 (n := 157) (1) dX10_locker_154 rfl (Nat.le_of_ble_eq_true rfl) rfl rfl ?_
          refine AW.goto (t := 53) dX10_locker_157 rfl ?_
          rw [nI_1]
          have e9 : mLock (μ 140) (μ 136 21) d n (y + 1) = (nI y, mNear (μ 140) (μ 136 21) d y n) := by rw [mLock, if_neg h126, if_neg h126]
          have h9 := fun A B => ih (y + 1) A B (by omega) (by omega)
          simp only [e9] at h9
          exact h9 _ _
set_option maxHeartbeats 4000000 in
set_option maxRecDepth 100000 in
theorem c_X10_locker {μ : Me} {e : Nat × (Nat → aC)} {n d : Nat} {way dd w : Int32} (hG : mG μ n d) : AC 5 0 0 mX10_locker [.ref 136, .int way, .int dd, .int w] (wS μ e) (a_eq (some (.int ((qLocker μ n way dd w).1))) (wS ((qLocker μ n way dd w).2) e)) := by
  refine AC.of (L := [some (.ref 136), some (.int way), some (.int dd), some (.int w), none, none, none, none, none, none]) (j := 6) (by decide) rfl (Nat.le_of_ble_eq_true rfl) ?_
  refine AW.aload_n (n := 1) dX10_locker_0 rfl rfl ?_
  refine AW.iload_n (n := 2) dX10_locker_1 rfl rfl ?_
  refine AW.ev1i (Mc := mX10_isWay) (n := 5) dX10_locker_2 lk_X10_200 k_mX10_isWay s_136 rfl rfl (c_X10_isWay hG.1 hG.2.1) (Nat.le_of_ble_eq_true rfl) (by decide) (Nat.zero_le _) (Nat.zero_le _) rfl ?_
  refine AW.bif_ne (n := 8) (t := 11) dX10_locker_5 rfl rfl (fun h5 => ?_) (fun h5 => ?_)
  · refine AW.iload_n (n := 12) dX10_locker_11 rfl rfl ?_
    refine AW.i2l (n := 13) dX10_locker_12 rfl ?_
    refine AW.lconst (n := 14) (v := 0) dX10_locker_13 rfl rfl ?_
    refine AW.ldc2 (n := 17) dX10_locker_14 kl_X10_227 rfl ?_
    refine AW.es3i (Mc := mX10_in) (n := 20) dX10_locker_17 lk_X10_68 k_mX10_in (c_X10_in dd 0 99 rfl (by decide) (by decide)) (Nat.le_of_ble_eq_true rfl) (by decide) (Nat.zero_le _) (Nat.zero_le _) rfl ?_
    refine AW.bif_eq (n := 23) (t := 33) dX10_locker_20 rfl rfl (fun h20 => ?_) (fun h20 => ?_)
    · refine AW.ldc (n := 35) dX10_locker_33 kc_X10_72 rfl ?_
      refine AW.iret dX10_locker_35 rfl rfl (Nat.zero_le _) (Nat.zero_le _) ?_
      exact ⟨by simp [qLocker, h5, h20], by simp [qLocker, h5, h20]⟩
    · refine AW.iload_n (n := 24) dX10_locker_23 rfl rfl ?_
      refine AW.i2l (n := 25) dX10_locker_24 rfl ?_
      refine AW.lconst (n := 26) (v := 0) dX10_locker_25 rfl rfl ?_
      refine AW.lconst (n := 27) (v := 1) dX10_locker_26 rfl rfl ?_
      refine AW.es3i (Mc := mX10_in) (n := 30) dX10_locker_27 lk_X10_68 k_mX10_in (c_X10_in w 0 1 rfl (by decide) (by decide)) (Nat.le_of_ble_eq_true rfl) (by decide) (Nat.zero_le _) (Nat.zero_le _) rfl ?_
      refine AW.bif_ne (n := 33) (t := 36) dX10_locker_30 rfl rfl (fun h30 => ?_) (fun h30 => ?_)
      · have hw := mWok.of hG.1 hG.2.1 h5
        refine AW.aload_n (n := 37) dX10_locker_36 rfl rfl ?_
        refine AW.iload_n (n := 38) dX10_locker_37 rfl rfl ?_
        refine AW.iconst (n := 39) (v := 0) dX10_locker_38 rfl rfl ?_
        refine AW.ev2i (Mc := mX10_tryRound) (n := 42) dX10_locker_39 lk_X10_224 k_mX10_tryRound s_136 rfl rfl (c_X10_tryRound (by decide) hw hG) (Nat.le_of_ble_eq_true rfl) (by decide) (Nat.zero_le _) (Nat.zero_le _) rfl ?_
        refine AW.ist4 (n := 44) dX10_locker_42 (Nat.le_of_ble_eq_true rfl) rfl rfl ?_
        refine AW.iconst (n := 45) (v := 0) dX10_locker_44 rfl rfl ?_
        refine AW.ist5 (n := 47) dX10_locker_45 (Nat.le_of_ble_eq_true rfl) rfl rfl ?_
        refine AW.iconst (n := 48) (v := 0) dX10_locker_47 rfl rfl ?_
        refine AW.ist6 (n := 50) dX10_locker_48 (Nat.le_of_ble_eq_true rfl) rfl rfl ?_
        refine AW.iconst (n := 51) (v := 0) dX10_locker_50 rfl rfl ?_
        refine AW.ist7 (n := 53) dX10_locker_51 (Nat.le_of_ble_eq_true rfl) rfl rfl ?_
        have hG2 := hG.try (haste := 0) hw
        have e140 : (mTry μ way 0).2 140 = μ 140 := by rw [(mTry_fr hw hG.2.1).1 140 (by decide) (by decide) (by decide), mCopy, cpy_ne (by decide)]
        rw [qLocker, if_pos h5, if_pos h20, if_pos h30, ← e140]
        exact l_X10_lock53 (μ := (mTry μ way 0).2) hG2.1 hG2.2.1 101 0 _ _ (by omega) (by omega)
      · refine AW.ldc (n := 35) dX10_locker_33 kc_X10_72 rfl ?_
        refine AW.iret dX10_locker_35 rfl rfl (Nat.zero_le _) (Nat.zero_le _) ?_
        exact ⟨by simp [qLocker, h5, h20, h30], by simp [qLocker, h5, h20, h30]⟩
  · refine AW.ldc (n := 10) dX10_locker_8 kc_X10_167 rfl ?_
    refine AW.iret dX10_locker_10 rfl rfl (Nat.zero_le _) (Nat.zero_le _) ?_
    exact ⟨by simp [qLocker, h5], by simp [qLocker, h5]⟩
set_option maxHeartbeats 4000000 in
set_option maxRecDepth 100000 in
theorem l_X10_slips9 {μ : Me} {e : Nat × (Nat → aC)} {n d : Nat} {way h : Int32} (hh : sWithin h 0 3 = true) (hw : mWok way n) (hG : mG μ n d) : ∀ (m : Nat) (i : Nat), 7 - i < m → i ≤ 7 → AW none 4 0 0 mX10_slipsBy 0 0 9 [some (.ref 136), some (.int way), some (.int h), some (.int (nI i))] [] (wS (mSlF (mCopy μ 0 18) i) e) (a_eq (some (.int ((mSlip μ way h).2 136 21))) (wS (mSlip μ way h).2 e)) := by
  intro m
  induction m with
  | zero => intro i hm; exact absurd hm (Nat.not_lt_zero _)
  | succ m ih =>
    intro i hm hc
    refine AW.iload_n (n := 10) dX10_slipsBy_9 rfl rfl ?_
    refine AW.bipush (n := 12) (v := 7) dX10_slipsBy_10 rfl rfl ?_
    refine AW.icmp_ge (n := 15) (t := 41) dX10_slipsBy_12 rfl rfl (fun h12 => ?_) (fun h12 => ?_)
    · have hii : i = 7 := by have := le_lit (b := 7) (x := nI i) rfl (by omega) (by omega) h12; omega
      subst hii
      refine AW.aload_n (n := 42) dX10_slipsBy_41 rfl rfl ?_
      refine AW.bipush (n := 44) (v := 18) dX10_slipsBy_42 rfl rfl ?_
      refine AW.iload_n (n := 45) dX10_slipsBy_44 rfl rfl ?_
      refine AW.iload_n (n := 46) dX10_slipsBy_45 rfl rfl ?_
      refine AW.ev3i (Mc := mX10_roundIn) (n := 49) dX10_slipsBy_46 lk_X10_196 k_mX10_roundIn s_136 rfl rfl (c_X10_roundIn (b := 18) (by omega) hh hw (hG.copy.slF 7)) (Nat.le_of_ble_eq_true rfl) (by decide) (Nat.zero_le _) (Nat.zero_le _) rfl ?_
      refine AW.ist3 (n := 50) dX10_slipsBy_49 (Nat.le_of_ble_eq_true rfl) rfl rfl ?_
      refine AW.aload_n (n := 51) dX10_slipsBy_50 rfl rfl ?_
      refine AW.gi (n := 54) dX10_slipsBy_51 fl_X10_179 s_136 rfl rfl ?_
      refine AW.iret dX10_slipsBy_54 rfl rfl (Nat.zero_le _) (Nat.zero_le _) ?_
      exact ⟨rfl, rfl⟩
    · have hii : i < 7 := nle_lit (b := 7) (x := nI i) rfl (by omega) (by omega) h12
      refine AW.aload_n (n := 16) dX10_slipsBy_15 rfl rfl ?_
      refine AW.gr (n := 19) dX10_slipsBy_16 fl_X10_7 s_136 rfl rfl ?_
      refine AW.bipush (n := 21) (v := 18) dX10_slipsBy_19 rfl rfl ?_
      refine AW.iload_n (n := 22) dX10_slipsBy_21 rfl rfl ?_
      refine AW.iadd (n := 23) dX10_slipsBy_22 rfl ?_
      refine AW.iconst (n := 24) (v := 1) dX10_slipsBy_23 rfl rfl ?_
      refine AW.is (n := 25) (18 + i) dX10_slipsBy_24 s_137 (nI_add 18 i) (by omega) (by decide) rfl ?_
      refine AW.aload_n (n := 26) dX10_slipsBy_25 rfl rfl ?_
      refine AW.gr (n := 29) dX10_slipsBy_26 fl_X10_7 s_136 rfl rfl ?_
      refine AW.bipush (n := 31) (v := 25) dX10_slipsBy_29 rfl rfl ?_
      refine AW.iload_n (n := 32) dX10_slipsBy_31 rfl rfl ?_
      refine AW.iadd (n := 33) dX10_slipsBy_32 rfl ?_
      refine AW.iconst (n := 34) (v := 0) dX10_slipsBy_33 rfl rfl ?_
      refine AW.is (n := 35) (25 + i) dX10_slipsBy_34 s_137 (nI_add 25 i) (by omega) (by decide) rfl ?_
      refine AW.inc3 (n := 38) (1) dX10_slipsBy_35 rfl (Nat.le_of_ble_eq_true rfl) rfl rfl ?_
      refine AW.goto (t := 9) dX10_slipsBy_38 rfl ?_
      rw [nI_1]
      exact ih (i + 1) (by omega) (by omega)
set_option maxHeartbeats 4000000 in
set_option maxRecDepth 100000 in
theorem c_X10_slipsBy {μ : Me} {e : Nat × (Nat → aC)} {n d : Nat} {way h : Int32} (hh : sWithin h 0 3 = true) (hw : mWok way n) (hG : mG μ n d) : AC 4 0 0 mX10_slipsBy [.ref 136, .int way, .int h] (wS μ e) (a_eq (some (.int ((mSlip μ way h).2 136 21))) (wS ((mSlip μ way h).2) e)) := by
  refine AC.of (L := [some (.ref 136), some (.int way), some (.int h), none]) (j := 1) (by decide) rfl (Nat.le_of_ble_eq_true rfl) ?_
  refine AW.aload_n (n := 1) dX10_slipsBy_0 rfl rfl ?_
  refine AW.iconst (n := 2) (v := 0) dX10_slipsBy_1 rfl rfl ?_
  refine AW.bipush (n := 4) (v := 18) dX10_slipsBy_2 rfl rfl ?_
  refine AW.ev2v (Mc := mX10_copy) (n := 7) dX10_slipsBy_4 lk_X10_192 k_mX10_copy s_136 rfl rfl (c_X10_copy (x := 0) (y := 18) (by omega) (by omega)) (Nat.le_of_ble_eq_true rfl) (by decide) (Nat.zero_le _) (Nat.zero_le _) rfl ?_
  refine AW.iconst (n := 8) (v := 0) dX10_slipsBy_7 rfl rfl ?_
  refine AW.ist3 (n := 9) dX10_slipsBy_8 (Nat.le_of_ble_eq_true rfl) rfl rfl ?_
  exact l_X10_slips9 hh hw hG 8 0 (by omega) (by omega)
set_option maxHeartbeats 4000000 in
set_option maxRecDepth 100000 in
theorem l_X10_fh27 {μ : Me} {e : Nat × (Nat → aC)} {z h : Nat} {way set : Int32} {Q : Option Value → aS → Prop} (hz : μ 136 26 = nI z) (hz9 : z ≤ 6) (hh : h < 4) (hk : ∀ L5 : Option Value, AW none 5 0 0 mX10_findHastes 0 0 80 [some (.ref 136), some (.int way), some (.int set), some (.int (nI h)), some (.int (b2i (mFit (μ 151 h) (μ 149) (μ 150) z))), L5] [] (wS μ e) Q) : ∀ (m : Nat) (k : Nat), z - k < m → k ≤ z → AW none 5 0 0 mX10_findHastes 0 0 27 [some (.ref 136), some (.int way), some (.int set), some (.int (nI h)), some (.int (b2i (mFit (μ 151 h) (μ 149) (μ 150) k))), some (.int (nI k))] [] (wS μ e) Q := by
  intro m
  induction m with
  | zero => intro k hm; exact absurd hm (Nat.not_lt_zero _)
  | succ m ih =>
    intro k hm hc
    refine AW.iload (n := 29) dX10_findHastes_27 rfl rfl ?_
    refine AW.aload_n (n := 30) dX10_findHastes_29 rfl rfl ?_
    refine AW.gi (n := 33) dX10_findHastes_30 fl_X10_137 s_136 rfl rfl ?_
    refine AW.icmp_ge (n := 36) (t := 80) dX10_findHastes_33 rfl rfl (fun h33 => ?_) (fun h33 => ?_)
    · have hik : k = z := by have := le_lit (b := z) (x := nI k) rfl (by omega) (by omega) (by rw [← hz]; exact h33); omega
      subst hik
      exact hk _
    · have hik : k < z := nle_lit (b := z) (x := nI k) rfl (by omega) (by omega) (by rw [← hz]; exact h33)
      refine AW.iload (n := 38) dX10_findHastes_36 rfl rfl ?_
      refine AW.bif_eq (n := 41) (t := 71) dX10_findHastes_38 rfl rfl (fun h38 => ?_) (fun h38 => ?_)
      · refine AW.iconst (n := 72) (v := 0) dX10_findHastes_71 rfl rfl ?_
        refine AW.ist4 (n := 74) dX10_findHastes_72 (Nat.le_of_ble_eq_true rfl) rfl rfl ?_
        refine AW.inc5 (n := 77) (1) dX10_findHastes_74 rfl (Nat.le_of_ble_eq_true rfl) rfl rfl ?_
        refine AW.goto (t := 27) dX10_findHastes_77 rfl ?_
        rw [nI_1]
        have e9 : mFit (μ 151 h) (μ 149) (μ 150) (k + 1) = false := by simp [mFit, h38]
        refine AW.eqL ?_ (ih (k + 1) (by omega) (by omega))
        rw [e9]
        rfl
      · refine AW.aload_n (n := 42) dX10_findHastes_41 rfl rfl ?_
        refine AW.gr (n := 45) dX10_findHastes_42 fl_X10_57 s_136 rfl rfl ?_
        refine AW.iload_n (n := 46) dX10_findHastes_45 rfl rfl ?_
        refine AW.ia (n := 47) h dX10_findHastes_46 s_151 rfl (by omega) (by decide) rfl ?_
        refine AW.aload_n (n := 48) dX10_findHastes_47 rfl rfl ?_
        refine AW.gr (n := 51) dX10_findHastes_48 fl_X10_51 s_136 rfl rfl ?_
        refine AW.iload (n := 53) dX10_findHastes_51 rfl rfl ?_
        refine AW.ia (n := 54) k dX10_findHastes_53 s_149 rfl (by omega) (by decide) rfl ?_
        refine AW.es2i (Mc := mX10_has) (n := 57) dX10_findHastes_54 lk_X10_154 k_mX10_has (c_X10_has) (Nat.le_of_ble_eq_true rfl) (by decide) (Nat.zero_le _) (Nat.zero_le _) rfl ?_
        refine AW.aload_n (n := 58) dX10_findHastes_57 rfl rfl ?_
        refine AW.gr (n := 61) dX10_findHastes_58 fl_X10_54 s_136 rfl rfl ?_
        refine AW.iload (n := 63) dX10_findHastes_61 rfl rfl ?_
        refine AW.za (n := 64) k dX10_findHastes_63 s_150 rfl (by omega) (by decide) rfl ?_
        refine AW.icmp_ne (n := 67) (t := 71) dX10_findHastes_64 rfl rfl (fun h64 => ?_) (fun h64 => ?_)
        · refine AW.iconst (n := 72) (v := 0) dX10_findHastes_71 rfl rfl ?_
          refine AW.ist4 (n := 74) dX10_findHastes_72 (Nat.le_of_ble_eq_true rfl) rfl rfl ?_
          refine AW.inc5 (n := 77) (1) dX10_findHastes_74 rfl (Nat.le_of_ble_eq_true rfl) rfl rfl ?_
          refine AW.goto (t := 27) dX10_findHastes_77 rfl ?_
          rw [nI_1]
          have e9 : mFit (μ 151 h) (μ 149) (μ 150) (k + 1) = false := by simp [mFit, h38, h64]
          refine AW.eqL ?_ (ih (k + 1) (by omega) (by omega))
          rw [e9]
          rfl
        · refine AW.iconst (n := 68) (v := 1) dX10_findHastes_67 rfl rfl ?_
          refine AW.goto (t := 72) dX10_findHastes_68 rfl ?_
          refine AW.ist4 (n := 74) dX10_findHastes_72 (Nat.le_of_ble_eq_true rfl) rfl rfl ?_
          refine AW.inc5 (n := 77) (1) dX10_findHastes_74 rfl (Nat.le_of_ble_eq_true rfl) rfl rfl ?_
          refine AW.goto (t := 27) dX10_findHastes_77 rfl ?_
          rw [nI_1]
          have e9 : mFit (μ 151 h) (μ 149) (μ 150) (k + 1) = true := by simp [mFit, h38, h64]
          refine AW.eqL ?_ (ih (k + 1) (by omega) (by omega))
          rw [e9]
          rfl
theorem fh_fr {ν : Me} {n d z : Nat} {way : Int32} (hw : mWok way n) (hG : mG ν n d) : ∀ h, mG (mFH ν way z h).2 n d ∧ (mFH ν way z h).2 136 26 = ν 136 26 := by
  intro h
  induction h with
  | zero => exact ⟨hG, rfl⟩
  | succ h ih =>
    refine ⟨(ih.1.slip hw).mu (by omega), ?_⟩
    rw [mFH, mFHm]
    dsimp only
    rw [mu_ne (by decide), slip_seen hw hG.2.1]
    exact ih.2
theorem win4 {h : Nat} (hh : h < 4) : sWithin (nI h) 0 3 = true := win_nI (a := 0) (b := 3) (by omega) (by omega) (by omega)
set_option maxHeartbeats 4000000 in
set_option maxRecDepth 100000 in
theorem l_X10_fh4 {μ : Me} {e : Nat × (Nat → aC)} {n d z : Nat} {way : Int32} (hw : mWok way n) (hG : mG μ n d) (hz : μ 136 26 = nI z) (hz9 : z ≤ 6) : ∀ (m : Nat) (h : Nat) (L4 L5 : Option Value), 4 - h < m → h ≤ 4 → AW none 5 0 0 mX10_findHastes 0 0 4 [some (.ref 136), some (.int way), some (.int (mFH μ way z h).1), some (.int (nI h)), L4, L5] [] (wS ((mFH μ way z h).2) e) (a_eq (some (.int (mFH μ way z 4).1)) (wS (mFH μ way z 4).2 e)) := by
  intro m
  induction m with
  | zero => intro h L4 L5 hm; exact absurd hm (Nat.not_lt_zero _)
  | succ m ih =>
    intro h L4 L5 hm hc
    refine AW.iload_n (n := 5) dX10_findHastes_4 rfl rfl ?_
    refine AW.iconst (n := 6) (v := 4) dX10_findHastes_5 rfl rfl ?_
    refine AW.icmp_ge (n := 9) (t := 96) dX10_findHastes_6 rfl rfl (fun h6 => ?_) (fun h6 => ?_)
    · have hih : h = 4 := by have := le_lit (b := 4) (x := nI h) rfl (by omega) (by omega) h6; omega
      subst hih
      refine AW.iload_n (n := 97) dX10_findHastes_96 rfl rfl ?_
      refine AW.iret dX10_findHastes_97 rfl rfl (Nat.zero_le _) (Nat.zero_le _) ?_
      exact ⟨rfl, rfl⟩
    · have hih : h < 4 := nle_lit (b := 4) (x := nI h) rfl (by omega) (by omega) h6
      have hf := fh_fr (z := z) hw hG h
      refine AW.aload_n (n := 10) dX10_findHastes_9 rfl rfl ?_
      refine AW.gr (n := 13) dX10_findHastes_10 fl_X10_57 s_136 rfl rfl ?_
      refine AW.iload_n (n := 14) dX10_findHastes_13 rfl rfl ?_
      refine AW.aload_n (n := 15) dX10_findHastes_14 rfl rfl ?_
      refine AW.iload_n (n := 16) dX10_findHastes_15 rfl rfl ?_
      refine AW.iload_n (n := 17) dX10_findHastes_16 rfl rfl ?_
      refine AW.ev2i (Mc := mX10_slipsBy) (n := 20) dX10_findHastes_17 lk_X10_253 k_mX10_slipsBy s_136 rfl rfl (c_X10_slipsBy (win4 hih) hw hf.1) (Nat.le_of_ble_eq_true rfl) (by decide) (Nat.zero_le _) (Nat.zero_le _) rfl ?_
      refine AW.is (n := 21) h dX10_findHastes_20 s_151 rfl (by omega) (by decide) rfl ?_
      refine AW.iconst (n := 22) (v := 1) dX10_findHastes_21 rfl rfl ?_
      refine AW.ist4 (n := 24) dX10_findHastes_22 (Nat.le_of_ble_eq_true rfl) rfl rfl ?_
      refine AW.iconst (n := 25) (v := 0) dX10_findHastes_24 rfl rfl ?_
      refine AW.ist5 (n := 27) dX10_findHastes_25 (Nat.le_of_ble_eq_true rfl) rfl rfl ?_
      refine l_X10_fh27 (μ := mFHm (mFH μ way z h).2 way h) (z := z) ?_ hz9 hih (fun L5 => ?_) (z + 1) 0 (by omega) (by omega)
      · rw [mFHm, mu_ne (by decide), slip_seen hw hG.2.1, hf.2, hz]
      · refine AW.iload_n (n := 81) dX10_findHastes_80 rfl rfl ?_
        refine AW.iload (n := 83) dX10_findHastes_81 rfl rfl ?_
        refine AW.es1i (Mc := mX10_one) (n := 86) dX10_findHastes_83 lk_X10_160 k_mX10_one (c_X10_one) (Nat.le_of_ble_eq_true rfl) (by decide) (Nat.zero_le _) (Nat.zero_le _) rfl ?_
        refine AW.iload_n (n := 87) dX10_findHastes_86 rfl rfl ?_
        refine AW.ishl (n := 88) dX10_findHastes_87 rfl ?_
        refine AW.ior (n := 89) dX10_findHastes_88 rfl ?_
        refine AW.ist2 (n := 90) dX10_findHastes_89 (Nat.le_of_ble_eq_true rfl) rfl rfl ?_
        refine AW.inc3 (n := 93) (1) dX10_findHastes_90 rfl (Nat.le_of_ble_eq_true rfl) rfl rfl ?_
        refine AW.goto (t := 4) dX10_findHastes_93 rfl ?_
        rw [nI_1]
        exact ih (h + 1) _ _ (by omega) (by omega)
set_option maxHeartbeats 4000000 in
set_option maxRecDepth 100000 in
theorem c_X10_findHastes {μ : Me} {e : Nat × (Nat → aC)} {n d z : Nat} {way : Int32} (hw : mWok way n) (hG : mG μ n d) (hz : μ 136 26 = nI z) (hz9 : z ≤ 6) : AC 5 0 0 mX10_findHastes [.ref 136, .int way] (wS μ e) (a_eq (some (.int ((mFH μ way z 4).1))) (wS ((mFH μ way z 4).2) e)) := by
  refine AC.of (L := [some (.ref 136), some (.int way), none, none, none, none]) (j := 4) (by decide) rfl (Nat.le_of_ble_eq_true rfl) ?_
  refine AW.iconst (n := 1) (v := 0) dX10_findHastes_0 rfl rfl ?_
  refine AW.ist2 (n := 2) dX10_findHastes_1 (Nat.le_of_ble_eq_true rfl) rfl rfl ?_
  refine AW.iconst (n := 3) (v := 0) dX10_findHastes_2 rfl rfl ?_
  refine AW.ist3 (n := 4) dX10_findHastes_3 (Nat.le_of_ble_eq_true rfl) rfl rfl ?_
  exact l_X10_fh4 hw hG hz hz9 5 0 _ _ (by omega) (by omega)
set_option maxHeartbeats 4000000 in
set_option maxRecDepth 100000 in
theorem l_X10_rg90 {μ : Me} {e : Nat × (Nat → aC)} {s : Nat} {way w set all b5 b6 : Int32} {Q : Option Value → aS → Prop} (hk : ∀ x : Int32, AW none 6 0 0 mX10_rang 0 0 139 [some (.ref 136), some (.int way), some (.int w), some (.int set), some (.int all), some (.int b5), some (.int b6), some (.int (nI s)), some (.int (mAskN set (μ 151) s 4)), some (.int x)] [] (wS μ e) Q) : ∀ (m : Nat) (h : Nat), 4 - h < m → h ≤ 4 → AW none 6 0 0 mX10_rang 0 0 90 [some (.ref 136), some (.int way), some (.int w), some (.int set), some (.int all), some (.int b5), some (.int b6), some (.int (nI s)), some (.int (mAskN set (μ 151) s h)), some (.int (nI h))] [] (wS μ e) Q := by
  intro m
  induction m with
  | zero => intro h hm; exact absurd hm (Nat.not_lt_zero _)
  | succ m ih =>
    intro h hm hc
    refine AW.iload (n := 92) dX10_rang_90 rfl rfl ?_
    refine AW.iconst (n := 93) (v := 4) dX10_rang_92 rfl rfl ?_
    refine AW.icmp_ge (n := 96) (t := 139) dX10_rang_93 rfl rfl (fun h93 => ?_) (fun h93 => ?_)
    · have hih : h = 4 := by have := le_lit (b := 4) (x := nI h) rfl (by omega) (by omega) h93; omega
      subst hih
      exact hk _
    · have hih : h < 4 := nle_lit (b := 4) (x := nI h) rfl (by omega) (by omega) h93
      refine AW.iload (n := 98) dX10_rang_96 rfl rfl ?_
      refine AW.iload_n (n := 99) dX10_rang_98 rfl rfl ?_
      refine AW.iload (n := 101) dX10_rang_99 rfl rfl ?_
      refine AW.es2i (Mc := mX10_has) (n := 104) dX10_rang_101 lk_X10_154 k_mX10_has (c_X10_has) (Nat.le_of_ble_eq_true rfl) (by decide) (Nat.zero_le _) (Nat.zero_le _) rfl ?_
      refine AW.bif_eq (n := 107) (t := 126) dX10_rang_104 rfl rfl (fun h104 => ?_) (fun h104 => ?_)
      · refine AW.iconst (n := 127) (v := 0) dX10_rang_126 rfl rfl ?_
        refine AW.es1i (Mc := mX10_one) (n := 130) dX10_rang_127 lk_X10_160 k_mX10_one (c_X10_one (b := false)) (Nat.le_of_ble_eq_true rfl) (by decide) (Nat.zero_le _) (Nat.zero_le _) rfl ?_
        refine AW.iadd (n := 131) dX10_rang_130 rfl ?_
        refine AW.ist8 (n := 133) dX10_rang_131 (Nat.le_of_ble_eq_true rfl) rfl rfl ?_
        refine AW.inc9 (n := 136) (1) dX10_rang_133 rfl (Nat.le_of_ble_eq_true rfl) rfl rfl ?_
        refine AW.goto (t := 90) dX10_rang_136 rfl ?_
        rw [nI_1]
        refine AW.eqL ?_ (ih (h + 1) (by omega) (by omega))
        simp [mAskN, b2i, h104]
      · refine AW.aload_n (n := 108) dX10_rang_107 rfl rfl ?_
        refine AW.gr (n := 111) dX10_rang_108 fl_X10_57 s_136 rfl rfl ?_
        refine AW.iload (n := 113) dX10_rang_111 rfl rfl ?_
        refine AW.ia (n := 114) h dX10_rang_113 s_151 rfl (by omega) (by decide) rfl ?_
        refine AW.iload (n := 116) dX10_rang_114 rfl rfl ?_
        refine AW.es2i (Mc := mX10_has) (n := 119) dX10_rang_116 lk_X10_154 k_mX10_has (c_X10_has) (Nat.le_of_ble_eq_true rfl) (by decide) (Nat.zero_le _) (Nat.zero_le _) rfl ?_
        refine AW.bif_eq (n := 122) (t := 126) dX10_rang_119 rfl rfl (fun h119 => ?_) (fun h119 => ?_)
        · refine AW.iconst (n := 127) (v := 0) dX10_rang_126 rfl rfl ?_
          refine AW.es1i (Mc := mX10_one) (n := 130) dX10_rang_127 lk_X10_160 k_mX10_one (c_X10_one (b := false)) (Nat.le_of_ble_eq_true rfl) (by decide) (Nat.zero_le _) (Nat.zero_le _) rfl ?_
          refine AW.iadd (n := 131) dX10_rang_130 rfl ?_
          refine AW.ist8 (n := 133) dX10_rang_131 (Nat.le_of_ble_eq_true rfl) rfl rfl ?_
          refine AW.inc9 (n := 136) (1) dX10_rang_133 rfl (Nat.le_of_ble_eq_true rfl) rfl rfl ?_
          refine AW.goto (t := 90) dX10_rang_136 rfl ?_
          rw [nI_1]
          refine AW.eqL ?_ (ih (h + 1) (by omega) (by omega))
          simp [mAskN, b2i, h104, h119]
        · refine AW.iconst (n := 123) (v := 1) dX10_rang_122 rfl rfl ?_
          refine AW.goto (t := 127) dX10_rang_123 rfl ?_
          refine AW.es1i (Mc := mX10_one) (n := 130) dX10_rang_127 lk_X10_160 k_mX10_one (c_X10_one (b := true)) (Nat.le_of_ble_eq_true rfl) (by decide) (Nat.zero_le _) (Nat.zero_le _) rfl ?_
          refine AW.iadd (n := 131) dX10_rang_130 rfl ?_
          refine AW.ist8 (n := 133) dX10_rang_131 (Nat.le_of_ble_eq_true rfl) rfl rfl ?_
          refine AW.inc9 (n := 136) (1) dX10_rang_133 rfl (Nat.le_of_ble_eq_true rfl) rfl rfl ?_
          refine AW.goto (t := 90) dX10_rang_136 rfl ?_
          rw [nI_1]
          refine AW.eqL ?_ (ih (h + 1) (by omega) (by omega))
          simp [mAskN, b2i, h104, h119]
set_option maxHeartbeats 4000000 in
set_option maxRecDepth 100000 in
theorem l_X10_rg75 {μ : Me} {e : Nat × (Nat → aC)} {n : Nat} {way w set all : Int32} (hn : μ 136 8 = nI n) (h7 : n ≤ 7) : ∀ (m : Nat) (s : Nat) (L8 L9 : Option Value), n - s < m → s ≤ n → AW none 6 0 0 mX10_rang 0 0 75 [some (.ref 136), some (.int way), some (.int w), some (.int set), some (.int all), some (.int (mAsk all set (μ 151) s).1), some (.int (mAsk all set (μ 151) s).2), some (.int (nI s)), L8, L9] [] (wS μ e) (a_eq (some (.int (mAsk all set (μ 151) n).1)) (wS μ e)) := by
  intro m
  induction m with
  | zero => intro s L8 L9 hm; exact absurd hm (Nat.not_lt_zero _)
  | succ m ih =>
    intro s L8 L9 hm hc
    refine AW.iload (n := 77) dX10_rang_75 rfl rfl ?_
    refine AW.aload_n (n := 78) dX10_rang_77 rfl rfl ?_
    refine AW.gi (n := 81) dX10_rang_78 fl_X10_131 s_136 rfl rfl ?_
    refine AW.icmp_ge (n := 84) (t := 199) dX10_rang_81 rfl rfl (fun h81 => ?_) (fun h81 => ?_)
    · have his : s = n := by have := le_lit (b := n) (x := nI s) rfl (by omega) (by omega) (by rw [← hn]; exact h81); omega
      subst his
      refine AW.iload (n := 201) dX10_rang_199 rfl rfl ?_
      refine AW.iret dX10_rang_201 rfl rfl (Nat.zero_le _) (Nat.zero_le _) ?_
      exact ⟨rfl, rfl⟩
    · have his : s < n := nle_lit (b := n) (x := nI s) rfl (by omega) (by omega) (by rw [← hn]; exact h81)
      refine AW.iconst (n := 85) (v := 0) dX10_rang_84 rfl rfl ?_
      refine AW.ist8 (n := 87) dX10_rang_85 (Nat.le_of_ble_eq_true rfl) rfl rfl ?_
      refine AW.iconst (n := 88) (v := 0) dX10_rang_87 rfl rfl ?_
      refine AW.ist9 (n := 90) dX10_rang_88 (Nat.le_of_ble_eq_true rfl) rfl rfl ?_
      refine l_X10_rg90 (fun x => ?_) 5 0 (by omega) (by omega)
      refine AW.iload (n := 141) dX10_rang_139 rfl rfl ?_
      refine AW.iload (n := 143) dX10_rang_141 rfl rfl ?_
      refine AW.iload (n := 145) dX10_rang_143 rfl rfl ?_
      refine AW.isub (n := 146) dX10_rang_145 rfl ?_
      refine AW.icmp_le (n := 149) (t := 154) dX10_rang_146 rfl rfl (fun h146 => ?_) (fun h146 => ?_)
      · refine AW.iload (n := 156) dX10_rang_154 rfl rfl ?_
        refine AW.iload (n := 158) dX10_rang_156 rfl rfl ?_
        refine AW.isub (n := 159) dX10_rang_158 rfl ?_
        refine AW.ist9 (n := 161) dX10_rang_159 (Nat.le_of_ble_eq_true rfl) rfl rfl ?_
        refine AW.iload (n := 163) dX10_rang_161 rfl rfl ?_
        refine AW.iload (n := 165) dX10_rang_163 rfl rfl ?_
        refine AW.icmp_ge (n := 168) (t := 173) dX10_rang_165 rfl rfl (fun h165 => ?_) (fun h165 => ?_)
        · refine AW.iload (n := 175) dX10_rang_173 rfl rfl ?_
          refine AW.ist5 (n := 177) dX10_rang_175 (Nat.le_of_ble_eq_true rfl) rfl rfl ?_
          refine AW.iload (n := 179) dX10_rang_177 rfl rfl ?_
          refine AW.iload (n := 181) dX10_rang_179 rfl rfl ?_
          refine AW.icmp_ge (n := 184) (t := 189) dX10_rang_181 rfl rfl (fun h181 => ?_) (fun h181 => ?_)
          · refine AW.iload (n := 191) dX10_rang_189 rfl rfl ?_
            refine AW.ist6 (n := 193) dX10_rang_191 (Nat.le_of_ble_eq_true rfl) rfl rfl ?_
            refine AW.inc7 (n := 196) (1) dX10_rang_193 rfl (Nat.le_of_ble_eq_true rfl) rfl rfl ?_
            refine AW.goto (t := 75) dX10_rang_196 rfl ?_
            have eW : mWst all set (μ 151) s = all - mAskN set (μ 151) s 4 := by rw [mWst, if_pos h146]
            rw [nI_1]
            have e9 : mAsk all set (μ 151) (s + 1) = ((mAsk all set (μ 151) s).1, (mAsk all set (μ 151) s).2) := by rw [mAsk, eW, if_pos h165, if_pos h165]
            have h9 := fun A B => ih (s + 1) A B (by omega) (by omega)
            simp only [e9] at h9
            exact h9 _ _
          · exact absurd h165 h181
        · refine AW.iload (n := 170) dX10_rang_168 rfl rfl ?_
          refine AW.goto (t := 175) dX10_rang_170 rfl ?_
          refine AW.ist5 (n := 177) dX10_rang_175 (Nat.le_of_ble_eq_true rfl) rfl rfl ?_
          refine AW.iload (n := 179) dX10_rang_177 rfl rfl ?_
          refine AW.iload (n := 181) dX10_rang_179 rfl rfl ?_
          refine AW.icmp_ge (n := 184) (t := 189) dX10_rang_181 rfl rfl (fun h181 => ?_) (fun h181 => ?_)
          · exact absurd h181 h165
          · refine AW.iload (n := 186) dX10_rang_184 rfl rfl ?_
            refine AW.goto (t := 191) dX10_rang_186 rfl ?_
            refine AW.ist6 (n := 193) dX10_rang_191 (Nat.le_of_ble_eq_true rfl) rfl rfl ?_
            refine AW.inc7 (n := 196) (1) dX10_rang_193 rfl (Nat.le_of_ble_eq_true rfl) rfl rfl ?_
            refine AW.goto (t := 75) dX10_rang_196 rfl ?_
            have eW : mWst all set (μ 151) s = all - mAskN set (μ 151) s 4 := by rw [mWst, if_pos h146]
            rw [nI_1]
            have e9 : mAsk all set (μ 151) (s + 1) = (nI s, all - mAskN set (μ 151) s 4) := by rw [mAsk, eW, if_neg h165, if_neg h165]
            have h9 := fun A B => ih (s + 1) A B (by omega) (by omega)
            simp only [e9] at h9
            exact h9 _ _
      · refine AW.iload (n := 151) dX10_rang_149 rfl rfl ?_
        refine AW.goto (t := 159) dX10_rang_151 rfl ?_
        refine AW.ist9 (n := 161) dX10_rang_159 (Nat.le_of_ble_eq_true rfl) rfl rfl ?_
        refine AW.iload (n := 163) dX10_rang_161 rfl rfl ?_
        refine AW.iload (n := 165) dX10_rang_163 rfl rfl ?_
        refine AW.icmp_ge (n := 168) (t := 173) dX10_rang_165 rfl rfl (fun h165 => ?_) (fun h165 => ?_)
        · refine AW.iload (n := 175) dX10_rang_173 rfl rfl ?_
          refine AW.ist5 (n := 177) dX10_rang_175 (Nat.le_of_ble_eq_true rfl) rfl rfl ?_
          refine AW.iload (n := 179) dX10_rang_177 rfl rfl ?_
          refine AW.iload (n := 181) dX10_rang_179 rfl rfl ?_
          refine AW.icmp_ge (n := 184) (t := 189) dX10_rang_181 rfl rfl (fun h181 => ?_) (fun h181 => ?_)
          · refine AW.iload (n := 191) dX10_rang_189 rfl rfl ?_
            refine AW.ist6 (n := 193) dX10_rang_191 (Nat.le_of_ble_eq_true rfl) rfl rfl ?_
            refine AW.inc7 (n := 196) (1) dX10_rang_193 rfl (Nat.le_of_ble_eq_true rfl) rfl rfl ?_
            refine AW.goto (t := 75) dX10_rang_196 rfl ?_
            have eW : mWst all set (μ 151) s = mAskN set (μ 151) s 4 := by rw [mWst, if_neg h146]
            rw [nI_1]
            have e9 : mAsk all set (μ 151) (s + 1) = ((mAsk all set (μ 151) s).1, (mAsk all set (μ 151) s).2) := by rw [mAsk, eW, if_pos h165, if_pos h165]
            have h9 := fun A B => ih (s + 1) A B (by omega) (by omega)
            simp only [e9] at h9
            exact h9 _ _
          · exact absurd h165 h181
        · refine AW.iload (n := 170) dX10_rang_168 rfl rfl ?_
          refine AW.goto (t := 175) dX10_rang_170 rfl ?_
          refine AW.ist5 (n := 177) dX10_rang_175 (Nat.le_of_ble_eq_true rfl) rfl rfl ?_
          refine AW.iload (n := 179) dX10_rang_177 rfl rfl ?_
          refine AW.iload (n := 181) dX10_rang_179 rfl rfl ?_
          refine AW.icmp_ge (n := 184) (t := 189) dX10_rang_181 rfl rfl (fun h181 => ?_) (fun h181 => ?_)
          · exact absurd h181 h165
          · refine AW.iload (n := 186) dX10_rang_184 rfl rfl ?_
            refine AW.goto (t := 191) dX10_rang_186 rfl ?_
            refine AW.ist6 (n := 193) dX10_rang_191 (Nat.le_of_ble_eq_true rfl) rfl rfl ?_
            refine AW.inc7 (n := 196) (1) dX10_rang_193 rfl (Nat.le_of_ble_eq_true rfl) rfl rfl ?_
            refine AW.goto (t := 75) dX10_rang_196 rfl ?_
            have eW : mWst all set (μ 151) s = mAskN set (μ 151) s 4 := by rw [mWst, if_neg h146]
            rw [nI_1]
            have e9 : mAsk all set (μ 151) (s + 1) = (nI s, mAskN set (μ 151) s 4) := by rw [mAsk, eW, if_neg h165, if_neg h165]
            have h9 := fun A B => ih (s + 1) A B (by omega) (by omega)
            simp only [e9] at h9
            exact h9 _ _
set_option maxHeartbeats 4000000 in
set_option maxRecDepth 100000 in
theorem l_X10_rg42 {μ : Me} {e : Nat × (Nat → aC)} {n : Nat} {way w set : Int32} (hn : μ 136 8 = nI n) (h7 : n ≤ 7) : ∀ (m : Nat) (i : Nat), 4 - i < m → i ≤ 4 → AW none 6 0 0 mX10_rang 0 0 42 [some (.ref 136), some (.int way), some (.int w), some (.int set), some (.int (mPop set i)), some (.int (nI i)), none, none, none, none] [] (wS μ e) (a_eq (some (.int (mAsk (mPop set 4) set (μ 151) n).1)) (wS μ e)) := by
  intro m
  induction m with
  | zero => intro i hm; exact absurd hm (Nat.not_lt_zero _)
  | succ m ih =>
    intro i hm hc
    refine AW.iload (n := 44) dX10_rang_42 rfl rfl ?_
    refine AW.iconst (n := 45) (v := 4) dX10_rang_44 rfl rfl ?_
    refine AW.icmp_ge (n := 48) (t := 65) dX10_rang_45 rfl rfl (fun h45 => ?_) (fun h45 => ?_)
    · have hii : i = 4 := by have := le_lit (b := 4) (x := nI i) rfl (by omega) (by omega) h45; omega
      subst hii
      refine AW.iconst (n := 66) (v := -1) dX10_rang_65 rfl rfl ?_
      refine AW.ist5 (n := 68) dX10_rang_66 (Nat.le_of_ble_eq_true rfl) rfl rfl ?_
      refine AW.iload (n := 70) dX10_rang_68 rfl rfl ?_
      refine AW.ist6 (n := 72) dX10_rang_70 (Nat.le_of_ble_eq_true rfl) rfl rfl ?_
      refine AW.iconst (n := 73) (v := 0) dX10_rang_72 rfl rfl ?_
      refine AW.ist7 (n := 75) dX10_rang_73 (Nat.le_of_ble_eq_true rfl) rfl rfl ?_
      exact l_X10_rg75 hn h7 (n + 1) 0 _ _ (by omega) (by omega)
    · have hii : i < 4 := nle_lit (b := 4) (x := nI i) rfl (by omega) (by omega) h45
      refine AW.iload (n := 50) dX10_rang_48 rfl rfl ?_
      refine AW.iload_n (n := 51) dX10_rang_50 rfl rfl ?_
      refine AW.iload (n := 53) dX10_rang_51 rfl rfl ?_
      refine AW.ishr (n := 54) dX10_rang_53 rfl ?_
      refine AW.iconst (n := 55) (v := 1) dX10_rang_54 rfl rfl ?_
      refine AW.iand (n := 56) dX10_rang_55 rfl ?_
      refine AW.iadd (n := 57) dX10_rang_56 rfl ?_
      refine AW.ist4 (n := 59) dX10_rang_57 (Nat.le_of_ble_eq_true rfl) rfl rfl ?_
      refine AW.inc5 (n := 62) (1) dX10_rang_59 rfl (Nat.le_of_ble_eq_true rfl) rfl rfl ?_
      refine AW.goto (t := 42) dX10_rang_62 rfl ?_
      rw [nI_1]
      exact ih (i + 1) (by omega) (by omega)
set_option maxHeartbeats 4000000 in
set_option maxRecDepth 100000 in
theorem c_X10_rang {μ : Me} {e : Nat × (Nat → aC)} {n d z : Nat} {way w : Int32} (hG : mG μ n d) (hz : μ 136 26 = nI z) (hz9 : z ≤ 6) : AC 6 0 0 mX10_rang [.ref 136, .int way, .int w] (wS μ e) (a_eq (some (.int ((qRang μ n z way w).1))) (wS ((qRang μ n z way w).2) e)) := by
  refine AC.of (L := [some (.ref 136), some (.int way), some (.int w), none, none, none, none, none, none, none]) (j := 7) (by decide) rfl (Nat.le_of_ble_eq_true rfl) ?_
  refine AW.aload_n (n := 1) dX10_rang_0 rfl rfl ?_
  refine AW.iload_n (n := 2) dX10_rang_1 rfl rfl ?_
  refine AW.ev1i (Mc := mX10_isWay) (n := 5) dX10_rang_2 lk_X10_200 k_mX10_isWay s_136 rfl rfl (c_X10_isWay hG.1 hG.2.1) (Nat.le_of_ble_eq_true rfl) (by decide) (Nat.zero_le _) (Nat.zero_le _) rfl ?_
  refine AW.bif_ne (n := 8) (t := 11) dX10_rang_5 rfl rfl (fun h5 => ?_) (fun h5 => ?_)
  · refine AW.iload_n (n := 12) dX10_rang_11 rfl rfl ?_
    refine AW.i2l (n := 13) dX10_rang_12 rfl ?_
    refine AW.lconst (n := 14) (v := 0) dX10_rang_13 rfl rfl ?_
    refine AW.lconst (n := 15) (v := 1) dX10_rang_14 rfl rfl ?_
    refine AW.es3i (Mc := mX10_in) (n := 18) dX10_rang_15 lk_X10_68 k_mX10_in (c_X10_in w 0 1 rfl (by decide) (by decide)) (Nat.le_of_ble_eq_true rfl) (by decide) (Nat.zero_le _) (Nat.zero_le _) rfl ?_
    refine AW.bif_ne (n := 21) (t := 24) dX10_rang_18 rfl rfl (fun h18 => ?_) (fun h18 => ?_)
    · have hw := mWok.of hG.1 hG.2.1 h5
      refine AW.aload_n (n := 25) dX10_rang_24 rfl rfl ?_
      refine AW.iload_n (n := 26) dX10_rang_25 rfl rfl ?_
      refine AW.ev1i (Mc := mX10_findHastes) (n := 29) dX10_rang_26 lk_X10_256 k_mX10_findHastes s_136 rfl rfl (c_X10_findHastes hw hG hz hz9) (Nat.le_of_ble_eq_true rfl) (by decide) (Nat.zero_le _) (Nat.zero_le _) rfl ?_
      refine AW.ist3 (n := 30) dX10_rang_29 (Nat.le_of_ble_eq_true rfl) rfl rfl ?_
      refine AW.iload_n (n := 31) dX10_rang_30 rfl rfl ?_
      refine AW.if_ne (n := 34) (t := 36) dX10_rang_31 rfl rfl (fun h31 => ?_) (fun h31 => ?_)
      · refine AW.iconst (n := 37) (v := 0) dX10_rang_36 rfl rfl ?_
        refine AW.ist4 (n := 39) dX10_rang_37 (Nat.le_of_ble_eq_true rfl) rfl rfl ?_
        refine AW.iconst (n := 40) (v := 0) dX10_rang_39 rfl rfl ?_
        refine AW.ist5 (n := 42) dX10_rang_40 (Nat.le_of_ble_eq_true rfl) rfl rfl ?_
        have hf := (fh_fr (z := z) hw hG 4).1
        rw [qRang, if_pos h5, if_pos h18, if_neg h31]
        exact l_X10_rg42 (μ := (mFH μ way z 4).2) hf.1 hf.2.1 5 0 (by omega) (by omega)
      · refine AW.iload_n (n := 35) dX10_rang_34 rfl rfl ?_
        refine AW.iret dX10_rang_35 rfl rfl (Nat.zero_le _) (Nat.zero_le _) ?_
        rw [qRang, if_pos h5, if_pos h18, if_pos h31]
        exact ⟨rfl, rfl⟩
    · refine AW.ldc (n := 23) dX10_rang_21 kc_X10_72 rfl ?_
      refine AW.iret dX10_rang_23 rfl rfl (Nat.zero_le _) (Nat.zero_le _) ?_
      exact ⟨by simp [qRang, h5, h18], by simp [qRang, h5, h18]⟩
  · refine AW.ldc (n := 10) dX10_rang_8 kc_X10_167 rfl ?_
    refine AW.iret dX10_rang_10 rfl rfl (Nat.zero_le _) (Nat.zero_le _) ?_
    exact ⟨by simp [qRang, h5], by simp [qRang, h5]⟩
