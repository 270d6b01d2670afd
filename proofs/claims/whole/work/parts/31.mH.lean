theorem has_win {s : Int32} {n : Nat} (h7 : n ≤ 7) : sWithin s 0 (nI n - 1) = sHas (nI n) s := by
  cases h : sWithin s 0 (nI n - 1) with
  | true =>
    obtain ⟨j, hj, rfl⟩ := win_n h7 h
    rw [sHas_nI h7 (by omega), decide_eq_true hj]
  | false =>
    cases h2 : sHas (nI n) s with
    | false => rfl
    | true =>
      obtain ⟨j, hj, rfl⟩ := sHas_j rfl h7 h2
      rw [win_at (by omega) (by omega), decide_eq_true hj] at h
      exact h.symm
def dg : Nat → Int32 → Nat
  | 0, _ => 0
  | m + 1, x => if x ≤ 0 then 0 else dg m (x / 10) + 1
def sDivN (x : Int32) : Nat → Int32
  | 0 => x
  | k + 1 => sDivN x k / 10
def mStopOf (way : Int32) (i : Nat) : Int32 := sDivN way (dg 10 way - 1 - i) - sDivN way (dg 10 way - 1 - i) / 10 * 10 - 1
def mCnt (f : Nat → Int32) : Nat → Int32
  | 0 => 0
  | i + 1 => if sCounts (f i) then mCnt f i ||| ((1 : Int32) <<< (nI i &&& 31)) else mCnt f i
def mDinAt (ν : Me) (hour : Int32) : Int32 := if ν 136 11 = 0 then 0 else ν 145 (hour - hour / ν 136 11 * ν 136 11).toNatClampNeg
def mIsIn (ν : Me) (s hour : Int32) : Bool := !decide (12 ≤ hour) && sBit (ν 141 s.toNatClampNeg) hour
def mCpy (ν : Me) (x y : Nat) : Nat → Me
  | 0 => ν
  | i + 1 => mu (mCpy ν x y i) 137 (y + i) (mCpy ν x y i 137 (x + i))
def mCopy (ν : Me) (x y : Nat) : Me := mCpy ν x y 18
def mRemL (ν : Me) : Nat → Me
  | 0 => ν
  | i + 1 => mCopy (mRemL ν i) (72 + 18 * (i + 1)) (72 + 18 * i)
def mRem (ν : Me) (u : Nat) : Me :=
  if u = 30 then mu (mCopy (mu (mRemL ν 29) 136 22 (nI 29)) 0 (72 + 18 * 29)) 136 22 (nI 30)
  else mu (mCopy ν 0 (72 + 18 * u)) 136 22 (nI (u + 1))
theorem or0 (x s : Int32) : x ||| ((0 : Int32) <<< (s &&& 31)) = x := by
  apply Int32.toBitVec_inj.mp
  simp
set_option maxHeartbeats 4000000 in
set_option maxRecDepth 100000 in
theorem c_X10_isStop {μ : Me} {e : Nat × (Nat → aC)} {n : Nat} {s : Int32} (hn : μ 136 8 = nI n) (h7 : n ≤ 7) : AC 1 0 0 mX10_isStop [.ref 136, .int s] (wS μ e) (a_eq (some (.int (b2i (sHas (μ 136 8) s)))) (wS μ e)) := by
  refine AC.of (L := [some (.ref 136), some (.int s)]) (j := 0) (by decide) rfl (Nat.le_of_ble_eq_true rfl) ?_
  refine AW.iload_n (n := 1) dX10_isStop_0 rfl rfl ?_
  refine AW.i2l (n := 2) dX10_isStop_1 rfl ?_
  refine AW.lconst (n := 3) (v := 0) dX10_isStop_2 rfl rfl ?_
  refine AW.aload_n (n := 4) dX10_isStop_3 rfl rfl ?_
  refine AW.gi (n := 7) dX10_isStop_4 fl_X10_131 s_136 rfl rfl ?_
  refine AW.iconst (n := 8) (v := 1) dX10_isStop_7 rfl rfl ?_
  refine AW.isub (n := 9) dX10_isStop_8 rfl ?_
  refine AW.i2l (n := 10) dX10_isStop_9 rfl ?_
  refine AW.es3i (Mc := mX10_in) (n := 13) dX10_isStop_10 lk_X10_68 k_mX10_in (c_X10_in s 0 (μ 136 8 - 1) rfl (by decide) rfl) (Nat.le_of_ble_eq_true rfl) (by decide) (Nat.zero_le _) (Nat.zero_le _) rfl ?_
  refine AW.iret dX10_isStop_13 rfl nar_b2i (Nat.zero_le _) (Nat.zero_le _) ?_
  exact ⟨by rw [hn, has_win h7], rfl⟩
set_option maxHeartbeats 4000000 in
set_option maxRecDepth 100000 in
theorem c_X10_isHaste {σ : aS} {h : Int32}  : AC 1 0 0 mX10_isHaste [.int h] σ (a_eq (some (.int (b2i (sWithin h 0 3)))) σ) := by
  refine AC.of (L := [some (.int h)]) (j := 0) (by decide) rfl (Nat.le_of_ble_eq_true rfl) ?_
  refine AW.iload_n (n := 1) dX10_isHaste_0 rfl rfl ?_
  refine AW.i2l (n := 2) dX10_isHaste_1 rfl ?_
  refine AW.lconst (n := 3) (v := 0) dX10_isHaste_2 rfl rfl ?_
  refine AW.ldc2 (n := 6) dX10_isHaste_3 kl_X10_158 rfl ?_
  refine AW.es3i (Mc := mX10_in) (n := 9) dX10_isHaste_6 lk_X10_68 k_mX10_in (c_X10_in h 0 3 rfl (by decide) (by decide)) (Nat.le_of_ble_eq_true rfl) (by decide) (Nat.zero_le _) (Nat.zero_le _) rfl ?_
  refine AW.iret dX10_isHaste_9 rfl nar_b2i (Nat.zero_le _) (Nat.zero_le _) ?_
  exact ⟨rfl, rfl⟩
set_option maxHeartbeats 4000000 in
set_option maxRecDepth 100000 in
theorem l_X10_figures {σ : aS} {way : Int32} : ∀ (m : Nat) (x : Int32) (c : Nat), (x ≤ 0 ∨ ∃ r : Nat, x = nI r ∧ r < 10 ^ m ∧ r < 2147483648) → AW none 0 0 0 mX10_figures 0 0 4 [some (.int way), some (.int (nI c)), some (.int x)] [] σ (a_eq (some (.int (nI (c + dg m x)))) σ) := by
  intro m
  induction m with
  | zero =>
    intro x c hr
    have hz : x ≤ 0 := by
      rcases hr with h | ⟨r, rfl, h, -⟩
      · exact h
      · have : r = 0 := by omega
        subst this
        decide
    refine AW.iload_n (n := 5) dX10_figures_4 rfl rfl ?_
    refine AW.if_le (n := 8) (t := 19) dX10_figures_5 rfl rfl (fun h5 => ?_) (fun h5 => ?_)
    · refine AW.iload_n (n := 20) dX10_figures_19 rfl rfl ?_
      refine AW.iret dX10_figures_20 rfl rfl (Nat.zero_le _) (Nat.zero_le _) ?_
      exact ⟨rfl, rfl⟩
    · exact absurd hz h5
  | succ m ih =>
    intro x c hr
    refine AW.iload_n (n := 5) dX10_figures_4 rfl rfl ?_
    refine AW.if_le (n := 8) (t := 19) dX10_figures_5 rfl rfl (fun h5 => ?_) (fun h5 => ?_)
    · refine AW.iload_n (n := 20) dX10_figures_19 rfl rfl ?_
      refine AW.iret dX10_figures_20 rfl rfl (Nat.zero_le _) (Nat.zero_le _) ?_
      exact ⟨by rw [dg, if_pos h5]; rfl, rfl⟩
    · refine AW.iload_n (n := 9) dX10_figures_8 rfl rfl ?_
      refine AW.bipush (n := 11) (v := 10) dX10_figures_9 rfl rfl ?_
      refine AW.idiv (n := 12) dX10_figures_11 (by decide) rfl ?_
      refine AW.ist2 (n := 13) dX10_figures_12 (Nat.le_of_ble_eq_true rfl) rfl rfl ?_
      refine AW.inc1 (n := 16) (1) dX10_figures_13 rfl (Nat.le_of_ble_eq_true rfl) rfl rfl ?_
      refine AW.goto (t := 4) dX10_figures_16 rfl ?_
      rw [nI_1, dg, if_neg h5, show c + (dg m (x / 10) + 1) = c + 1 + dg m (x / 10) by omega]
      refine ih _ _ ?_
      rcases hr with h | ⟨r, rfl, h, h9⟩
      · exact absurd h h5
      · refine Or.inr ⟨r / 10, pk_div (d := 10) h9 (by decide) (by decide), ?_, by omega⟩
        rw [Nat.pow_succ] at h
        omega
set_option maxHeartbeats 4000000 in
set_option maxRecDepth 100000 in
theorem c_X10_figures {σ : aS} {way : Int32}  : AC 0 0 0 mX10_figures [.int way] σ (a_eq (some (.int (nI (dg 10 way)))) σ) := by
  refine AC.of (L := [some (.int way), none, none]) (j := 2) (by decide) rfl (Nat.le_of_ble_eq_true rfl) ?_
  refine AW.iconst (n := 1) (v := 0) dX10_figures_0 rfl rfl ?_
  refine AW.ist1 (n := 2) dX10_figures_1 (Nat.le_of_ble_eq_true rfl) rfl rfl ?_
  refine AW.iload_n (n := 3) dX10_figures_2 rfl rfl ?_
  refine AW.ist2 (n := 4) dX10_figures_3 (Nat.le_of_ble_eq_true rfl) rfl rfl ?_
  have h := l_X10_figures (σ := σ) (way := way) 10 way 0 (way_ok way)
  rw [Nat.zero_add] at h
  exact h
theorem dg_le : ∀ (m : Nat) (x : Int32), dg m x ≤ m := by
  intro m
  induction m with
  | zero => intro x; exact Nat.le_refl _
  | succ m ih => intro x; rw [dg]; split; · omega
                 · have := ih (x / 10); omega
set_option maxHeartbeats 4000000 in
set_option maxRecDepth 100000 in
theorem l_X10_stopOf {σ : aS} {way : Int32} {i d : Nat} (hd : d ≤ 10) (hi : i < d) : ∀ (m k : Nat), i + m + k + 1 = d → AW none 1 0 0 mX10_stopOf 0 0 9 [some (.int way), some (.int (nI i)), some (.int (sDivN way k)), some (.int (nI (i + m)))] [] σ (a_eq (some (.int (sDivN way (d - 1 - i) - sDivN way (d - 1 - i) / 10 * 10 - 1))) σ) := by
  intro m
  induction m with
  | zero =>
    intro k hk
    have he : d - 1 - i = k := by omega
    rw [he]
    refine AW.iload_n (n := 10) dX10_stopOf_9 rfl rfl ?_
    refine AW.iload_n (n := 11) dX10_stopOf_10 rfl rfl ?_
    refine AW.icmp_le (n := 14) (t := 25) dX10_stopOf_11 rfl rfl (fun h11 => ?_) (fun h11 => ?_)
    · refine AW.iload_n (n := 26) dX10_stopOf_25 rfl rfl ?_
      refine AW.bipush (n := 28) (v := 10) dX10_stopOf_26 rfl rfl ?_
      refine AW.irem (n := 29) dX10_stopOf_28 (by decide) rfl ?_
      refine AW.iconst (n := 30) (v := 1) dX10_stopOf_29 rfl rfl ?_
      refine AW.isub (n := 31) dX10_stopOf_30 rfl ?_
      refine AW.iret dX10_stopOf_31 rfl rfl (Nat.zero_le _) (Nat.zero_le _) ?_
      exact ⟨rfl, rfl⟩
    · exact absurd (nI_le (a := i + 0) (b := i) (by omega) (by omega)) h11
  | succ m ih =>
    intro k hk
    refine AW.iload_n (n := 10) dX10_stopOf_9 rfl rfl ?_
    refine AW.iload_n (n := 11) dX10_stopOf_10 rfl rfl ?_
    refine AW.icmp_le (n := 14) (t := 25) dX10_stopOf_11 rfl rfl (fun h11 => ?_) (fun h11 => ?_)
    · exact absurd ((nI_leI (a := i + (m + 1)) (b := i) (by omega) (by omega)).mp h11) (by omega)
    · refine AW.iload_n (n := 15) dX10_stopOf_14 rfl rfl ?_
      refine AW.bipush (n := 17) (v := 10) dX10_stopOf_15 rfl rfl ?_
      refine AW.idiv (n := 18) dX10_stopOf_17 (by decide) rfl ?_
      refine AW.ist2 (n := 19) dX10_stopOf_18 (Nat.le_of_ble_eq_true rfl) rfl rfl ?_
      refine AW.inc3 (n := 22) (-1) dX10_stopOf_19 rfl (Nat.le_of_ble_eq_true rfl) rfl rfl ?_
      refine AW.goto (t := 9) dX10_stopOf_22 rfl ?_
      rw [show (nI (i + (m + 1)) : Int32) + -1 = nI (i + m) from pk_m1 (i + m)]
      exact ih (k + 1) (by omega)
set_option maxHeartbeats 4000000 in
set_option maxRecDepth 100000 in
theorem c_X10_stopOf {σ : aS} {way : Int32} {i : Nat} (hi : i < dg 10 way) : AC 1 0 0 mX10_stopOf [.int way, .int (nI i)] σ (a_eq (some (.int (mStopOf way i))) σ) := by
  refine AC.of (L := [some (.int way), some (.int (nI i)), none, none]) (j := 2) (by decide) rfl (Nat.le_of_ble_eq_true rfl) ?_
  refine AW.iload_n (n := 1) dX10_stopOf_0 rfl rfl ?_
  refine AW.ist2 (n := 2) dX10_stopOf_1 (Nat.le_of_ble_eq_true rfl) rfl rfl ?_
  refine AW.iload_n (n := 3) dX10_stopOf_2 rfl rfl ?_
  refine AW.es1i (Mc := mX10_figures) (n := 6) dX10_stopOf_3 lk_X10_146 k_mX10_figures (c_X10_figures) (Nat.le_of_ble_eq_true rfl) (by decide) (Nat.zero_le _) (Nat.zero_le _) rfl ?_
  refine AW.iconst (n := 7) (v := 1) dX10_stopOf_6 rfl rfl ?_
  refine AW.isub (n := 8) dX10_stopOf_7 rfl ?_
  refine AW.ist3 (n := 9) dX10_stopOf_8 (Nat.le_of_ble_eq_true rfl) rfl rfl ?_
  have hd := dg_le 10 way
  rw [show (nI (dg 10 way) : Int32) - 1 = nI (i + (dg 10 way - 1 - i)) from by rw [show i + (dg 10 way - 1 - i) = dg 10 way - 1 by omega]; exact pk_sub (b := 1) (by omega)]
  exact l_X10_stopOf hd hi _ 0 (by omega)
theorem or_ne {x : Int32} {j : Nat} (hj : j < 7) : ¬ x ||| ((1 : Int32) <<< (nI j &&& 31)) = 0 := by
  intro h
  have h1 : ((1 : Int32) <<< (nI j &&& 31)) = 0 := by
    apply Int32.toBitVec_inj.mp
    have h2 := congrArg Int32.toBitVec h
    have h3 : x.toBitVec ||| ((1 : Int32) <<< (nI j &&& 31)).toBitVec = 0#32 := by simpa using h2
    exact (BitVec.or_eq_zero_iff.mp h3).2
  rcases (show j = 0 ∨ j = 1 ∨ j = 2 ∨ j = 3 ∨ j = 4 ∨ j = 5 ∨ j = 6 by omega) with rfl | rfl | rfl | rfl | rfl | rfl | rfl <;> exact absurd h1 (by decide)
set_option maxHeartbeats 4000000 in
set_option maxRecDepth 100000 in
theorem l_X10_isWay {μ : Me} {e : Nat × (Nat → aC)} {n : Nat} {way : Int32} (hn : μ 136 8 = nI n) (h7 : n ≤ 7) : ∀ (m : Nat) (rest used : Int32) (L5 : Option Value), (rest ≤ 0 ∨ ∃ r : Nat, rest = nI r ∧ r < 10 ^ m ∧ r < 2147483648) → (¬ used = 0 ∨ ¬ rest ≤ 0) → AW none 2 0 0 mX10_isWay 0 0 15 [some (.ref 136), some (.int way), some (.int 1), some (.int used), some (.int rest), L5] [] (wS μ e) (a_eq (some (.int (b2i (sWay (μ 136 8) m rest used)))) (wS μ e)) := by
  intro m
  induction m with
  | zero =>
    intro rest used L5 hr hu
    have hz : rest ≤ 0 := by
      rcases hr with h | ⟨r, rfl, h, -⟩
      · exact h
      · have : r = 0 := by omega
        subst this
        decide
    have hu2 : ¬ used = 0 := hu.elim id (fun q => absurd hz q)
    refine AW.iload (n := 17) dX10_isWay_15 rfl rfl ?_
    refine AW.if_le (n := 20) (t := 82) dX10_isWay_17 rfl rfl (fun h17 => ?_) (fun h17 => ?_)
    · refine AW.iload_n (n := 83) dX10_isWay_82 rfl rfl ?_
      refine AW.iret dX10_isWay_83 rfl (by decide) (Nat.zero_le _) (Nat.zero_le _) ?_
      exact ⟨by simp [sWay, hu2, b2i], rfl⟩
    · exact absurd hz h17
  | succ m ih =>
    intro rest used L5 hr hu
    refine AW.iload (n := 17) dX10_isWay_15 rfl rfl ?_
    refine AW.if_le (n := 20) (t := 82) dX10_isWay_17 rfl rfl (fun h17 => ?_) (fun h17 => ?_)
    · refine AW.iload_n (n := 83) dX10_isWay_82 rfl rfl ?_
      refine AW.iret dX10_isWay_83 rfl rfl (Nat.zero_le _) (Nat.zero_le _) ?_
      exact ⟨by simp [sWay, h17, b2i, hu.elim id (fun q => absurd h17 q)], rfl⟩
    · refine AW.iload_n (n := 21) dX10_isWay_20 rfl rfl ?_
      refine AW.if_eq (n := 24) (t := 82) dX10_isWay_21 rfl rfl (fun h21 => ?_) (fun h21 => ?_)
      · exact absurd h21 (by decide)
      · refine AW.iload (n := 26) dX10_isWay_24 rfl rfl ?_
        refine AW.bipush (n := 28) (v := 10) dX10_isWay_26 rfl rfl ?_
        refine AW.irem (n := 29) dX10_isWay_28 (by decide) rfl ?_
        refine AW.iconst (n := 30) (v := 1) dX10_isWay_29 rfl rfl ?_
        refine AW.isub (n := 31) dX10_isWay_30 rfl ?_
        refine AW.ist5 (n := 33) dX10_isWay_31 (Nat.le_of_ble_eq_true rfl) rfl rfl ?_
        refine AW.aload_n (n := 34) dX10_isWay_33 rfl rfl ?_
        refine AW.iload (n := 36) dX10_isWay_34 rfl rfl ?_
        refine AW.ev1i (Mc := mX10_isStop) (n := 39) dX10_isWay_36 lk_X10_150 k_mX10_isStop s_136 rfl rfl (c_X10_isStop hn h7) (Nat.le_of_ble_eq_true rfl) (by decide) (Nat.zero_le _) (Nat.zero_le _) rfl ?_
        refine AW.bif_eq (n := 42) (t := 55) dX10_isWay_39 rfl rfl (fun h39 => ?_) (fun h39 => ?_)
        · refine AW.iconst (n := 56) (v := 0) dX10_isWay_55 rfl rfl ?_
          refine AW.ist2 (n := 57) dX10_isWay_56 (Nat.le_of_ble_eq_true rfl) rfl rfl ?_
          refine AW.iload_n (n := 58) dX10_isWay_57 rfl rfl ?_
          refine AW.iload_n (n := 59) dX10_isWay_58 rfl rfl ?_
          refine AW.if_eq (n := 62) (t := 69) dX10_isWay_59 rfl rfl (fun h59 => ?_) (fun h59 => ?_)
          · refine AW.iconst (n := 70) (v := 0) dX10_isWay_69 rfl rfl ?_
            refine AW.ior (n := 71) dX10_isWay_70 rfl ?_
            refine AW.ist3 (n := 72) dX10_isWay_71 (Nat.le_of_ble_eq_true rfl) rfl rfl ?_
            refine AW.iload (n := 74) dX10_isWay_72 rfl rfl ?_
            refine AW.bipush (n := 76) (v := 10) dX10_isWay_74 rfl rfl ?_
            refine AW.idiv (n := 77) dX10_isWay_76 (by decide) rfl ?_
            refine AW.ist4 (n := 79) dX10_isWay_77 (Nat.le_of_ble_eq_true rfl) rfl rfl ?_
            refine AW.goto (t := 15) dX10_isWay_79 rfl ?_
            refine AW.iload (n := 17) dX10_isWay_15 rfl rfl ?_
            refine AW.if_le (n := 20) (t := 82) dX10_isWay_17 rfl rfl (fun h17b => ?_) (fun h17b => ?_)
            · refine AW.iload_n (n := 83) dX10_isWay_82 rfl rfl ?_
              refine AW.iret dX10_isWay_83 rfl rfl (Nat.zero_le _) (Nat.zero_le _) ?_
              exact ⟨by simp [sWay, b2i, h17, h39], rfl⟩
            · refine AW.iload_n (n := 21) dX10_isWay_20 rfl rfl ?_
              refine AW.if_eq (n := 24) (t := 82) dX10_isWay_21 rfl rfl (fun h21b => ?_) (fun h21b => ?_)
              · refine AW.iload_n (n := 83) dX10_isWay_82 rfl rfl ?_
                refine AW.iret dX10_isWay_83 rfl rfl (Nat.zero_le _) (Nat.zero_le _) ?_
                exact ⟨by simp [sWay, b2i, h17, h39], rfl⟩
              · exact absurd rfl h21b
          · exact absurd rfl h59
        · refine AW.iload_n (n := 43) dX10_isWay_42 rfl rfl ?_
          refine AW.iload (n := 45) dX10_isWay_43 rfl rfl ?_
          refine AW.es2i (Mc := mX10_has) (n := 48) dX10_isWay_45 lk_X10_154 k_mX10_has (c_X10_has) (Nat.le_of_ble_eq_true rfl) (by decide) (Nat.zero_le _) (Nat.zero_le _) rfl ?_
          refine AW.bif_ne (n := 51) (t := 55) dX10_isWay_48 rfl rfl (fun h48 => ?_) (fun h48 => ?_)
          · refine AW.iconst (n := 56) (v := 0) dX10_isWay_55 rfl rfl ?_
            refine AW.ist2 (n := 57) dX10_isWay_56 (Nat.le_of_ble_eq_true rfl) rfl rfl ?_
            refine AW.iload_n (n := 58) dX10_isWay_57 rfl rfl ?_
            refine AW.iload_n (n := 59) dX10_isWay_58 rfl rfl ?_
            refine AW.if_eq (n := 62) (t := 69) dX10_isWay_59 rfl rfl (fun h59 => ?_) (fun h59 => ?_)
            · refine AW.iconst (n := 70) (v := 0) dX10_isWay_69 rfl rfl ?_
              refine AW.ior (n := 71) dX10_isWay_70 rfl ?_
              refine AW.ist3 (n := 72) dX10_isWay_71 (Nat.le_of_ble_eq_true rfl) rfl rfl ?_
              refine AW.iload (n := 74) dX10_isWay_72 rfl rfl ?_
              refine AW.bipush (n := 76) (v := 10) dX10_isWay_74 rfl rfl ?_
              refine AW.idiv (n := 77) dX10_isWay_76 (by decide) rfl ?_
              refine AW.ist4 (n := 79) dX10_isWay_77 (Nat.le_of_ble_eq_true rfl) rfl rfl ?_
              refine AW.goto (t := 15) dX10_isWay_79 rfl ?_
              refine AW.iload (n := 17) dX10_isWay_15 rfl rfl ?_
              refine AW.if_le (n := 20) (t := 82) dX10_isWay_17 rfl rfl (fun h17b => ?_) (fun h17b => ?_)
              · refine AW.iload_n (n := 83) dX10_isWay_82 rfl rfl ?_
                refine AW.iret dX10_isWay_83 rfl rfl (Nat.zero_le _) (Nat.zero_le _) ?_
                exact ⟨by simp [sWay, b2i, h17, h39, h48], rfl⟩
              · refine AW.iload_n (n := 21) dX10_isWay_20 rfl rfl ?_
                refine AW.if_eq (n := 24) (t := 82) dX10_isWay_21 rfl rfl (fun h21b => ?_) (fun h21b => ?_)
                · refine AW.iload_n (n := 83) dX10_isWay_82 rfl rfl ?_
                  refine AW.iret dX10_isWay_83 rfl rfl (Nat.zero_le _) (Nat.zero_le _) ?_
                  exact ⟨by simp [sWay, b2i, h17, h39, h48], rfl⟩
                · exact absurd rfl h21b
            · exact absurd rfl h59
          · refine AW.iconst (n := 52) (v := 1) dX10_isWay_51 rfl rfl ?_
            refine AW.goto (t := 56) dX10_isWay_52 rfl ?_
            refine AW.ist2 (n := 57) dX10_isWay_56 (Nat.le_of_ble_eq_true rfl) rfl rfl ?_
            refine AW.iload_n (n := 58) dX10_isWay_57 rfl rfl ?_
            refine AW.iload_n (n := 59) dX10_isWay_58 rfl rfl ?_
            refine AW.if_eq (n := 62) (t := 69) dX10_isWay_59 rfl rfl (fun h59 => ?_) (fun h59 => ?_)
            · exact absurd h59 (by decide)
            · refine AW.iconst (n := 63) (v := 1) dX10_isWay_62 rfl rfl ?_
              refine AW.iload (n := 65) dX10_isWay_63 rfl rfl ?_
              refine AW.ishl (n := 66) dX10_isWay_65 rfl ?_
              refine AW.goto (t := 70) dX10_isWay_66 rfl ?_
              refine AW.ior (n := 71) dX10_isWay_70 rfl ?_
              refine AW.ist3 (n := 72) dX10_isWay_71 (Nat.le_of_ble_eq_true rfl) rfl rfl ?_
              refine AW.iload (n := 74) dX10_isWay_72 rfl rfl ?_
              refine AW.bipush (n := 76) (v := 10) dX10_isWay_74 rfl rfl ?_
              refine AW.idiv (n := 77) dX10_isWay_76 (by decide) rfl ?_
              refine AW.ist4 (n := 79) dX10_isWay_77 (Nat.le_of_ble_eq_true rfl) rfl rfl ?_
              refine AW.goto (t := 15) dX10_isWay_79 rfl ?_
              have e9 : sWay (μ 136 8) (m + 1) rest used = sWay (μ 136 8) m (rest / 10) (used ||| ((1 : Int32) <<< ((rest - rest / 10 * 10 - 1) &&& 31))) := by simp [sWay, h17, h39, h48]
              rw [e9]
              obtain ⟨j, hj, hjj⟩ := sHas_j hn h7 h39
              refine ih _ _ _ ?_ (Or.inl (by rw [hjj]; exact or_ne (by omega)))
              rcases hr with h | ⟨r, rfl, h, h9⟩
              · exact absurd h h17
              · refine Or.inr ⟨r / 10, pk_div (d := 10) h9 (by decide) (by decide), ?_, by omega⟩
                rw [Nat.pow_succ] at h
                omega
set_option maxHeartbeats 4000000 in
set_option maxRecDepth 100000 in
theorem c_X10_isWay {μ : Me} {e : Nat × (Nat → aC)} {n : Nat} {way : Int32} (hn : μ 136 8 = nI n) (h7 : n ≤ 7) : AC 2 0 0 mX10_isWay [.ref 136, .int way] (wS μ e) (a_eq (some (.int (b2i (sIsWay (μ 136 8) way)))) (wS μ e)) := by
  refine AC.of (L := [some (.ref 136), some (.int way), none, none, none, none]) (j := 4) (by decide) rfl (Nat.le_of_ble_eq_true rfl) ?_
  refine AW.iload_n (n := 1) dX10_isWay_0 rfl rfl ?_
  refine AW.if_le (n := 4) (t := 8) dX10_isWay_1 rfl rfl (fun h1 => ?_) (fun h1 => ?_)
  · refine AW.iconst (n := 9) (v := 0) dX10_isWay_8 rfl rfl ?_
    refine AW.ist2 (n := 10) dX10_isWay_9 (Nat.le_of_ble_eq_true rfl) rfl rfl ?_
    refine AW.iconst (n := 11) (v := 0) dX10_isWay_10 rfl rfl ?_
    refine AW.ist3 (n := 12) dX10_isWay_11 (Nat.le_of_ble_eq_true rfl) rfl rfl ?_
    refine AW.iload_n (n := 13) dX10_isWay_12 rfl rfl ?_
    refine AW.ist4 (n := 15) dX10_isWay_13 (Nat.le_of_ble_eq_true rfl) rfl rfl ?_
    refine AW.iload (n := 17) dX10_isWay_15 rfl rfl ?_
    refine AW.if_le (n := 20) (t := 82) dX10_isWay_17 rfl rfl (fun h17b => ?_) (fun h17b => ?_)
    · refine AW.iload_n (n := 83) dX10_isWay_82 rfl rfl ?_
      refine AW.iret dX10_isWay_83 rfl rfl (Nat.zero_le _) (Nat.zero_le _) ?_
      exact ⟨by simp [sIsWay, sWay, b2i, h1], rfl⟩
    · exact absurd h1 h17b
  · refine AW.iconst (n := 5) (v := 1) dX10_isWay_4 rfl rfl ?_
    refine AW.goto (t := 9) dX10_isWay_5 rfl ?_
    refine AW.ist2 (n := 10) dX10_isWay_9 (Nat.le_of_ble_eq_true rfl) rfl rfl ?_
    refine AW.iconst (n := 11) (v := 0) dX10_isWay_10 rfl rfl ?_
    refine AW.ist3 (n := 12) dX10_isWay_11 (Nat.le_of_ble_eq_true rfl) rfl rfl ?_
    refine AW.iload_n (n := 13) dX10_isWay_12 rfl rfl ?_
    refine AW.ist4 (n := 15) dX10_isWay_13 (Nat.le_of_ble_eq_true rfl) rfl rfl ?_
    exact l_X10_isWay hn h7 10 _ _ _ (way_ok way) (Or.inr h1)
