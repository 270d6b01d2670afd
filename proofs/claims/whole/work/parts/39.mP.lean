def mWOf (f : Nat → Int32) : Nat → Int32
  | 0 => 0
  | i + 1 => 10 * mWOf f i + f i + 1
def swp (f : Nat → Int32) (a b : Nat) : Nat → Int32 := upd (upd f a (f b)) b (f a)
def mPiv (f : Nat → Int32) : Nat → Nat
  | 0 => 0
  | k + 1 => if f k ≤ f (k + 1) then k + 1 else mPiv f k
def mSuc (f : Nat → Int32) (x : Int32) : Nat → Nat
  | 0 => 0
  | j + 1 => if x ≤ f (j + 1) then j + 1 else mSuc f x j
def mRev : Nat → (Nat → Int32) → Nat → Nat → Nat → Int32
  | 0, f, _, _ => f
  | k + 1, f, a, b => if a < b then mRev k (swp f a b) (a + 1) (b - 1) else f
def nx (f : Nat → Int32) (m : Nat) : Option (Nat → Int32) := match mPiv f (m - 1) with
  | 0 => none
  | i + 1 => some (mRev 7 (swp f i (mSuc f (f i) (m - 1))) (i + 1) (m - 1))
theorem mr_mr (μ : Me) (a : Nat) (f g : Nat → Int32) : mr (mr μ a f) a g = mr μ a g := by
  funext i
  unfold mr
  split <;> rfl
theorem mr_self (μ : Me) (a : Nat) : mr μ a (μ a) = μ := by
  funext i
  unfold mr
  split
  · next h => rw [h]
  · rfl
theorem mu2_sw (μ : Me) (a b : Nat) : mu (mu μ 148 a (μ 148 b)) 148 b (μ 148 a) = mr μ 148 (swp (μ 148) a b) := by
  unfold mu swp
  rw [mr_mr, mr_same]
set_option maxHeartbeats 4000000 in
set_option maxRecDepth 100000 in
theorem l_X10_wayOf {μ : Me} {e : Nat × (Nat → aC)} {k : Nat} (hk : k ≤ 7) : ∀ (m : Nat) (i : Nat), k - i < m → i ≤ k → AW none 0 0 0 mX10_wayOf 0 0 4 [some (.ref 136), some (.int (nI k)), some (.int (mWOf (μ 148) i)), some (.int (nI i))] [] (wS μ e) (a_eq (some (.int (mWOf (μ 148) k))) (wS μ e)) := by
  intro m
  induction m with
  | zero => intro i hm; exact absurd hm (Nat.not_lt_zero _)
  | succ m ih =>
    intro i hm hc
    refine AW.iload_n (n := 5) dX10_wayOf_4 rfl rfl ?_
    refine AW.iload_n (n := 6) dX10_wayOf_5 rfl rfl ?_
    refine AW.icmp_ge (n := 9) (t := 29) dX10_wayOf_6 rfl rfl (fun h6 => ?_) (fun h6 => ?_)
    · have hi : i = k := by have := le_lit (b := k) (x := nI i) rfl (by omega) (by omega) h6; omega
      subst hi
      refine AW.iload_n (n := 30) dX10_wayOf_29 rfl rfl ?_
      refine AW.iret dX10_wayOf_30 rfl rfl (Nat.zero_le _) (Nat.zero_le _) ?_
      exact ⟨rfl, rfl⟩
    · have hi : i < k := nle_lit (b := k) (x := nI i) rfl (by omega) (by omega) h6
      refine AW.bipush (n := 11) (v := 10) dX10_wayOf_9 rfl rfl ?_
      refine AW.iload_n (n := 12) dX10_wayOf_11 rfl rfl ?_
      refine AW.imul (n := 13) dX10_wayOf_12 rfl ?_
      refine AW.aload_n (n := 14) dX10_wayOf_13 rfl rfl ?_
      refine AW.gr (n := 17) dX10_wayOf_14 fl_X10_48 s_136 rfl rfl ?_
      refine AW.iload_n (n := 18) dX10_wayOf_17 rfl rfl ?_
      refine AW.ia (n := 19) i dX10_wayOf_18 s_148 rfl (by omega) (by decide) rfl ?_
      refine AW.iadd (n := 20) dX10_wayOf_19 rfl ?_
      refine AW.iconst (n := 21) (v := 1) dX10_wayOf_20 rfl rfl ?_
      refine AW.iadd (n := 22) dX10_wayOf_21 rfl ?_
      refine AW.ist2 (n := 23) dX10_wayOf_22 (Nat.le_of_ble_eq_true rfl) rfl rfl ?_
      refine AW.inc3 (n := 26) (1) dX10_wayOf_23 rfl (Nat.le_of_ble_eq_true rfl) rfl rfl ?_
      refine AW.goto (t := 4) dX10_wayOf_26 rfl ?_
      rw [nI_1]
      exact ih (i + 1) (by omega) (by omega)
set_option maxHeartbeats 4000000 in
set_option maxRecDepth 100000 in
theorem c_X10_wayOf {μ : Me} {e : Nat × (Nat → aC)} {k : Nat} (hk : k ≤ 7) : AC 0 0 0 mX10_wayOf [.ref 136, .int (nI k)] (wS μ e) (a_eq (some (.int (mWOf (μ 148) k))) (wS μ e)) := by
  refine AC.of (L := [some (.ref 136), some (.int (nI k)), none, none]) (j := 2) (by decide) rfl (Nat.le_of_ble_eq_true rfl) ?_
  refine AW.iconst (n := 1) (v := 0) dX10_wayOf_0 rfl rfl ?_
  refine AW.ist2 (n := 2) dX10_wayOf_1 (Nat.le_of_ble_eq_true rfl) rfl rfl ?_
  refine AW.iconst (n := 3) (v := 0) dX10_wayOf_2 rfl rfl ?_
  refine AW.ist3 (n := 4) dX10_wayOf_3 (Nat.le_of_ble_eq_true rfl) rfl rfl ?_
  exact l_X10_wayOf hk (k + 1) 0 (by omega) (by omega)
set_option maxHeartbeats 4000000 in
set_option maxRecDepth 100000 in
theorem c_X10_exchange {μ : Me} {e : Nat × (Nat → aC)} {a b : Nat} (ha : a < 7) (hb : b < 7) : AC 0 0 0 mX10_exchange [.ref 136, .int (nI a), .int (nI b)] (wS μ e) (a_eq none (wS (mr μ 148 (swp (μ 148) a b)) e)) := by
  refine AC.of (L := [some (.ref 136), some (.int (nI a)), some (.int (nI b)), none]) (j := 1) (by decide) rfl (Nat.le_of_ble_eq_true rfl) ?_
  refine AW.aload_n (n := 1) dX10_exchange_0 rfl rfl ?_
  refine AW.gr (n := 4) dX10_exchange_1 fl_X10_48 s_136 rfl rfl ?_
  refine AW.iload_n (n := 5) dX10_exchange_4 rfl rfl ?_
  refine AW.ia (n := 6) a dX10_exchange_5 s_148 rfl (by omega) (by decide) rfl ?_
  refine AW.ist3 (n := 7) dX10_exchange_6 (Nat.le_of_ble_eq_true rfl) rfl rfl ?_
  refine AW.aload_n (n := 8) dX10_exchange_7 rfl rfl ?_
  refine AW.gr (n := 11) dX10_exchange_8 fl_X10_48 s_136 rfl rfl ?_
  refine AW.iload_n (n := 12) dX10_exchange_11 rfl rfl ?_
  refine AW.aload_n (n := 13) dX10_exchange_12 rfl rfl ?_
  refine AW.gr (n := 16) dX10_exchange_13 fl_X10_48 s_136 rfl rfl ?_
  refine AW.iload_n (n := 17) dX10_exchange_16 rfl rfl ?_
  refine AW.ia (n := 18) b dX10_exchange_17 s_148 rfl (by omega) (by decide) rfl ?_
  refine AW.is (n := 19) a dX10_exchange_18 s_148 rfl (by omega) (by decide) rfl ?_
  refine AW.aload_n (n := 20) dX10_exchange_19 rfl rfl ?_
  refine AW.gr (n := 23) dX10_exchange_20 fl_X10_48 s_136 rfl rfl ?_
  refine AW.iload_n (n := 24) dX10_exchange_23 rfl rfl ?_
  refine AW.iload_n (n := 25) dX10_exchange_24 rfl rfl ?_
  refine AW.is (n := 26) b dX10_exchange_25 s_148 rfl (by omega) (by decide) rfl ?_
  refine AW.ret dX10_exchange_26 rfl (Nat.zero_le _) (Nat.zero_le _) ?_
  exact ⟨rfl, by rw [mu2_sw]⟩
set_option maxHeartbeats 4000000 in
set_option maxRecDepth 100000 in
theorem l_X10_nx78 {μ : Me} {e : Nat × (Nat → aC)} {m : Nat} {L2 L3 : Int32} : ∀ (k : Nat) (f : Nat → Int32) (a b : Nat), b < a + k → a ≤ 7 → b < 7 → AW none 1 0 0 mX10_nextRow 0 0 78 [some (.ref 136), some (.int (nI m)), some (.int L2), some (.int L3), some (.int (nI a)), some (.int (nI b))] [] (wS (mr μ 148 f) e) (a_eq (some (.int 1)) (wS (mr μ 148 (mRev k f a b)) e)) := by
  intro k
  induction k with
  | zero =>
    intro f a b h1 h2 h3
    refine AW.iload (n := 80) dX10_nextRow_78 rfl rfl ?_
    refine AW.iload (n := 82) dX10_nextRow_80 rfl rfl ?_
    refine AW.icmp_ge (n := 85) (t := 102) dX10_nextRow_82 rfl rfl (fun h82 => ?_) (fun h82 => ?_)
    · refine AW.iconst (n := 103) (v := 1) dX10_nextRow_102 rfl rfl ?_
      refine AW.iret dX10_nextRow_103 rfl rfl (Nat.zero_le _) (Nat.zero_le _) ?_
      exact ⟨rfl, rfl⟩
    · exact absurd (nI_le (a := b) (b := a) (by omega) (by omega)) h82
  | succ k ih =>
    intro f a b h1 h2 h3
    refine AW.iload (n := 80) dX10_nextRow_78 rfl rfl ?_
    refine AW.iload (n := 82) dX10_nextRow_80 rfl rfl ?_
    refine AW.icmp_ge (n := 85) (t := 102) dX10_nextRow_82 rfl rfl (fun h82 => ?_) (fun h82 => ?_)
    · refine AW.iconst (n := 103) (v := 1) dX10_nextRow_102 rfl rfl ?_
      refine AW.iret dX10_nextRow_103 rfl rfl (Nat.zero_le _) (Nat.zero_le _) ?_
      have hab : b ≤ a := le_lit (b := b) (x := nI a) rfl (by omega) (by omega) h82
      exact ⟨rfl, by rw [mRev, if_neg (by omega)]⟩
    · have hab : a < b := nle_lit (b := b) (x := nI a) rfl (by omega) (by omega) h82
      refine AW.aload_n (n := 86) dX10_nextRow_85 rfl rfl ?_
      refine AW.iload (n := 88) dX10_nextRow_86 rfl rfl ?_
      refine AW.iload (n := 90) dX10_nextRow_88 rfl rfl ?_
      refine AW.ev2v (Mc := mX10_exchange) (n := 93) dX10_nextRow_90 lk_X10_232 k_mX10_exchange s_136 rfl rfl (c_X10_exchange (a := a) (b := b) (by omega) (by omega)) (Nat.le_of_ble_eq_true rfl) (by decide) (Nat.zero_le _) (Nat.zero_le _) rfl ?_
      refine AW.inc4 (n := 96) (1) dX10_nextRow_93 rfl (Nat.le_of_ble_eq_true rfl) rfl rfl ?_
      refine AW.inc5 (n := 99) (-1) dX10_nextRow_96 rfl (Nat.le_of_ble_eq_true rfl) rfl rfl ?_
      refine AW.goto (t := 78) dX10_nextRow_99 rfl ?_
      rw [mRev, if_pos hab, nI_1, mr_mr, mr_same]
      obtain ⟨b', rfl⟩ : ∃ b', b = b' + 1 := ⟨b - 1, by omega⟩
      rw [pk_m1]
      exact ih (swp f a (b' + 1)) (a + 1) b' (by omega) (by omega) (by omega)
set_option maxHeartbeats 4000000 in
set_option maxRecDepth 100000 in
theorem l_X10_nx41 {μ : Me} {e : Nat × (Nat → aC)} {m i : Nat} (hm : m ≤ 7) (him : i + 1 < m) (hp : μ 148 i ≤ μ 148 (i + 1)) : ∀ (j : Nat), i ≤ j → j + 1 < m → AW none 1 0 0 mX10_nextRow 0 0 41 [some (.ref 136), some (.int (nI m)), some (.int (nI i)), some (.int (nI (j + 1))), none, none] [] (wS μ e) (a_eq (some (.int 1)) (wS (mr μ 148 (mRev 7 (swp (μ 148) i (mSuc (μ 148) (μ 148 i) (j + 1))) (i + 1) (m - 1))) e)) := by
  intro j
  induction j with
  | zero =>
    intro h1 h2
    have hi0 : i = 0 := by omega
    subst hi0
    have eS : mSuc (μ 148) (μ 148 0) (0 + 1) = 1 := by rw [mSuc, if_pos hp]
    rw [eS]
    refine AW.aload_n (n := 42) dX10_nextRow_41 rfl rfl ?_
    refine AW.gr (n := 45) dX10_nextRow_42 fl_X10_48 s_136 rfl rfl ?_
    refine AW.iload_n (n := 46) dX10_nextRow_45 rfl rfl ?_
    refine AW.ia (n := 47) 1 dX10_nextRow_46 s_148 rfl (by omega) (by decide) rfl ?_
    refine AW.aload_n (n := 48) dX10_nextRow_47 rfl rfl ?_
    refine AW.gr (n := 51) dX10_nextRow_48 fl_X10_48 s_136 rfl rfl ?_
    refine AW.iload_n (n := 52) dX10_nextRow_51 rfl rfl ?_
    refine AW.ia (n := 53) 0 dX10_nextRow_52 s_148 rfl (by omega) (by decide) rfl ?_
    refine AW.icmp_ge (n := 56) (t := 62) dX10_nextRow_53 rfl rfl (fun h53 => ?_) (fun h53 => ?_)
    · refine AW.aload_n (n := 63) dX10_nextRow_62 rfl rfl ?_
      refine AW.iload_n (n := 64) dX10_nextRow_63 rfl rfl ?_
      refine AW.iload_n (n := 65) dX10_nextRow_64 rfl rfl ?_
      refine AW.ev2v (Mc := mX10_exchange) (n := 68) dX10_nextRow_65 lk_X10_232 k_mX10_exchange s_136 rfl rfl (c_X10_exchange (a := 0) (b := 1) (by omega) (by omega)) (Nat.le_of_ble_eq_true rfl) (by decide) (Nat.zero_le _) (Nat.zero_le _) rfl ?_
      refine AW.iload_n (n := 69) dX10_nextRow_68 rfl rfl ?_
      refine AW.iconst (n := 70) (v := 1) dX10_nextRow_69 rfl rfl ?_
      refine AW.iadd (n := 71) dX10_nextRow_70 rfl ?_
      refine AW.ist4 (n := 73) dX10_nextRow_71 (Nat.le_of_ble_eq_true rfl) rfl rfl ?_
      refine AW.iload_n (n := 74) dX10_nextRow_73 rfl rfl ?_
      refine AW.iconst (n := 75) (v := 1) dX10_nextRow_74 rfl rfl ?_
      refine AW.isub (n := 76) dX10_nextRow_75 rfl ?_
      refine AW.ist5 (n := 78) dX10_nextRow_76 (Nat.le_of_ble_eq_true rfl) rfl rfl ?_
      rw [nI_1, show (nI m : Int32) - 1 = nI (m - 1) from pk_sub (b := 1) (by omega)]
      exact l_X10_nx78 7 _ (0 + 1) (m - 1) (by omega) (by omega) (by omega)
    · exact absurd hp h53
  | succ j ih =>
    intro h1 h2
    refine AW.aload_n (n := 42) dX10_nextRow_41 rfl rfl ?_
    refine AW.gr (n := 45) dX10_nextRow_42 fl_X10_48 s_136 rfl rfl ?_
    refine AW.iload_n (n := 46) dX10_nextRow_45 rfl rfl ?_
    refine AW.ia (n := 47) (j + 1 + 1) dX10_nextRow_46 s_148 rfl (by omega) (by decide) rfl ?_
    refine AW.aload_n (n := 48) dX10_nextRow_47 rfl rfl ?_
    refine AW.gr (n := 51) dX10_nextRow_48 fl_X10_48 s_136 rfl rfl ?_
    refine AW.iload_n (n := 52) dX10_nextRow_51 rfl rfl ?_
    refine AW.ia (n := 53) i dX10_nextRow_52 s_148 rfl (by omega) (by decide) rfl ?_
    refine AW.icmp_ge (n := 56) (t := 62) dX10_nextRow_53 rfl rfl (fun h53 => ?_) (fun h53 => ?_)
    · refine AW.aload_n (n := 63) dX10_nextRow_62 rfl rfl ?_
      refine AW.iload_n (n := 64) dX10_nextRow_63 rfl rfl ?_
      refine AW.iload_n (n := 65) dX10_nextRow_64 rfl rfl ?_
      refine AW.ev2v (Mc := mX10_exchange) (n := 68) dX10_nextRow_65 lk_X10_232 k_mX10_exchange s_136 rfl rfl (c_X10_exchange (a := i) (b := j + 1 + 1) (by omega) (by omega)) (Nat.le_of_ble_eq_true rfl) (by decide) (Nat.zero_le _) (Nat.zero_le _) rfl ?_
      refine AW.iload_n (n := 69) dX10_nextRow_68 rfl rfl ?_
      refine AW.iconst (n := 70) (v := 1) dX10_nextRow_69 rfl rfl ?_
      refine AW.iadd (n := 71) dX10_nextRow_70 rfl ?_
      refine AW.ist4 (n := 73) dX10_nextRow_71 (Nat.le_of_ble_eq_true rfl) rfl rfl ?_
      refine AW.iload_n (n := 74) dX10_nextRow_73 rfl rfl ?_
      refine AW.iconst (n := 75) (v := 1) dX10_nextRow_74 rfl rfl ?_
      refine AW.isub (n := 76) dX10_nextRow_75 rfl ?_
      refine AW.ist5 (n := 78) dX10_nextRow_76 (Nat.le_of_ble_eq_true rfl) rfl rfl ?_
      rw [mSuc, if_pos h53]
      rw [nI_1, show (nI m : Int32) - 1 = nI (m - 1) from pk_sub (b := 1) (by omega)]
      exact l_X10_nx78 7 _ (i + 1) (m - 1) (by omega) (by omega) (by omega)
    · refine AW.inc3 (n := 59) (-1) dX10_nextRow_56 rfl (Nat.le_of_ble_eq_true rfl) rfl rfl ?_
      refine AW.goto (t := 41) dX10_nextRow_59 rfl ?_
      have hij : i ≤ j := by
        rcases Nat.lt_or_ge j i with q | q
        · have : i = j + 1 := by omega
          subst this
          exact absurd hp h53
        · exact q
      rw [mSuc, if_neg h53, pk_m1]
      exact ih hij (by omega)
set_option maxHeartbeats 4000000 in
set_option maxRecDepth 100000 in
theorem l_X10_nx4 {μ : Me} {e : Nat × (Nat → aC)} {m : Nat} (hm : m ≤ 7) {Q : Option Value → aS → Prop} (h0 : mPiv (μ 148) (m - 1) = 0 → Q (some (.int 0)) (wS μ e)) (h1 : ∀ i, mPiv (μ 148) (m - 1) = i + 1 → ∀ v, (v = some (.int 1)) → Q v (wS (mr μ 148 (mRev 7 (swp (μ 148) i (mSuc (μ 148) (μ 148 i) (m - 1))) (i + 1) (m - 1))) e)) : ∀ (k : Nat), k < m → mPiv (μ 148) k = mPiv (μ 148) (m - 1) → AW none 1 0 0 mX10_nextRow 0 0 4 [some (.ref 136), some (.int (nI m)), some (.int (nI k - 1)), none, none, none] [] (wS μ e) Q := by
  intro k
  induction k with
  | zero =>
    intro hk he
    refine AW.iload_n (n := 5) dX10_nextRow_4 rfl rfl ?_
    refine AW.if_lt (n := 8) (t := 31) dX10_nextRow_5 rfl rfl (fun h5 => ?_) (fun h5 => ?_)
    · refine AW.iload_n (n := 32) dX10_nextRow_31 rfl rfl ?_
      refine AW.if_ge (n := 35) (t := 37) dX10_nextRow_32 rfl rfl (fun h32 => ?_) (fun h32 => ?_)
      · exact absurd h32 (by decide)
      · refine AW.iconst (n := 36) (v := 0) dX10_nextRow_35 rfl rfl ?_
        refine AW.iret dX10_nextRow_36 rfl rfl (Nat.zero_le _) (Nat.zero_le _) ?_
        exact h0 (he.symm.trans rfl)
    · exact absurd (by decide) h5
  | succ k ih =>
    intro hk he
    rw [nI_pred]
    refine AW.iload_n (n := 5) dX10_nextRow_4 rfl rfl ?_
    refine AW.if_lt (n := 8) (t := 31) dX10_nextRow_5 rfl rfl (fun h5 => ?_) (fun h5 => ?_)
    · exact absurd h5 (nI_pos (by omega))
    · refine AW.aload_n (n := 9) dX10_nextRow_8 rfl rfl ?_
      refine AW.gr (n := 12) dX10_nextRow_9 fl_X10_48 s_136 rfl rfl ?_
      refine AW.iload_n (n := 13) dX10_nextRow_12 rfl rfl ?_
      refine AW.ia (n := 14) k dX10_nextRow_13 s_148 rfl (by omega) (by decide) rfl ?_
      refine AW.aload_n (n := 15) dX10_nextRow_14 rfl rfl ?_
      refine AW.gr (n := 18) dX10_nextRow_15 fl_X10_48 s_136 rfl rfl ?_
      refine AW.iload_n (n := 19) dX10_nextRow_18 rfl rfl ?_
      refine AW.iconst (n := 20) (v := 1) dX10_nextRow_19 rfl rfl ?_
      refine AW.iadd (n := 21) dX10_nextRow_20 rfl ?_
      refine AW.ia (n := 22) (k + 1) dX10_nextRow_21 s_148 (nI_1 k) (by omega) (by decide) rfl ?_
      refine AW.icmp_le (n := 25) (t := 31) dX10_nextRow_22 rfl rfl (fun h22 => ?_) (fun h22 => ?_)
      · refine AW.iload_n (n := 32) dX10_nextRow_31 rfl rfl ?_
        refine AW.if_ge (n := 35) (t := 37) dX10_nextRow_32 rfl rfl (fun h32 => ?_) (fun h32 => ?_)
        · refine AW.iload_n (n := 38) dX10_nextRow_37 rfl rfl ?_
          refine AW.iconst (n := 39) (v := 1) dX10_nextRow_38 rfl rfl ?_
          refine AW.isub (n := 40) dX10_nextRow_39 rfl ?_
          refine AW.ist3 (n := 41) dX10_nextRow_40 (Nat.le_of_ble_eq_true rfl) rfl rfl ?_
          have e1 : mPiv (μ 148) (m - 1) = k + 1 := by rw [← he, mPiv, if_pos h22]
          obtain ⟨j, rfl⟩ : ∃ j, m = j + 1 + 1 := ⟨m - 2, by omega⟩
          rw [nI_pred]
          refine AW.mono ?_ (l_X10_nx41 hm (by omega) h22 j (by omega) (by omega))
          rintro v σ ⟨rfl, rfl⟩
          exact h1 k e1 _ rfl
        · exact absurd (nI_pos' (by omega)) h32
      · refine AW.inc2 (n := 28) (-1) dX10_nextRow_25 rfl (Nat.le_of_ble_eq_true rfl) rfl rfl ?_
        refine AW.goto (t := 4) dX10_nextRow_28 rfl ?_
        rw [← Int32.sub_eq_add_neg]
        refine ih (by omega) ?_
        rw [← he, mPiv, if_neg h22]
set_option maxHeartbeats 4000000 in
set_option maxRecDepth 100000 in
theorem c_X10_nextRow {μ : Me} {e : Nat × (Nat → aC)} {m : Nat} (hm : m ≤ 7) (hm0 : 0 < m) : AC 1 0 0 mX10_nextRow [.ref 136, .int (nI m)] (wS μ e) (a_eq (some (.int (b2i (nx (μ 148) m).isSome))) (wS (mr μ 148 ((nx (μ 148) m).getD (μ 148))) e)) := by
  refine AC.of (L := [some (.ref 136), some (.int (nI m)), none, none, none, none]) (j := 4) (by decide) rfl (Nat.le_of_ble_eq_true rfl) ?_
  refine AW.iload_n (n := 1) dX10_nextRow_0 rfl rfl ?_
  refine AW.iconst (n := 2) (v := 2) dX10_nextRow_1 rfl rfl ?_
  refine AW.isub (n := 3) dX10_nextRow_2 rfl ?_
  refine AW.ist2 (n := 4) dX10_nextRow_3 (Nat.le_of_ble_eq_true rfl) rfl rfl ?_
  obtain ⟨k, rfl⟩ : ∃ k, m = k + 1 := ⟨m - 1, by omega⟩
  rw [show (nI (k + 1) : Int32) - 2 = nI k - 1 from by rw [← nI_1]; simp [Int32.sub_eq_add_neg, Int32.add_assoc]]
  refine l_X10_nx4 hm ?_ ?_ k (by omega) rfl
  · intro q
    have e9 : nx (μ 148) (k + 1) = none := by unfold nx; rw [q]
    rw [e9]
    exact ⟨rfl, by rw [Option.getD_none, mr_self]⟩
  · intro i q v hv
    have e9 : nx (μ 148) (k + 1) = some (mRev 7 (swp (μ 148) i (mSuc (μ 148) (μ 148 i) (k + 1 - 1))) (i + 1) (k + 1 - 1)) := by unfold nx; rw [q]
    rw [e9, hv]
    exact ⟨rfl, rfl⟩
