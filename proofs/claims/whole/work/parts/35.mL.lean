def mFr (b : Nat) (ν ν' : Me) : Prop := (∀ a, a ≠ 137 → a ≠ 147 → a ≠ 136 → ν' a = ν a) ∧ (∀ j, j ≠ 20 → j ≠ 21 → ν' 136 j = ν 136 j) ∧ (∀ j, (j < b ∨ b + 17 ≤ j) → ν' 137 j = ν 137 j)
theorem mFr.rfl' (b : Nat) (ν : Me) : mFr b ν ν := ⟨fun _ _ _ _ => rfl, fun _ _ _ => rfl, fun _ _ => rfl⟩
theorem mFr.trans {b : Nat} {ν ν' ν'' : Me} (h : mFr b ν ν') (g : mFr b ν' ν'') : mFr b ν ν'' := ⟨fun a q1 q2 q3 => (g.1 a q1 q2 q3).trans (h.1 a q1 q2 q3), fun j q1 q2 => (g.2.1 j q1 q2).trans (h.2.1 j q1 q2), fun j q => (g.2.2 j q).trans (h.2.2 j q)⟩
theorem mFr.mu {b a i : Nat} {ν ν' : Me} {x : Int32} (h : mFr b ν ν') (q : (a = 137 ∧ b ≤ i ∧ i < b + 17) ∨ a = 147 ∨ (a = 136 ∧ (i = 20 ∨ i = 21))) : mFr b ν (mu ν' a i x) := by
  refine h.trans ⟨fun c q1 q2 q3 => mu_ne (by omega), fun j q1 q2 => ?_, fun j q1 => ?_⟩
  · rw [mu_at, if_neg (by omega)]
  · rw [mu_at, if_neg (by omega)]
theorem mFr.visit {b s : Nat} {ν ν' : Me} {tm : Int32} {rg : Bool} (h : mFr b ν ν') (hs : s < 7) : mFr b ν (mVisit ν' b s tm rg).2 := by
  unfold mVisit
  split
  · exact (h.mu (by omega)).mu (by omega)
  · exact (((h.mu (by omega)).mu (by omega)).mu (by omega)).mu (by omega)
theorem mRL_fr {b n : Nat} {way haste : Int32} {ν : Me} (hw : mWok way n) (h7 : n ≤ 7) : ∀ i, i ≤ dg 10 way → mFr b ν (mRL b way haste ν i).2.2.2 := by
  intro i
  induction i with
  | zero => intro _; exact mFr.rfl' b ν
  | succ i ih =>
    intro hi
    have h := ih (by omega)
    obtain ⟨j, hj, hjj⟩ := hw i (by omega)
    have hc : (mStopOf way i).toNatClampNeg = j := by rw [hjj, cl_nI (by omega)]
    rw [mRL, mSt]
    split
    · unfold mStC mStM
      rw [hc]
      exact (h.mu (by omega)).visit (by omega)
    · unfold mStM
      rw [hc]
      exact h.mu (by omega)
theorem fill_fr {b : Nat} {ν : Me} : ∀ i, mFr b ν (mFill ν i) := by
  intro i
  induction i with
  | zero => exact mFr.rfl' b ν
  | succ i ih => exact ih.mu (by omega)
theorem mRI_fr {b n : Nat} {way haste : Int32} {ν : Me} (hw : mWok way n) (h7 : n ≤ 7) : mFr b ν (mRoundIn ν b way haste).2 := by
  unfold mRoundIn mRE
  exact (((((fill_fr 7).mu (by omega)).mu (by omega)).trans (mRL_fr hw h7 _ (Nat.le_refl _))).mu (by omega)).mu (by omega)
theorem mG.fr {b n d : Nat} {ν ν' : Me} (h : mG ν n d) (f : mFr b ν ν') : mG ν' n d := h.of (f.2.1 8 (by decide) (by decide)) (f.2.1 11 (by decide) (by decide)) (f.1 139 (by decide) (by decide) (by decide)) (f.1 140 (by decide) (by decide) (by decide)) (f.1 143 (by decide) (by decide) (by decide))
theorem cpy_lo {ν : Me} {x y j : Nat} (h : j < y ∨ y + 18 ≤ j) : ∀ i, i ≤ 18 → mCpy ν x y i 137 j = ν 137 j := by
  intro i
  induction i with
  | zero => intro _; rfl
  | succ i ih => intro hi; rw [mCpy, mu_nj (by omega), ih (by omega)]
theorem rem_lo {ν : Me} {u j : Nat} (h : j < 72) : mRem ν u 137 j = ν 137 j := by
  have hL : ∀ i, mRemL ν i 137 j = ν 137 j := by
    intro i
    induction i with
    | zero => rfl
    | succ i ih => rw [mRemL, mCopy, cpy_lo (Or.inl (by omega)) 18 (by omega), ih]
  unfold mRem
  split
  · rw [mu_ne (by decide), mCopy, cpy_lo (Or.inl (by omega)) 18 (by omega), mu_ne (by decide), hL]
  · rw [mu_ne (by decide), mCopy, cpy_lo (Or.inl (by omega)) 18 (by omega)]
def qRound (ν : Me) (u : Nat) (way h : Int32) : Int32 × Me :=
  if sIsWay (ν 136 8) way then (if sWithin h 0 3 then (if ν 137 14 ≤ 9000 then mRoundIn (mRem ν u) 0 way h else (-1000000004, ν)) else (-1000000002, ν)) else (-1000000001, ν)
def qFetch (ν : Me) (u : Nat) (s : Int32) : Int32 × Me :=
  if sHas (ν 136 8) s then (if ν 137 s.toNatClampNeg = 3 then (1, mu (mRem ν u) 137 s.toNatClampNeg 2) else if ν 137 s.toNatClampNeg = 4 then (0, mu (mRem ν u) 137 s.toNatClampNeg 2) else (-1000000003, ν)) else (-1000000001, ν)
def qOrder (ν : Me) (u : Nat) (s : Int32) : Int32 × Me :=
  if sHas (ν 136 8) s then (if ν 137 s.toNatClampNeg = 2 then (1, mu (mRem ν u) 137 s.toNatClampNeg 1) else (-1000000003, ν)) else (-1000000001, ν)
def qThank (ν : Me) (u : Nat) (s : Int32) : Int32 × Me :=
  if sHas (ν 136 8) s then (if ν 143 s.toNatClampNeg = -1 then (-1000000003, ν) else (mRem ν u 137 (7 + s.toNatClampNeg), mu (mRem ν u) 137 (7 + s.toNatClampNeg) 0)) else (-1000000001, ν)
def mUndo (ν : Me) (u : Nat) : Me := mu (mCopy (mu ν 136 22 (nI u)) (72 + 18 * u) 0) 137 17 (ν 137 17)
def qUndo (ν : Me) (u : Nat) (n : Int32) : Int32 × Me :=
  if sWithin n 1 30 then (if n ≤ ν 136 22 then (mUndo ν (u - n.toNatClampNeg) 137 14, mUndo ν (u - n.toNatClampNeg)) else (-1000000003, ν)) else (-1000000002, ν)
def mTry (ν : Me) (way h : Int32) : Int32 × Me := mRoundIn (mCopy ν 0 18) 18 way h
def qComes (ν : Me) (s way h : Int32) : Int32 × Me :=
  if sHas (ν 136 8) s then (if sIsWay (ν 136 8) way then (if sWithin h 0 3 then ((mTry ν way h).2 147 s.toNatClampNeg, (mTry ν way h).2) else (-1000000002, ν)) else (-1000000001, ν)) else (-1000000001, ν)
def qHome (ν : Me) (way h : Int32) : Int32 × Me := if sIsWay (ν 136 8) way then (if sWithin h 0 3 then mTry ν way h else (-1000000002, ν)) else (-1000000001, ν)
def mFgs (f : Nat → Int32) : Nat → Int32
  | 0 => 0
  | i + 1 => 10 * mFgs f i + f (18 + i)
def qOutcome (ν : Me) (n : Nat) (way h : Int32) : Int32 × Me := if sIsWay (ν 136 8) way then (if sWithin h 0 3 then (mFgs ((mTry ν way h).2 137) n, (mTry ν way h).2) else (-1000000002, ν)) else (-1000000001, ν)
def qBath (ν : Me) (s a b m : Int32) : Int32 × Me :=
  if sHas (ν 136 8) s then (if sIsWay (ν 136 8) a then (if sIsWay (ν 136 8) b then (if sWithin m 1 99 then
    (sBath ((mTry ν a 0).2 147 s.toNatClampNeg) ((mTry (mTry ν a 0).2 b 0).2 147 s.toNatClampNeg) m 720 0, (mTry (mTry ν a 0).2 b 0).2) else (-1000000002, ν)) else (-1000000001, ν)) else (-1000000001, ν)) else (-1000000001, ν)
theorem mTry_fr {n : Nat} {way haste : Int32} {ν : Me} (hw : mWok way n) (h7 : n ≤ 7) : mFr 18 (mCopy ν 0 18) (mTry ν way haste).2 := mRI_fr hw h7
theorem mG.try {n d : Nat} {way haste : Int32} {ν : Me} (h : mG ν n d) (hw : mWok way n) : mG (mTry ν way haste).2 n d := h.copy.fr (mTry_fr hw h.2.1)
set_option maxHeartbeats 4000000 in
set_option maxRecDepth 100000 in
theorem c_X10_round {μ : Me} {e : Nat × (Nat → aC)} {n d u : Nat} {way h : Int32} (hG : mG μ n d) (hu : μ 136 22 = nI u) (hu9 : u ≤ 30) : AC 4 0 0 mX10_round [.ref 136, .int way, .int h] (wS μ e) (a_eq (some (.int ((qRound μ u way h).1))) (wS ((qRound μ u way h).2) e)) := by
  refine AC.of (L := [some (.ref 136), some (.int way), some (.int h)]) (j := 0) (by decide) rfl (Nat.le_of_ble_eq_true rfl) ?_
  refine AW.aload_n (n := 1) dX10_round_0 rfl rfl ?_
  refine AW.iload_n (n := 2) dX10_round_1 rfl rfl ?_
  refine AW.ev1i (Mc := mX10_isWay) (n := 5) dX10_round_2 lk_X10_200 k_mX10_isWay s_136 rfl rfl (c_X10_isWay hG.1 hG.2.1) (Nat.le_of_ble_eq_true rfl) (by decide) (Nat.zero_le _) (Nat.zero_le _) rfl ?_
  refine AW.bif_ne (n := 8) (t := 11) dX10_round_5 rfl rfl (fun h5 => ?_) (fun h5 => ?_)
  · refine AW.iload_n (n := 12) dX10_round_11 rfl rfl ?_
    refine AW.es1i (Mc := mX10_isHaste) (n := 15) dX10_round_12 lk_X10_203 k_mX10_isHaste (c_X10_isHaste) (Nat.le_of_ble_eq_true rfl) (by decide) (Nat.zero_le _) (Nat.zero_le _) rfl ?_
    refine AW.bif_ne (n := 18) (t := 21) dX10_round_15 rfl rfl (fun h15 => ?_) (fun h15 => ?_)
    · refine AW.aload_n (n := 22) dX10_round_21 rfl rfl ?_
      refine AW.gr (n := 25) dX10_round_22 fl_X10_7 s_136 rfl rfl ?_
      refine AW.bipush (n := 27) (v := 14) dX10_round_25 rfl rfl ?_
      refine AW.ia (n := 28) 14 dX10_round_27 s_137 rfl (by omega) (by decide) rfl ?_
      refine AW.sipush (n := 31) (v := 9000) dX10_round_28 rfl rfl ?_
      refine AW.icmp_le (n := 34) (t := 37) dX10_round_31 rfl rfl (fun h31 => ?_) (fun h31 => ?_)
      · refine AW.aload_n (n := 38) dX10_round_37 rfl rfl ?_
        refine AW.ev0v (Mc := mX10_remember) (n := 41) dX10_round_38 lk_X10_206 k_mX10_remember s_136 rfl rfl (c_X10_remember hu hu9) (Nat.le_of_ble_eq_true rfl) (by decide) (Nat.zero_le _) (Nat.zero_le _) rfl ?_
        refine AW.aload_n (n := 42) dX10_round_41 rfl rfl ?_
        refine AW.iconst (n := 43) (v := 0) dX10_round_42 rfl rfl ?_
        refine AW.iload_n (n := 44) dX10_round_43 rfl rfl ?_
        refine AW.iload_n (n := 45) dX10_round_44 rfl rfl ?_
        refine AW.ev3i (Mc := mX10_roundIn) (n := 48) dX10_round_45 lk_X10_196 k_mX10_roundIn s_136 rfl rfl (c_X10_roundIn (b := 0) (by omega) h15 (mWok.of hG.1 hG.2.1 h5) hG.rem) (Nat.le_of_ble_eq_true rfl) (by decide) (Nat.zero_le _) (Nat.zero_le _) rfl ?_
        refine AW.iret dX10_round_48 rfl rfl (Nat.zero_le _) (Nat.zero_le _) ?_
        exact ⟨by simp [qRound, h5, h15, h31], by simp [qRound, h5, h15, h31]⟩
      · refine AW.ldc (n := 36) dX10_round_34 kc_X10_76 rfl ?_
        refine AW.iret dX10_round_36 rfl rfl (Nat.zero_le _) (Nat.zero_le _) ?_
        exact ⟨by simp [qRound, h5, h15, h31], by simp [qRound, h5, h15, h31]⟩
    · refine AW.ldc (n := 20) dX10_round_18 kc_X10_72 rfl ?_
      refine AW.iret dX10_round_20 rfl rfl (Nat.zero_le _) (Nat.zero_le _) ?_
      exact ⟨by simp [qRound, h5, h15], by simp [qRound, h5, h15]⟩
  · refine AW.ldc (n := 10) dX10_round_8 kc_X10_167 rfl ?_
    refine AW.iret dX10_round_10 rfl rfl (Nat.zero_le _) (Nat.zero_le _) ?_
    exact ⟨by simp [qRound, h5], by simp [qRound, h5]⟩
set_option maxHeartbeats 4000000 in
set_option maxRecDepth 100000 in
theorem c_X10_fetch {μ : Me} {e : Nat × (Nat → aC)} {n d u : Nat} {s : Int32} (hG : mG μ n d) (hu : μ 136 22 = nI u) (hu9 : u ≤ 30) : AC 2 0 0 mX10_fetch [.ref 136, .int s] (wS μ e) (a_eq (some (.int ((qFetch μ u s).1))) (wS ((qFetch μ u s).2) e)) := by
  refine AC.of (L := [some (.ref 136), some (.int s), none]) (j := 1) (by decide) rfl (Nat.le_of_ble_eq_true rfl) ?_
  refine AW.aload_n (n := 1) dX10_fetch_0 rfl rfl ?_
  refine AW.iload_n (n := 2) dX10_fetch_1 rfl rfl ?_
  refine AW.ev1i (Mc := mX10_isStop) (n := 5) dX10_fetch_2 lk_X10_150 k_mX10_isStop s_136 rfl rfl (c_X10_isStop hG.1 hG.2.1) (Nat.le_of_ble_eq_true rfl) (by decide) (Nat.zero_le _) (Nat.zero_le _) rfl ?_
  refine AW.bif_ne (n := 8) (t := 11) dX10_fetch_5 rfl rfl (fun h5 => ?_) (fun h5 => ?_)
  · obtain ⟨j, hj, rfl⟩ := sHas_j hG.1 hG.2.1 h5
    have h7 := hG.2.1
    have hjc := cl_nI (show j < 2147483648 by omega)
    refine AW.aload_n (n := 12) dX10_fetch_11 rfl rfl ?_
    refine AW.gr (n := 15) dX10_fetch_12 fl_X10_7 s_136 rfl rfl ?_
    refine AW.iload_n (n := 16) dX10_fetch_15 rfl rfl ?_
    refine AW.ia (n := 17) j dX10_fetch_16 s_137 rfl (by omega) (by decide) rfl ?_
    refine AW.iconst (n := 18) (v := 3) dX10_fetch_17 rfl rfl ?_
    refine AW.icmp_eq (n := 21) (t := 34) dX10_fetch_18 rfl rfl (fun h18 => ?_) (fun h18 => ?_)
    · refine AW.aload_n (n := 35) dX10_fetch_34 rfl rfl ?_
      refine AW.ev0v (Mc := mX10_remember) (n := 38) dX10_fetch_35 lk_X10_206 k_mX10_remember s_136 rfl rfl (c_X10_remember hu hu9) (Nat.le_of_ble_eq_true rfl) (by decide) (Nat.zero_le _) (Nat.zero_le _) rfl ?_
      refine AW.aload_n (n := 39) dX10_fetch_38 rfl rfl ?_
      refine AW.gr (n := 42) dX10_fetch_39 fl_X10_7 s_136 rfl rfl ?_
      refine AW.iload_n (n := 43) dX10_fetch_42 rfl rfl ?_
      refine AW.ia (n := 44) j dX10_fetch_43 s_137 rfl (by omega) (by decide) rfl ?_
      refine AW.iconst (n := 45) (v := 3) dX10_fetch_44 rfl rfl ?_
      refine AW.icmp_ne (n := 48) (t := 52) dX10_fetch_45 rfl rfl (fun h45 => ?_) (fun h45 => ?_)
      · exact absurd ((rem_lo (by omega)).trans h18) h45
      · refine AW.iconst (n := 49) (v := 1) dX10_fetch_48 rfl rfl ?_
        refine AW.goto (t := 53) dX10_fetch_49 rfl ?_
        refine AW.es1i (Mc := mX10_one) (n := 56) dX10_fetch_53 lk_X10_160 k_mX10_one (c_X10_one (b := true)) (Nat.le_of_ble_eq_true rfl) (by decide) (Nat.zero_le _) (Nat.zero_le _) rfl ?_
        refine AW.ist2 (n := 57) dX10_fetch_56 (Nat.le_of_ble_eq_true rfl) rfl rfl ?_
        refine AW.aload_n (n := 58) dX10_fetch_57 rfl rfl ?_
        refine AW.gr (n := 61) dX10_fetch_58 fl_X10_7 s_136 rfl rfl ?_
        refine AW.iload_n (n := 62) dX10_fetch_61 rfl rfl ?_
        refine AW.iconst (n := 63) (v := 2) dX10_fetch_62 rfl rfl ?_
        refine AW.is (n := 64) j dX10_fetch_63 s_137 rfl (by omega) (by decide) rfl ?_
        refine AW.iload_n (n := 65) dX10_fetch_64 rfl rfl ?_
        refine AW.iret dX10_fetch_65 rfl rfl (Nat.zero_le _) (Nat.zero_le _) ?_
        exact ⟨by simp [qFetch, hjc, b2i, h5, h18], by simp [qFetch, hjc, h5, h18]⟩
    · refine AW.aload_n (n := 22) dX10_fetch_21 rfl rfl ?_
      refine AW.gr (n := 25) dX10_fetch_22 fl_X10_7 s_136 rfl rfl ?_
      refine AW.iload_n (n := 26) dX10_fetch_25 rfl rfl ?_
      refine AW.ia (n := 27) j dX10_fetch_26 s_137 rfl (by omega) (by decide) rfl ?_
      refine AW.iconst (n := 28) (v := 4) dX10_fetch_27 rfl rfl ?_
      refine AW.icmp_eq (n := 31) (t := 34) dX10_fetch_28 rfl rfl (fun h28 => ?_) (fun h28 => ?_)
      · refine AW.aload_n (n := 35) dX10_fetch_34 rfl rfl ?_
        refine AW.ev0v (Mc := mX10_remember) (n := 38) dX10_fetch_35 lk_X10_206 k_mX10_remember s_136 rfl rfl (c_X10_remember hu hu9) (Nat.le_of_ble_eq_true rfl) (by decide) (Nat.zero_le _) (Nat.zero_le _) rfl ?_
        refine AW.aload_n (n := 39) dX10_fetch_38 rfl rfl ?_
        refine AW.gr (n := 42) dX10_fetch_39 fl_X10_7 s_136 rfl rfl ?_
        refine AW.iload_n (n := 43) dX10_fetch_42 rfl rfl ?_
        refine AW.ia (n := 44) j dX10_fetch_43 s_137 rfl (by omega) (by decide) rfl ?_
        refine AW.iconst (n := 45) (v := 3) dX10_fetch_44 rfl rfl ?_
        refine AW.icmp_ne (n := 48) (t := 52) dX10_fetch_45 rfl rfl (fun h45 => ?_) (fun h45 => ?_)
        · refine AW.iconst (n := 53) (v := 0) dX10_fetch_52 rfl rfl ?_
          refine AW.es1i (Mc := mX10_one) (n := 56) dX10_fetch_53 lk_X10_160 k_mX10_one (c_X10_one (b := false)) (Nat.le_of_ble_eq_true rfl) (by decide) (Nat.zero_le _) (Nat.zero_le _) rfl ?_
          refine AW.ist2 (n := 57) dX10_fetch_56 (Nat.le_of_ble_eq_true rfl) rfl rfl ?_
          refine AW.aload_n (n := 58) dX10_fetch_57 rfl rfl ?_
          refine AW.gr (n := 61) dX10_fetch_58 fl_X10_7 s_136 rfl rfl ?_
          refine AW.iload_n (n := 62) dX10_fetch_61 rfl rfl ?_
          refine AW.iconst (n := 63) (v := 2) dX10_fetch_62 rfl rfl ?_
          refine AW.is (n := 64) j dX10_fetch_63 s_137 rfl (by omega) (by decide) rfl ?_
          refine AW.iload_n (n := 65) dX10_fetch_64 rfl rfl ?_
          refine AW.iret dX10_fetch_65 rfl rfl (Nat.zero_le _) (Nat.zero_le _) ?_
          exact ⟨by simp [qFetch, hjc, b2i, h5, h18, h28], by simp [qFetch, hjc, h5, h18, h28]⟩
        · exact absurd ((rem_lo (by omega)).symm.trans h45) h18
      · refine AW.ldc (n := 33) dX10_fetch_31 kc_X10_209 rfl ?_
        refine AW.iret dX10_fetch_33 rfl rfl (Nat.zero_le _) (Nat.zero_le _) ?_
        exact ⟨by simp [qFetch, hjc, b2i, h5, h18, h28], by simp [qFetch, hjc, h5, h18, h28]⟩
  · refine AW.ldc (n := 10) dX10_fetch_8 kc_X10_167 rfl ?_
    refine AW.iret dX10_fetch_10 rfl rfl (Nat.zero_le _) (Nat.zero_le _) ?_
    exact ⟨by simp [qFetch, h5], by simp [qFetch, h5]⟩
set_option maxHeartbeats 4000000 in
set_option maxRecDepth 100000 in
theorem c_X10_order {μ : Me} {e : Nat × (Nat → aC)} {n d u : Nat} {s : Int32} (hG : mG μ n d) (hu : μ 136 22 = nI u) (hu9 : u ≤ 30) : AC 2 0 0 mX10_order [.ref 136, .int s] (wS μ e) (a_eq (some (.int ((qOrder μ u s).1))) (wS ((qOrder μ u s).2) e)) := by
  refine AC.of (L := [some (.ref 136), some (.int s)]) (j := 0) (by decide) rfl (Nat.le_of_ble_eq_true rfl) ?_
  refine AW.aload_n (n := 1) dX10_order_0 rfl rfl ?_
  refine AW.iload_n (n := 2) dX10_order_1 rfl rfl ?_
  refine AW.ev1i (Mc := mX10_isStop) (n := 5) dX10_order_2 lk_X10_150 k_mX10_isStop s_136 rfl rfl (c_X10_isStop hG.1 hG.2.1) (Nat.le_of_ble_eq_true rfl) (by decide) (Nat.zero_le _) (Nat.zero_le _) rfl ?_
  refine AW.bif_ne (n := 8) (t := 11) dX10_order_5 rfl rfl (fun h5 => ?_) (fun h5 => ?_)
  · obtain ⟨j, hj, rfl⟩ := sHas_j hG.1 hG.2.1 h5
    have h7 := hG.2.1
    have hjc := cl_nI (show j < 2147483648 by omega)
    refine AW.aload_n (n := 12) dX10_order_11 rfl rfl ?_
    refine AW.gr (n := 15) dX10_order_12 fl_X10_7 s_136 rfl rfl ?_
    refine AW.iload_n (n := 16) dX10_order_15 rfl rfl ?_
    refine AW.ia (n := 17) j dX10_order_16 s_137 rfl (by omega) (by decide) rfl ?_
    refine AW.iconst (n := 18) (v := 2) dX10_order_17 rfl rfl ?_
    refine AW.icmp_eq (n := 21) (t := 24) dX10_order_18 rfl rfl (fun h18 => ?_) (fun h18 => ?_)
    · refine AW.aload_n (n := 25) dX10_order_24 rfl rfl ?_
      refine AW.ev0v (Mc := mX10_remember) (n := 28) dX10_order_25 lk_X10_206 k_mX10_remember s_136 rfl rfl (c_X10_remember hu hu9) (Nat.le_of_ble_eq_true rfl) (by decide) (Nat.zero_le _) (Nat.zero_le _) rfl ?_
      refine AW.aload_n (n := 29) dX10_order_28 rfl rfl ?_
      refine AW.gr (n := 32) dX10_order_29 fl_X10_7 s_136 rfl rfl ?_
      refine AW.iload_n (n := 33) dX10_order_32 rfl rfl ?_
      refine AW.iconst (n := 34) (v := 1) dX10_order_33 rfl rfl ?_
      refine AW.is (n := 35) j dX10_order_34 s_137 rfl (by omega) (by decide) rfl ?_
      refine AW.iconst (n := 36) (v := 1) dX10_order_35 rfl rfl ?_
      refine AW.iret dX10_order_36 rfl rfl (Nat.zero_le _) (Nat.zero_le _) ?_
      exact ⟨by simp [qOrder, h5, h18, hjc], by simp [qOrder, h5, h18, hjc]⟩
    · refine AW.ldc (n := 23) dX10_order_21 kc_X10_209 rfl ?_
      refine AW.iret dX10_order_23 rfl rfl (Nat.zero_le _) (Nat.zero_le _) ?_
      exact ⟨by simp [qOrder, h5, h18, hjc], by simp [qOrder, h5, h18, hjc]⟩
  · refine AW.ldc (n := 10) dX10_order_8 kc_X10_167 rfl ?_
    refine AW.iret dX10_order_10 rfl rfl (Nat.zero_le _) (Nat.zero_le _) ?_
    exact ⟨by simp [qOrder, h5], by simp [qOrder, h5]⟩
set_option maxHeartbeats 4000000 in
set_option maxRecDepth 100000 in
theorem c_X10_thank {μ : Me} {e : Nat × (Nat → aC)} {n d u : Nat} {s : Int32} (hG : mG μ n d) (hu : μ 136 22 = nI u) (hu9 : u ≤ 30) : AC 2 0 0 mX10_thank [.ref 136, .int s] (wS μ e) (a_eq (some (.int ((qThank μ u s).1))) (wS ((qThank μ u s).2) e)) := by
  refine AC.of (L := [some (.ref 136), some (.int s), none]) (j := 1) (by decide) rfl (Nat.le_of_ble_eq_true rfl) ?_
  refine AW.aload_n (n := 1) dX10_thank_0 rfl rfl ?_
  refine AW.iload_n (n := 2) dX10_thank_1 rfl rfl ?_
  refine AW.ev1i (Mc := mX10_isStop) (n := 5) dX10_thank_2 lk_X10_150 k_mX10_isStop s_136 rfl rfl (c_X10_isStop hG.1 hG.2.1) (Nat.le_of_ble_eq_true rfl) (by decide) (Nat.zero_le _) (Nat.zero_le _) rfl ?_
  refine AW.bif_ne (n := 8) (t := 11) dX10_thank_5 rfl rfl (fun h5 => ?_) (fun h5 => ?_)
  · obtain ⟨j, hj, rfl⟩ := sHas_j hG.1 hG.2.1 h5
    have h7 := hG.2.1
    have hjc := cl_nI (show j < 2147483648 by omega)
    refine AW.aload_n (n := 12) dX10_thank_11 rfl rfl ?_
    refine AW.gr (n := 15) dX10_thank_12 fl_X10_29 s_136 rfl rfl ?_
    refine AW.iload_n (n := 16) dX10_thank_15 rfl rfl ?_
    refine AW.ia (n := 17) j dX10_thank_16 s_143 rfl (by omega) (by decide) rfl ?_
    refine AW.iconst (n := 18) (v := -1) dX10_thank_17 rfl rfl ?_
    refine AW.icmp_ne (n := 21) (t := 24) dX10_thank_18 rfl rfl (fun h18 => ?_) (fun h18 => ?_)
    · refine AW.aload_n (n := 25) dX10_thank_24 rfl rfl ?_
      refine AW.ev0v (Mc := mX10_remember) (n := 28) dX10_thank_25 lk_X10_206 k_mX10_remember s_136 rfl rfl (c_X10_remember hu hu9) (Nat.le_of_ble_eq_true rfl) (by decide) (Nat.zero_le _) (Nat.zero_le _) rfl ?_
      refine AW.aload_n (n := 29) dX10_thank_28 rfl rfl ?_
      refine AW.gr (n := 32) dX10_thank_29 fl_X10_7 s_136 rfl rfl ?_
      refine AW.bipush (n := 34) (v := 7) dX10_thank_32 rfl rfl ?_
      refine AW.iload_n (n := 35) dX10_thank_34 rfl rfl ?_
      refine AW.iadd (n := 36) dX10_thank_35 rfl ?_
      refine AW.ia (n := 37) (7 + j) dX10_thank_36 s_137 (nI_add 7 j) (by omega) (by decide) rfl ?_
      refine AW.ist2 (n := 38) dX10_thank_37 (Nat.le_of_ble_eq_true rfl) rfl rfl ?_
      refine AW.aload_n (n := 39) dX10_thank_38 rfl rfl ?_
      refine AW.gr (n := 42) dX10_thank_39 fl_X10_7 s_136 rfl rfl ?_
      refine AW.bipush (n := 44) (v := 7) dX10_thank_42 rfl rfl ?_
      refine AW.iload_n (n := 45) dX10_thank_44 rfl rfl ?_
      refine AW.iadd (n := 46) dX10_thank_45 rfl ?_
      refine AW.iconst (n := 47) (v := 0) dX10_thank_46 rfl rfl ?_
      refine AW.is (n := 48) (7 + j) dX10_thank_47 s_137 (nI_add 7 j) (by omega) (by decide) rfl ?_
      refine AW.iload_n (n := 49) dX10_thank_48 rfl rfl ?_
      refine AW.iret dX10_thank_49 rfl rfl (Nat.zero_le _) (Nat.zero_le _) ?_
      exact ⟨by simp [qThank, h5, h18, hjc], by simp [qThank, h5, h18, hjc]⟩
    · refine AW.ldc (n := 23) dX10_thank_21 kc_X10_209 rfl ?_
      refine AW.iret dX10_thank_23 rfl rfl (Nat.zero_le _) (Nat.zero_le _) ?_
      exact ⟨by simp [qThank, h5, h18, hjc], by simp [qThank, h5, h18, hjc]⟩
  · refine AW.ldc (n := 10) dX10_thank_8 kc_X10_167 rfl ?_
    refine AW.iret dX10_thank_10 rfl rfl (Nat.zero_le _) (Nat.zero_le _) ?_
    exact ⟨by simp [qThank, h5], by simp [qThank, h5]⟩
set_option maxHeartbeats 4000000 in
set_option maxRecDepth 100000 in
theorem c_X10_undo {μ : Me} {e : Nat × (Nat → aC)} {u : Nat} {k : Int32} (hu : μ 136 22 = nI u) (hu9 : u ≤ 30) : AC 1 0 0 mX10_undo [.ref 136, .int k] (wS μ e) (a_eq (some (.int ((qUndo μ u k).1))) (wS ((qUndo μ u k).2) e)) := by
  refine AC.of (L := [some (.ref 136), some (.int k), none]) (j := 1) (by decide) rfl (Nat.le_of_ble_eq_true rfl) ?_
  refine AW.iload_n (n := 1) dX10_undo_0 rfl rfl ?_
  refine AW.i2l (n := 2) dX10_undo_1 rfl ?_
  refine AW.lconst (n := 3) (v := 1) dX10_undo_2 rfl rfl ?_
  refine AW.ldc2 (n := 6) dX10_undo_3 kl_X10_222 rfl ?_
  refine AW.es3i (Mc := mX10_in) (n := 9) dX10_undo_6 lk_X10_68 k_mX10_in (c_X10_in k 1 30 rfl (by decide) (by decide)) (Nat.le_of_ble_eq_true rfl) (by decide) (Nat.zero_le _) (Nat.zero_le _) rfl ?_
  refine AW.bif_ne (n := 12) (t := 15) dX10_undo_9 rfl rfl (fun h9 => ?_) (fun h9 => ?_)
  · refine AW.iload_n (n := 16) dX10_undo_15 rfl rfl ?_
    refine AW.aload_n (n := 17) dX10_undo_16 rfl rfl ?_
    refine AW.gi (n := 20) dX10_undo_17 fl_X10_143 s_136 rfl rfl ?_
    refine AW.icmp_le (n := 23) (t := 26) dX10_undo_20 rfl rfl (fun h20 => ?_) (fun h20 => ?_)
    · obtain ⟨j, hj1, hj2, rfl⟩ := win_j (a := 1) (b := 30) (by omega) h9 (by omega)
      have hju : j ≤ u := by rw [hu] at h20; exact (nI_leI (by omega) (by omega)).mp h20
      have hjc := cl_nI (show j < 2147483648 by omega)
      refine AW.aload_n (n := 27) dX10_undo_26 rfl rfl ?_
      refine AW.dup (n := 28) dX10_undo_27 rfl rfl ?_
      refine AW.gi (n := 31) dX10_undo_28 fl_X10_143 s_136 rfl rfl ?_
      refine AW.iload_n (n := 32) dX10_undo_31 rfl rfl ?_
      refine AW.isub (n := 33) dX10_undo_32 rfl ?_
      refine AW.pi (n := 36) dX10_undo_33 fp_X10_143 s_136 rfl ⟨rfl, rfl⟩ rfl ?_
      rw [hu, pk_sub hju]
      refine AW.aload_n (n := 37) dX10_undo_36 rfl rfl ?_
      refine AW.gr (n := 40) dX10_undo_37 fl_X10_7 s_136 rfl rfl ?_
      refine AW.bipush (n := 42) (v := 17) dX10_undo_40 rfl rfl ?_
      refine AW.ia (n := 43) 17 dX10_undo_42 s_137 rfl (by omega) (by decide) rfl ?_
      refine AW.ist2 (n := 44) dX10_undo_43 (Nat.le_of_ble_eq_true rfl) rfl rfl ?_
      refine AW.aload_n (n := 45) dX10_undo_44 rfl rfl ?_
      refine AW.bipush (n := 47) (v := 72) dX10_undo_45 rfl rfl ?_
      refine AW.bipush (n := 49) (v := 18) dX10_undo_47 rfl rfl ?_
      refine AW.aload_n (n := 50) dX10_undo_49 rfl rfl ?_
      refine AW.gi (n := 53) dX10_undo_50 fl_X10_143 s_136 rfl rfl ?_
      refine AW.imul (n := 54) dX10_undo_53 rfl ?_
      refine AW.iadd (n := 55) dX10_undo_54 rfl ?_
      refine AW.iconst (n := 56) (v := 0) dX10_undo_55 rfl rfl ?_
      rw [mu_same, p72]
      refine AW.ev2v (Mc := mX10_copy) (n := 59) dX10_undo_56 lk_X10_192 k_mX10_copy s_136 rfl rfl (c_X10_copy (x := 72 + 18 * (u - j)) (y := 0) (by omega) (by omega)) (Nat.le_of_ble_eq_true rfl) (by decide) (Nat.zero_le _) (Nat.zero_le _) rfl ?_
      refine AW.aload_n (n := 60) dX10_undo_59 rfl rfl ?_
      refine AW.gr (n := 63) dX10_undo_60 fl_X10_7 s_136 rfl rfl ?_
      refine AW.bipush (n := 65) (v := 17) dX10_undo_63 rfl rfl ?_
      refine AW.iload_n (n := 66) dX10_undo_65 rfl rfl ?_
      refine AW.is (n := 67) 17 dX10_undo_66 s_137 rfl (by omega) (by decide) rfl ?_
      refine AW.aload_n (n := 68) dX10_undo_67 rfl rfl ?_
      refine AW.gr (n := 71) dX10_undo_68 fl_X10_7 s_136 rfl rfl ?_
      refine AW.bipush (n := 73) (v := 14) dX10_undo_71 rfl rfl ?_
      refine AW.ia (n := 74) 14 dX10_undo_73 s_137 rfl (by omega) (by decide) rfl ?_
      refine AW.iret dX10_undo_74 rfl rfl (Nat.zero_le _) (Nat.zero_le _) ?_
      exact ⟨by simp [qUndo, h9, h20, hjc, mUndo, mu_at], by simp [qUndo, h9, h20, hjc, mUndo, mu_at]⟩
    · refine AW.ldc (n := 25) dX10_undo_23 kc_X10_209 rfl ?_
      refine AW.iret dX10_undo_25 rfl rfl (Nat.zero_le _) (Nat.zero_le _) ?_
      exact ⟨by simp [qUndo, h9, h20], by simp [qUndo, h9, h20]⟩
  · refine AW.ldc (n := 14) dX10_undo_12 kc_X10_72 rfl ?_
    refine AW.iret dX10_undo_14 rfl rfl (Nat.zero_le _) (Nat.zero_le _) ?_
    exact ⟨by simp [qUndo, h9], by simp [qUndo, h9]⟩
set_option maxHeartbeats 4000000 in
set_option maxRecDepth 100000 in
theorem c_X10_comes {μ : Me} {e : Nat × (Nat → aC)} {n d : Nat} {s way h : Int32} (hG : mG μ n d) : AC 5 0 0 mX10_comes [.ref 136, .int s, .int way, .int h] (wS μ e) (a_eq (some (.int ((qComes μ s way h).1))) (wS ((qComes μ s way h).2) e)) := by
  refine AC.of (L := [some (.ref 136), some (.int s), some (.int way), some (.int h), none]) (j := 1) (by decide) rfl (Nat.le_of_ble_eq_true rfl) ?_
  refine AW.aload_n (n := 1) dX10_comes_0 rfl rfl ?_
  refine AW.iload_n (n := 2) dX10_comes_1 rfl rfl ?_
  refine AW.ev1i (Mc := mX10_isStop) (n := 5) dX10_comes_2 lk_X10_150 k_mX10_isStop s_136 rfl rfl (c_X10_isStop hG.1 hG.2.1) (Nat.le_of_ble_eq_true rfl) (by decide) (Nat.zero_le _) (Nat.zero_le _) rfl ?_
  refine AW.bif_eq (n := 8) (t := 16) dX10_comes_5 rfl rfl (fun h5 => ?_) (fun h5 => ?_)
  · refine AW.ldc (n := 18) dX10_comes_16 kc_X10_167 rfl ?_
    refine AW.iret dX10_comes_18 rfl rfl (Nat.zero_le _) (Nat.zero_le _) ?_
    exact ⟨by simp [qComes, h5], by simp [qComes, h5]⟩
  · refine AW.aload_n (n := 9) dX10_comes_8 rfl rfl ?_
    refine AW.iload_n (n := 10) dX10_comes_9 rfl rfl ?_
    refine AW.ev1i (Mc := mX10_isWay) (n := 13) dX10_comes_10 lk_X10_200 k_mX10_isWay s_136 rfl rfl (c_X10_isWay hG.1 hG.2.1) (Nat.le_of_ble_eq_true rfl) (by decide) (Nat.zero_le _) (Nat.zero_le _) rfl ?_
    refine AW.bif_ne (n := 16) (t := 19) dX10_comes_13 rfl rfl (fun h13 => ?_) (fun h13 => ?_)
    · refine AW.iload_n (n := 20) dX10_comes_19 rfl rfl ?_
      refine AW.es1i (Mc := mX10_isHaste) (n := 23) dX10_comes_20 lk_X10_203 k_mX10_isHaste (c_X10_isHaste) (Nat.le_of_ble_eq_true rfl) (by decide) (Nat.zero_le _) (Nat.zero_le _) rfl ?_
      refine AW.bif_ne (n := 26) (t := 29) dX10_comes_23 rfl rfl (fun h23 => ?_) (fun h23 => ?_)
      · obtain ⟨j, hj, rfl⟩ := sHas_j hG.1 hG.2.1 h5
        have h7 := hG.2.1
        have hjc := cl_nI (show j < 2147483648 by omega)
        refine AW.aload_n (n := 30) dX10_comes_29 rfl rfl ?_
        refine AW.iload_n (n := 31) dX10_comes_30 rfl rfl ?_
        refine AW.iload_n (n := 32) dX10_comes_31 rfl rfl ?_
        refine AW.ev2i (Mc := mX10_tryRound) (n := 35) dX10_comes_32 lk_X10_224 k_mX10_tryRound s_136 rfl rfl (c_X10_tryRound h23 (mWok.of hG.1 hG.2.1 h13) hG) (Nat.le_of_ble_eq_true rfl) (by decide) (Nat.zero_le _) (Nat.zero_le _) rfl ?_
        refine AW.ist4 (n := 37) dX10_comes_35 (Nat.le_of_ble_eq_true rfl) rfl rfl ?_
        refine AW.aload_n (n := 38) dX10_comes_37 rfl rfl ?_
        refine AW.gr (n := 41) dX10_comes_38 fl_X10_45 s_136 rfl rfl ?_
        refine AW.iload_n (n := 42) dX10_comes_41 rfl rfl ?_
        refine AW.ia (n := 43) j dX10_comes_42 s_147 rfl (by omega) (by decide) rfl ?_
        refine AW.iret dX10_comes_43 rfl rfl (Nat.zero_le _) (Nat.zero_le _) ?_
        exact ⟨by simp [qComes, h5, h13, h23, hjc, mTry], by simp [qComes, h5, h13, h23, hjc, mTry]⟩
      · refine AW.ldc (n := 28) dX10_comes_26 kc_X10_72 rfl ?_
        refine AW.iret dX10_comes_28 rfl rfl (Nat.zero_le _) (Nat.zero_le _) ?_
        exact ⟨by simp [qComes, h5, h13, h23], by simp [qComes, h5, h13, h23]⟩
    · refine AW.ldc (n := 18) dX10_comes_16 kc_X10_167 rfl ?_
      refine AW.iret dX10_comes_18 rfl rfl (Nat.zero_le _) (Nat.zero_le _) ?_
      exact ⟨by simp [qComes, h5, h13], by simp [qComes, h5, h13]⟩
set_option maxHeartbeats 4000000 in
set_option maxRecDepth 100000 in
theorem c_X10_home {μ : Me} {e : Nat × (Nat → aC)} {n d : Nat} {way h : Int32} (hG : mG μ n d) : AC 5 0 0 mX10_home [.ref 136, .int way, .int h] (wS μ e) (a_eq (some (.int ((qHome μ way h).1))) (wS ((qHome μ way h).2) e)) := by
  refine AC.of (L := [some (.ref 136), some (.int way), some (.int h)]) (j := 0) (by decide) rfl (Nat.le_of_ble_eq_true rfl) ?_
  refine AW.aload_n (n := 1) dX10_home_0 rfl rfl ?_
  refine AW.iload_n (n := 2) dX10_home_1 rfl rfl ?_
  refine AW.ev1i (Mc := mX10_isWay) (n := 5) dX10_home_2 lk_X10_200 k_mX10_isWay s_136 rfl rfl (c_X10_isWay hG.1 hG.2.1) (Nat.le_of_ble_eq_true rfl) (by decide) (Nat.zero_le _) (Nat.zero_le _) rfl ?_
  refine AW.bif_ne (n := 8) (t := 11) dX10_home_5 rfl rfl (fun h5 => ?_) (fun h5 => ?_)
  · refine AW.iload_n (n := 12) dX10_home_11 rfl rfl ?_
    refine AW.es1i (Mc := mX10_isHaste) (n := 15) dX10_home_12 lk_X10_203 k_mX10_isHaste (c_X10_isHaste) (Nat.le_of_ble_eq_true rfl) (by decide) (Nat.zero_le _) (Nat.zero_le _) rfl ?_
    refine AW.bif_eq (n := 18) (t := 27) dX10_home_15 rfl rfl (fun h15 => ?_) (fun h15 => ?_)
    · refine AW.ldc (n := 29) dX10_home_27 kc_X10_72 rfl ?_
      refine AW.iret dX10_home_29 rfl rfl (Nat.zero_le _) (Nat.zero_le _) ?_
      exact ⟨by simp [qHome, h5, h15, mTry], by simp [qHome, h5, h15, mTry]⟩
    · refine AW.aload_n (n := 19) dX10_home_18 rfl rfl ?_
      refine AW.iload_n (n := 20) dX10_home_19 rfl rfl ?_
      refine AW.iload_n (n := 21) dX10_home_20 rfl rfl ?_
      refine AW.ev2i (Mc := mX10_tryRound) (n := 24) dX10_home_21 lk_X10_224 k_mX10_tryRound s_136 rfl rfl (c_X10_tryRound h15 (mWok.of hG.1 hG.2.1 h5) hG) (Nat.le_of_ble_eq_true rfl) (by decide) (Nat.zero_le _) (Nat.zero_le _) rfl ?_
      refine AW.goto (t := 29) dX10_home_24 rfl ?_
      refine AW.iret dX10_home_29 rfl rfl (Nat.zero_le _) (Nat.zero_le _) ?_
      exact ⟨by simp [qHome, h5, h15, mTry], by simp [qHome, h5, h15, mTry]⟩
  · refine AW.ldc (n := 10) dX10_home_8 kc_X10_167 rfl ?_
    refine AW.iret dX10_home_10 rfl rfl (Nat.zero_le _) (Nat.zero_le _) ?_
    exact ⟨by simp [qHome, h5, mTry], by simp [qHome, h5, mTry]⟩
set_option maxHeartbeats 4000000 in
set_option maxRecDepth 100000 in
theorem l_X10_outcome {μ : Me} {e : Nat × (Nat → aC)} {n : Nat} {way h r : Int32} (hn : μ 136 8 = nI n) (h7 : n ≤ 7) : ∀ (m : Nat) (i : Nat), n - i < m → i ≤ n → AW none 5 0 0 mX10_outcome 0 0 34 [some (.ref 136), some (.int way), some (.int h), some (.int r), some (.int (mFgs (μ 137) i)), some (.int (nI i))] [] (wS μ e) (a_eq (some (.int (mFgs (μ 137) n))) (wS μ e)) := by
  intro m
  induction m with
  | zero => intro i hm; exact absurd hm (Nat.not_lt_zero _)
  | succ m ih =>
    intro i hm hc
    refine AW.iload (n := 36) dX10_outcome_34 rfl rfl ?_
    refine AW.aload_n (n := 37) dX10_outcome_36 rfl rfl ?_
    refine AW.gi (n := 40) dX10_outcome_37 fl_X10_131 s_136 rfl rfl ?_
    refine AW.icmp_ge (n := 43) (t := 67) dX10_outcome_40 rfl rfl (fun h40 => ?_) (fun h40 => ?_)
    · have hi : i = n := by have := le_lit (b := n) (x := nI i) rfl (by omega) (by omega) (by rw [← hn]; exact h40); omega
      subst hi
      refine AW.iload (n := 69) dX10_outcome_67 rfl rfl ?_
      refine AW.iret dX10_outcome_69 rfl rfl (Nat.zero_le _) (Nat.zero_le _) ?_
      exact ⟨rfl, rfl⟩
    · have hi : i < n := nle_lit (b := n) (x := nI i) rfl (by omega) (by omega) (by rw [← hn]; exact h40)
      refine AW.bipush (n := 45) (v := 10) dX10_outcome_43 rfl rfl ?_
      refine AW.iload (n := 47) dX10_outcome_45 rfl rfl ?_
      refine AW.imul (n := 48) dX10_outcome_47 rfl ?_
      refine AW.aload_n (n := 49) dX10_outcome_48 rfl rfl ?_
      refine AW.gr (n := 52) dX10_outcome_49 fl_X10_7 s_136 rfl rfl ?_
      refine AW.bipush (n := 54) (v := 18) dX10_outcome_52 rfl rfl ?_
      refine AW.iload (n := 56) dX10_outcome_54 rfl rfl ?_
      refine AW.iadd (n := 57) dX10_outcome_56 rfl ?_
      refine AW.ia (n := 58) (18 + i) dX10_outcome_57 s_137 (nI_add 18 i) (by omega) (by decide) rfl ?_
      refine AW.iadd (n := 59) dX10_outcome_58 rfl ?_
      refine AW.ist4 (n := 61) dX10_outcome_59 (Nat.le_of_ble_eq_true rfl) rfl rfl ?_
      refine AW.inc5 (n := 64) (1) dX10_outcome_61 rfl (Nat.le_of_ble_eq_true rfl) rfl rfl ?_
      refine AW.goto (t := 34) dX10_outcome_64 rfl ?_
      rw [nI_1]
      exact ih (i + 1) (by omega) (by omega)
set_option maxHeartbeats 4000000 in
set_option maxRecDepth 100000 in
theorem c_X10_outcome {μ : Me} {e : Nat × (Nat → aC)} {n d : Nat} {way h : Int32} (hG : mG μ n d) : AC 5 0 0 mX10_outcome [.ref 136, .int way, .int h] (wS μ e) (a_eq (some (.int ((qOutcome μ n way h).1))) (wS ((qOutcome μ n way h).2) e)) := by
  refine AC.of (L := [some (.ref 136), some (.int way), some (.int h), none, none, none]) (j := 3) (by decide) rfl (Nat.le_of_ble_eq_true rfl) ?_
  refine AW.aload_n (n := 1) dX10_outcome_0 rfl rfl ?_
  refine AW.iload_n (n := 2) dX10_outcome_1 rfl rfl ?_
  refine AW.ev1i (Mc := mX10_isWay) (n := 5) dX10_outcome_2 lk_X10_200 k_mX10_isWay s_136 rfl rfl (c_X10_isWay hG.1 hG.2.1) (Nat.le_of_ble_eq_true rfl) (by decide) (Nat.zero_le _) (Nat.zero_le _) rfl ?_
  refine AW.bif_ne (n := 8) (t := 11) dX10_outcome_5 rfl rfl (fun h5 => ?_) (fun h5 => ?_)
  · refine AW.iload_n (n := 12) dX10_outcome_11 rfl rfl ?_
    refine AW.es1i (Mc := mX10_isHaste) (n := 15) dX10_outcome_12 lk_X10_203 k_mX10_isHaste (c_X10_isHaste) (Nat.le_of_ble_eq_true rfl) (by decide) (Nat.zero_le _) (Nat.zero_le _) rfl ?_
    refine AW.bif_ne (n := 18) (t := 21) dX10_outcome_15 rfl rfl (fun h15 => ?_) (fun h15 => ?_)
    · refine AW.aload_n (n := 22) dX10_outcome_21 rfl rfl ?_
      refine AW.iload_n (n := 23) dX10_outcome_22 rfl rfl ?_
      refine AW.iload_n (n := 24) dX10_outcome_23 rfl rfl ?_
      refine AW.ev2i (Mc := mX10_tryRound) (n := 27) dX10_outcome_24 lk_X10_224 k_mX10_tryRound s_136 rfl rfl (c_X10_tryRound h15 (mWok.of hG.1 hG.2.1 h5) hG) (Nat.le_of_ble_eq_true rfl) (by decide) (Nat.zero_le _) (Nat.zero_le _) rfl ?_
      refine AW.ist3 (n := 28) dX10_outcome_27 (Nat.le_of_ble_eq_true rfl) rfl rfl ?_
      refine AW.iconst (n := 29) (v := 0) dX10_outcome_28 rfl rfl ?_
      refine AW.ist4 (n := 31) dX10_outcome_29 (Nat.le_of_ble_eq_true rfl) rfl rfl ?_
      refine AW.iconst (n := 32) (v := 0) dX10_outcome_31 rfl rfl ?_
      refine AW.ist5 (n := 34) dX10_outcome_32 (Nat.le_of_ble_eq_true rfl) rfl rfl ?_
      have hG2 := hG.try (haste := h) (mWok.of hG.1 hG.2.1 h5)
      unfold qOutcome
      rw [if_pos h5, if_pos h15]
      exact l_X10_outcome (μ := (mTry μ way h).2) hG2.1 hG2.2.1 (n + 1) 0 (by omega) (Nat.zero_le _)
    · refine AW.ldc (n := 20) dX10_outcome_18 kc_X10_72 rfl ?_
      refine AW.iret dX10_outcome_20 rfl rfl (Nat.zero_le _) (Nat.zero_le _) ?_
      exact ⟨by simp [qOutcome, h5, h15], by simp [qOutcome, h5, h15]⟩
  · refine AW.ldc (n := 10) dX10_outcome_8 kc_X10_167 rfl ?_
    refine AW.iret dX10_outcome_10 rfl rfl (Nat.zero_le _) (Nat.zero_le _) ?_
    exact ⟨by simp [qOutcome, h5], by simp [qOutcome, h5]⟩
set_option maxHeartbeats 4000000 in
set_option maxRecDepth 100000 in
theorem c_X10_comesTo {μ : Me} {e : Nat × (Nat → aC)} {n d j : Nat} {way : Int32} (hG : mG μ n d) (hw : mWok way n) (hj : j < n) : AC 5 0 0 mX10_comesTo [.ref 136, .int (nI j), .int way] (wS μ e) (a_eq (some (.int ((mTry μ way 0).2 147 j))) (wS ((mTry μ way 0).2) e)) := by
  refine AC.of (L := [some (.ref 136), some (.int (nI j)), some (.int way), none]) (j := 1) (by decide) rfl (Nat.le_of_ble_eq_true rfl) ?_
  have h7 := hG.2.1
  refine AW.aload_n (n := 1) dX10_comesTo_0 rfl rfl ?_
  refine AW.iload_n (n := 2) dX10_comesTo_1 rfl rfl ?_
  refine AW.iconst (n := 3) (v := 0) dX10_comesTo_2 rfl rfl ?_
  refine AW.ev2i (Mc := mX10_tryRound) (n := 6) dX10_comesTo_3 lk_X10_224 k_mX10_tryRound s_136 rfl rfl (c_X10_tryRound (by decide) hw hG) (Nat.le_of_ble_eq_true rfl) (by decide) (Nat.zero_le _) (Nat.zero_le _) rfl ?_
  refine AW.ist3 (n := 7) dX10_comesTo_6 (Nat.le_of_ble_eq_true rfl) rfl rfl ?_
  refine AW.aload_n (n := 8) dX10_comesTo_7 rfl rfl ?_
  refine AW.gr (n := 11) dX10_comesTo_8 fl_X10_45 s_136 rfl rfl ?_
  refine AW.iload_n (n := 12) dX10_comesTo_11 rfl rfl ?_
  refine AW.ia (n := 13) j dX10_comesTo_12 s_147 rfl (by omega) (by decide) rfl ?_
  refine AW.iret dX10_comesTo_13 rfl rfl (Nat.zero_le _) (Nat.zero_le _) ?_
  exact ⟨rfl, rfl⟩
