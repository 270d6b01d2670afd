def xOf (μ : Me) : Nat := (μ 28 1).toNatClampNeg
def yOf (μ : Me) : Nat := (μ 28 2).toNatClampNeg
def pOk (μ : Me) : Prop := ∃ x y : Nat, μ 28 1 = nI x ∧ x < 30 ∧ μ 28 2 = nI y ∧ y ≤ 30
theorem pOk.x {μ : Me} (h : pOk μ) : μ 28 1 = nI (xOf μ) ∧ xOf μ < 30 := by
  obtain ⟨x, y, h1, h2, h3, h4⟩ := h
  have e : xOf μ = x := by unfold xOf; rw [h1, cl_nI (by omega)]
  rw [e]; exact ⟨h1, h2⟩
theorem pOk.y {μ : Me} (h : pOk μ) : μ 28 2 = nI (yOf μ) ∧ yOf μ ≤ 30 := by
  obtain ⟨x, y, h1, h2, h3, h4⟩ := h
  have e : yOf μ = y := by unfold yOf; rw [h3, cl_nI (by omega)]
  rw [e]; exact ⟨h3, h4⟩
theorem pOk.of {μ ν : Me} (h : pOk μ) (e : ν 28 = μ 28) : pOk ν := by
  obtain ⟨x, y, h1, h2, h3, h4⟩ := h
  exact ⟨x, y, by rw [e]; exact h1, h2, by rw [e]; exact h3, h4⟩
theorem pOk.push {μ : Me} {x y d : Nat} (hy : y ≤ 30) : pOk (sPush μ x y d) := by
  refine ⟨(x + 1) % 30, if y + 1 ≤ 30 then y + 1 else 30, ?_, Nat.mod_lt _ (by decide), ?_, ?_⟩
  · unfold sPush; rw [mu_nj (by decide), mu_same]
  · unfold sPush; rw [mu_same]
  · split <;> omega
theorem sRunT_ne {μ : Me} {i : Nat} (h1 : i ≠ 23) (h2 : i ≠ 24) : sRunT μ i = μ i := by
  unfold sRunT
  rw [mu_ne h2, mu_ne h2, mu_ne h2, mu_ne h1]
theorem sRun_ne {μ : Me} {way h : Int32} {d i : Nat} (h1 : i < 23 ∨ 27 < i) : sRun μ way d h i = μ i := by
  unfold sRun
  rw [sRunT_ne (by omega) (by omega), sRL_ne (by omega) (by omega) (by omega) (by omega), sTBeg_ne (by omega) (by omega) (by omega) (by omega) (by omega)]
theorem sDrive_ne {μ : Me} {way h : Int32} {i : Nat} (h1 : i < 17 ∨ 27 < i) : sDrive μ way h i = μ i := by
  unfold sDrive
  rw [sCopy_ne (by omega) (by omega) (by omega), sRun_ne (by omega)]
theorem sDice_ne {μ : Me} {i : Nat} (h : i ≠ 0) : sDice μ i = μ i := mu_ne h
theorem sObd_ne {μ : Me} {i : Nat} (h : i ≠ 0) (h1 : i ≠ 18) : sObd μ i = μ i := by
  unfold sObd
  split
  · split
    · rw [mu_ne h1, sDice_ne h]
    · exact sDice_ne h
  · exact sDice_ne h
def sKept (μ : Me) : Nat → Me
  | 0 => μ
  | i + 1 => mu (sKept μ i) (127 + 4 * i) 2 0
def oStreet (μ : Me) : Int32 × Me :=
  let m2 := mu (sReadInto μ) 1 1 0
  if m2 1 2 = 0 then
    let m3 := sSCopy m2 10 3
    let m7 := mu (mu (mu (sBegin m3 17) 28 2 0) 120 2 0) 123 2 0
    (sKept m7 2 10 3, sKept m7 2)
  else (-10 - m2 1 2, m2)
def sDriftS (way : Int32) (μ : Me) : Me :=
  let m2 := sObd (sPush μ (xOf μ) (yOf μ) 17)
  sDrive (sDice m2) way (sDraw m2 4)
def sDriftL (way : Int32) : Nat → Me → Me
  | 0, μ => μ
  | k + 1, μ => sDriftL way k (sDriftS way μ)
def oDrift (μ : Me) (n : Nat) (k : Int32) : Int32 × Me :=
  if sWithin k 1 20 then (if μ 10 3 = 0 then (-1000000003, μ) else if μ 17 2 ≤ 9000 then (sDriftL (sRise n) k.toNatClampNeg μ 17 3, sDriftL (sRise n) k.toNatClampNeg μ) else (-1000000004, μ)) else (-1000000002, μ)
def oComes (μ : Me) (s way h : Int32) : Int32 × Me :=
  if sHas (μ 10 3) s then (if sRef μ way h = 0 then (sRun μ way 17 h 27 s.toNatClampNeg, sRun μ way 17 h) else (sRef μ way h, μ)) else (-1000000001, μ)
def oHome (μ : Me) (way h : Int32) : Int32 × Me := if sRef μ way h = 0 then (sRun μ way 17 h 23 2, sRun μ way 17 h) else (sRef μ way h, μ)
def sFgs (f : Nat → Int32) : Nat → Int32
  | 0 => 0
  | i + 1 => sFgs f i * 10 + f i
def oOutcome (μ : Me) (n : Nat) (way h : Int32) : Int32 × Me := if sRef μ way h = 0 then (sFgs (sRun μ way 17 h 25) n, sRun μ way 17 h) else (sRef μ way h, μ)
def sBath (a b m : Int32) : Nat → Nat → Int32
  | 0, _ => -1
  | k + 1, t => if 719 - m < nI t then -1 else if sWithin a (60 * nI t) (60 * (nI t + m) - 1) then sBath a b m k (t + 1) else if sWithin b (60 * nI t) (60 * (nI t + m) - 1) then sBath a b m k (t + 1) else nI t
def oBath (μ : Me) (s a b m : Int32) : Int32 × Me :=
  if sHas (μ 10 3) s then (if sIsWay (μ 10 3) a then (if sIsWay (μ 10 3) b then (if sWithin m 1 99 then
    (sBath (sRun μ a 17 0 27 s.toNatClampNeg) (sRun (sRun μ a 17 0) b 17 0 27 s.toNatClampNeg) m 720 0, sRun (sRun μ a 17 0) b 17 0) else (-1000000002, μ)) else (-1000000001, μ)) else (-1000000001, μ)) else (-1000000001, μ)
def oPretends (μ : Me) (way h w : Int32) : Int32 × Me :=
  if sRef μ way h = 0 then (if sWithin w 0 1 then
    (if w = 0 then sRun μ way 17 0 23 2 - sRun (sRun μ way 17 0) way 17 h 23 2 else sRun μ way 17 0 23 3 - sRun (sRun μ way 17 0) way 17 h 23 3 + 100, sRun (sRun μ way 17 0) way 17 h) else (-1000000002, μ)) else (sRef μ way h, μ)
def sLock (f : Nat → Int32) (set d : Int32) (n : Nat) : Nat → Int32 × Int32
  | 0 => (0, 0)
  | y + 1 => if sNear f set (nI y) d n ≤ (sLock f set d n y).2 then sLock f set d n y else (nI y, sNear f set (nI y) d n)
def oLocker (μ : Me) (n : Nat) (way d w : Int32) : Int32 × Me :=
  if sIsWay (μ 10 3) way then (if sWithin d 0 99 then (if sWithin w 0 1 then
    (if w = 0 then (sLock (μ 11) (sRun μ way 17 0 23 4) d n 100).1 else (sLock (μ 11) (sRun μ way 17 0 23 4) d n 100).2, sRun μ way 17 0) else (-1000000002, μ)) else (-1000000002, μ)) else (-1000000001, μ)
def oBears (μ : Me) (s : Int32) : Int32 := if sHas (μ 10 3) s then μ 15 s.toNatClampNeg - μ 19 s.toNatClampNeg else -1000000001
def sOdds (q : Int32) : Nat → Int64
  | 0 => 1000000000
  | i + 1 => sOdds q i * (100 - q).toInt64 / 100
def oHeard (n q : Int32) : Int32 := if sWithin n 0 60 then (if sWithin q 0 100 then (1000000000 - sOdds q n.toNatClampNeg).toInt32 else -1000000002) else -1000000002
def oSee (μ : Me) (z : Nat) (s : Int32) (b : Bool) : Int32 × Me := if sHas (μ 10 3) s then (if z < 6 then (nI (z + 1), sSAdd μ z s b) else (-1000000004, μ)) else (-1000000001, μ)
def sRgL (way : Int32) (z : Nat) (μ : Me) : Nat → Int32 × Me
  | 0 => (0, μ)
  | h + 1 =>
    let m := sRun (sRgL way z μ h).2 way 20 (nI h)
    (if sFits (m 23 4) (μ 121) (μ 122) z 0 then (sRgL way z μ h).1 ||| ((1 : Int32) <<< (nI h &&& 31)) else (sRgL way z μ h).1, mu m 135 h (m 23 4))
def sAskN (fit : Int32) (f : Nat → Int32) (s : Nat) : Nat → Int32
  | 0 => 0
  | h + 1 => sAskN fit f s h + ((fit >>> (nI h &&& 31)) &&& (f h >>> (nI s &&& 31)) &&& 1)
def sMax (x y : Int32) : Int32 := if x < y then y else x
def sAsk (all fit : Int32) (f : Nat → Int32) : Nat → Int32 × Int32
  | 0 => (all, -1)
  | s + 1 => if (sAsk all fit f s).1 ≤ sMax (sAskN fit f s 4) (all - sAskN fit f s 4) then sAsk all fit f s else (sMax (sAskN fit f s 4) (all - sAskN fit f s 4), nI s)
def oRang (μ : Me) (n z : Nat) (way w : Int32) : Int32 × Me :=
  if sIsWay (μ 10 3) way then (if sWithin w 0 1 then
    (if w = 0 then (sRgL way z μ 4).1 else (sAsk (sBC (sRgL way z μ 4).1) (sRgL way z μ 4).1 ((sRgL way z μ 4).2 135) n).2, (sRgL way z μ 4).2) else (-1000000002, μ)) else (-1000000001, μ)
def oWrite (μ : Me) (z : Nat) (s is : Int32) : Int32 × Me := if sHas (μ 10 3) s then (if sWithin is 1 4 then (if z < 20 then (nI (z + 1), sBAdd μ z s is) else (-1000000004, μ)) else (-1000000002, μ)) else (-1000000001, μ)
def oJudge (μ : Me) (z : Nat) : Int32 := sWrong (μ 18) (μ 124) (μ 125) z 0
def oTear (μ : Me) : Int32 × Me := (μ 120 2 + μ 123 2, mu (mu μ 120 2 0) 123 2 0)
def oSeed (μ : Me) (v : Int32) : Int32 × Me := if 0 ≤ v then (μ 0 11, mu μ 0 11 v) else (-1000000002, μ)
def sKeep (μ : Me) (d : Nat) : Me :=
  let m1 := sCopy μ (d + 1) 17
  let m2 := mu m1 d 1 (m1 0 11)
  mu (mu m2 d 2 1) 28 2 0
def oKeep (μ : Me) (i : Int32) : Int32 × Me := if sWithin i 0 1 then (1, sKeep μ (127 + 4 * i.toNatClampNeg)) else (-1000000001, μ)
def sBack (μ : Me) (d : Nat) : Me :=
  let m1 := sCopy μ 17 (d + 1)
  mu (mu m1 0 11 (m1 d 1)) 28 2 0
def oGoBack (μ : Me) (i : Int32) : Int32 × Me := if sWithin i 0 1 then (if μ (127 + 4 * i.toNatClampNeg) 2 = 0 then (-1000000003, μ) else (1, sBack μ (127 + 4 * i.toNatClampNeg))) else (-1000000001, μ)
theorem win_j {x : Int32} {a b : Nat} (hb : b < 2147483648) (h : sWithin x (nI a) (nI b) = true) (ha : a < 2147483648) : ∃ j : Nat, a ≤ j ∧ j ≤ b ∧ x = nI j := by
  simp only [sWithin, Bool.and_eq_true, Bool.not_eq_true', decide_eq_false_iff_not] at h
  have q1 : ¬ x < 0 := fun q => h.1 (by
    have h0 : (0 : Int32) ≤ nI a := nI_pos' ha
    exact Int32.lt_of_lt_of_le q h0)
  obtain ⟨j, hj, rfl⟩ := nI_of q1
  exact ⟨j, nlt_lit (x := nI j) rfl hj ha h.1, nlt_lit (x := nI b) rfl hb hj h.2, rfl⟩
set_option maxHeartbeats 4000000 in
set_option maxRecDepth 100000 in
theorem l_X9_street {μ : Me} {e : Nat × (Nat → aC)}   : ∀ (m : Nat) (i : Nat), 2 - i < m → i ≤ 2 → AW none 6 0 0 mX9_street 0 0 80 [some (.ref 0), some (.int (nI i))] [] (wS (sKept μ i) e) (a_eq (some (.int (sKept μ 2 10 3))) (wS (sKept μ 2) e)) := by
  intro m
  induction m with
  | zero => intro i hm; exact absurd hm (Nat.not_lt_zero _)
  | succ m ih =>
    intro i hm hc
    refine AW.iload_n (n := 81) dX9_street_80 rfl rfl ?_
    refine AW.iconst (n := 82) (v := 2) dX9_street_81 rfl rfl ?_
    refine AW.icmp_ge (n := 85) (t := 101) dX9_street_82 rfl rfl (fun h82 => ?_) (fun h82 => ?_)
    · have hi : 2 ≤ i := le_lit (b := 2) (x := nI i) rfl (by omega) (by omega) h82
      have he : i = 2 := by omega
      subst he
      refine AW.aload_n (n := 102) dX9_street_101 rfl rfl ?_
      refine AW.gr (n := 105) dX9_street_102 fl_X9_23 s_0 rfl rfl ?_
      refine AW.gi (n := 108) dX9_street_105 fl_X9_117 s_10 rfl rfl ?_
      refine AW.iret dX9_street_108 rfl rfl (Nat.zero_le _) (Nat.zero_le _) ?_
      exact ⟨rfl, rfl⟩
    · have hi : i < 2 := nle_lit (b := 2) (x := nI i) rfl (by omega) (by omega) h82
      refine AW.aload_n (n := 86) dX9_street_85 rfl rfl ?_
      refine AW.gr (n := 89) dX9_street_86 fl_X9_67 s_0 rfl rfl ?_
      refine AW.iload_n (n := 90) dX9_street_89 rfl rfl ?_
      refine AW.ra (n := 91) i dX9_street_90 (Or.inr rfl) s_126 rfl hi (by decide) rfl rfl ?_
      refine AW.iconst (n := 92) (v := 0) dX9_street_91 rfl rfl ?_
      refine AW.pi (n := 95) dX9_street_92 fp_X9_113 (sI_i hi).1 rfl ⟨rfl, rfl⟩ rfl ?_
      refine AW.inc1 (n := 98) (1) dX9_street_95 rfl (Nat.le_of_ble_eq_true rfl) rfl rfl ?_
      refine AW.goto (t := 80) dX9_street_98 rfl ?_
      rw [nI_1]
      exact ih (i + 1) (by omega) (by omega)
set_option maxHeartbeats 4000000 in
set_option maxRecDepth 100000 in
theorem c_X9_street {μ : Me} {e : Nat × (Nat → aC)} {l : Nat} (hl : μ 1 1 = nI l) (hl9 : l ≤ 240) : AC 6 0 0 mX9_street [.ref 0] (wS μ e) (a_eq (some (.int ((oStreet μ).1))) (wS ((oStreet μ).2) e)) := by
  refine AC.of (L := [some (.ref 0), none]) (j := 1) (by decide) rfl (Nat.le_of_ble_eq_true rfl) ?_
  refine AW.aload_n (n := 1) dX9_street_0 rfl rfl ?_
  refine AW.gr (n := 4) dX9_street_1 fl_X9_10 s_0 rfl rfl ?_
  refine AW.aload_n (n := 5) dX9_street_4 rfl rfl ?_
  refine AW.gr (n := 8) dX9_street_5 fl_X9_19 s_0 rfl rfl ?_
  refine AW.ev1v (Mc := mX7_readInto) (n := 11) dX9_street_8 lk_X9_92 k_mX7_readInto s_1 rfl rfl (c_X7_readInto hl hl9) (Nat.le_of_ble_eq_true rfl) (by decide) (Nat.zero_le _) (Nat.zero_le _) rfl ?_
  refine AW.aload_n (n := 12) dX9_street_11 rfl rfl ?_
  refine AW.gr (n := 15) dX9_street_12 fl_X9_10 s_0 rfl rfl ?_
  refine AW.ev0v (Mc := mX7_empty) (n := 18) dX9_street_15 lk_X9_96 k_mX7_empty s_1 rfl rfl (c_X7_empty) (Nat.le_of_ble_eq_true rfl) (by decide) (Nat.zero_le _) (Nat.zero_le _) rfl ?_
  refine AW.aload_n (n := 19) dX9_street_18 rfl rfl ?_
  refine AW.gr (n := 22) dX9_street_19 fl_X9_10 s_0 rfl rfl ?_
  refine AW.gi (n := 25) dX9_street_22 fl_X9_99 s_1 rfl rfl ?_
  refine AW.if_eq (n := 28) (t := 39) dX9_street_25 rfl rfl (fun h25 => ?_) (fun h25 => ?_)
  · refine AW.aload_n (n := 40) dX9_street_39 rfl rfl ?_
    refine AW.gr (n := 43) dX9_street_40 fl_X9_23 s_0 rfl rfl ?_
    refine AW.aload_n (n := 44) dX9_street_43 rfl rfl ?_
    refine AW.gr (n := 47) dX9_street_44 fl_X9_19 s_0 rfl rfl ?_
    refine AW.ev1v (Mc := mX6_copy) (n := 50) dX9_street_47 lk_X9_102 k_mX6_copy s_10 rfl rfl (c_X6_copy sS_10 sS_3) (Nat.le_of_ble_eq_true rfl) (by decide) (Nat.zero_le _) (Nat.zero_le _) rfl ?_
    refine AW.aload_n (n := 51) dX9_street_50 rfl rfl ?_
    refine AW.gr (n := 54) dX9_street_51 fl_X9_29 s_0 rfl rfl ?_
    refine AW.ev0v (Mc := mX1_begin) (n := 57) dX9_street_54 lk_X9_105 k_mX1_begin s_17 rfl rfl (c_X1_begin sD_17) (Nat.le_of_ble_eq_true rfl) (by decide) (Nat.zero_le _) (Nat.zero_le _) rfl ?_
    refine AW.aload_n (n := 58) dX9_street_57 rfl rfl ?_
    refine AW.gr (n := 61) dX9_street_58 fl_X9_46 s_0 rfl rfl ?_
    refine AW.ev0v (Mc := mX3_forget) (n := 64) dX9_street_61 lk_X9_108 k_mX3_forget s_28 rfl rfl (c_X3_forget) (Nat.le_of_ble_eq_true rfl) (by decide) (Nat.zero_le _) (Nat.zero_le _) rfl ?_
    refine AW.aload_n (n := 65) dX9_street_64 rfl rfl ?_
    refine AW.gr (n := 68) dX9_street_65 fl_X9_53 s_0 rfl rfl ?_
    refine AW.ev0v (Mc := mX5_forget) (n := 71) dX9_street_68 lk_X9_111 k_mX5_forget s_120 rfl rfl (c_X5_forget) (Nat.le_of_ble_eq_true rfl) (by decide) (Nat.zero_le _) (Nat.zero_le _) rfl ?_
    refine AW.aload_n (n := 72) dX9_street_71 rfl rfl ?_
    refine AW.gr (n := 75) dX9_street_72 fl_X9_60 s_0 rfl rfl ?_
    refine AW.ev0v (Mc := mX0_forget) (n := 78) dX9_street_75 lk_X9_112 k_mX0_forget s_123 rfl rfl (c_X0_forget) (Nat.le_of_ble_eq_true rfl) (by decide) (Nat.zero_le _) (Nat.zero_le _) rfl ?_
    refine AW.iconst (n := 79) (v := 0) dX9_street_78 rfl rfl ?_
    refine AW.ist1 (n := 80) dX9_street_79 (Nat.le_of_ble_eq_true rfl) rfl rfl ?_
    have h := l_X9_street (e := e) (μ := mu (mu (mu (sBegin (sSCopy (mu (sReadInto μ) 1 1 0) 10 3) 17) 28 2 0) 120 2 0) 123 2 0) 3 0 (by omega) (by omega)
    unfold oStreet
    rw [if_pos h25]
    exact h
  · refine AW.bipush (n := 30) (v := -10) dX9_street_28 rfl rfl ?_
    refine AW.aload_n (n := 31) dX9_street_30 rfl rfl ?_
    refine AW.gr (n := 34) dX9_street_31 fl_X9_10 s_0 rfl rfl ?_
    refine AW.gi (n := 37) dX9_street_34 fl_X9_99 s_1 rfl rfl ?_
    refine AW.isub (n := 38) dX9_street_37 rfl ?_
    refine AW.iret dX9_street_38 rfl rfl (Nat.zero_le _) (Nat.zero_le _) ?_
    exact ⟨by simp [oStreet, h25], by simp [oStreet, h25]⟩
set_option maxHeartbeats 4000000 in
set_option maxRecDepth 100000 in
theorem l_X9_drift {e : Nat × (Nat → aC)} {n dn k : Nat} {way : Int32} (hk : k ≤ 20) : ∀ (m i : Nat) (μ : Me), k = i + m → sOk μ 10 n dn → pOk μ → AW none 6 0 0 mX9_drift 0 0 52 [some (.ref 0), some (.int (nI k)), some (.int way), some (.int (nI i))] [] (wS μ e) (a_eq (some (.int (sDriftL way m μ 17 3))) (wS (sDriftL way m μ) e)) := by
  intro m
  induction m with
  | zero =>
    intro i μ hm ho hp
    refine AW.iload_n (n := 53) dX9_drift_52 rfl rfl ?_
    refine AW.iload_n (n := 54) dX9_drift_53 rfl rfl ?_
    refine AW.icmp_ge (n := 57) (t := 88) dX9_drift_54 rfl rfl (fun h54 => ?_) (fun h54 => ?_)
    · refine AW.aload_n (n := 89) dX9_drift_88 rfl rfl ?_
      refine AW.gr (n := 92) dX9_drift_89 fl_X9_29 s_0 rfl rfl ?_
      refine AW.gi (n := 95) dX9_drift_92 fl_X9_135 s_17 rfl rfl ?_
      refine AW.iret dX9_drift_95 rfl rfl (Nat.zero_le _) (Nat.zero_le _) ?_
      exact ⟨rfl, rfl⟩
    · exact absurd (nI_le (a := k) (b := i) (by omega) (by omega)) h54
  | succ m ih =>
    intro i μ hm ho hp
    have ho1 : sOk (sPush μ (xOf μ) (yOf μ) 17) 10 n dn := ho.of (sPush_ne (by decide) hp.x.2)
    have ho2 : sOk (sObd (sPush μ (xOf μ) (yOf μ) 17)) 10 n dn := ho1.of (sObd_ne (by decide) (by decide))
    have ho3 : sOk (sDice (sObd (sPush μ (xOf μ) (yOf μ) 17))) 10 n dn := ho2.of (sDice_ne (by decide))
    have ho4 : sOk (sDriftS way μ) 10 n dn := ho3.of (sDrive_ne (by decide))
    have hp1 : pOk (sPush μ (xOf μ) (yOf μ) 17) := pOk.push hp.y.2
    have hp4 : pOk (sDriftS way μ) := by
      refine hp1.of ?_
      unfold sDriftS
      rw [sDrive_ne (by decide), sDice_ne (by decide), sObd_ne (by decide) (by decide)]
    refine AW.iload_n (n := 53) dX9_drift_52 rfl rfl ?_
    refine AW.iload_n (n := 54) dX9_drift_53 rfl rfl ?_
    refine AW.icmp_ge (n := 57) (t := 88) dX9_drift_54 rfl rfl (fun h54 => ?_) (fun h54 => ?_)
    · exact absurd ((nI_leI (a := k) (b := i) (by omega) (by omega)).mp h54) (by omega)
    · refine AW.aload_n (n := 58) dX9_drift_57 rfl rfl ?_
      refine AW.gr (n := 61) dX9_drift_58 fl_X9_46 s_0 rfl rfl ?_
      refine AW.aload_n (n := 62) dX9_drift_61 rfl rfl ?_
      refine AW.gr (n := 65) dX9_drift_62 fl_X9_29 s_0 rfl rfl ?_
      refine AW.ev1v (Mc := mX3_push) (n := 68) dX9_drift_65 lk_X9_182 k_mX3_push s_28 rfl rfl (c_X3_push sD_17 hp.x.1 hp.x.2 hp.y.1 hp.y.2) (Nat.le_of_ble_eq_true rfl) (by decide) (Nat.zero_le _) (Nat.zero_le _) rfl ?_
      refine AW.aload_n (n := 69) dX9_drift_68 rfl rfl ?_
      refine AW.ev0v (Mc := mX9_orderByDraw) (n := 72) dX9_drift_69 lk_X9_198 k_mX9_orderByDraw s_0 rfl rfl (c_X9_orderByDraw ho1.1 ho1.2.1) (Nat.le_of_ble_eq_true rfl) (by decide) (Nat.zero_le _) (Nat.zero_le _) rfl ?_
      refine AW.aload_n (n := 73) dX9_drift_72 rfl rfl ?_
      refine AW.iload_n (n := 74) dX9_drift_73 rfl rfl ?_
      refine AW.aload_n (n := 75) dX9_drift_74 rfl rfl ?_
      refine AW.iconst (n := 76) (v := 4) dX9_drift_75 rfl rfl ?_
      refine AW.ev1i (Mc := mX9_draw) (n := 79) dX9_drift_76 lk_X9_201 k_mX9_draw s_0 rfl rfl (c_X9_draw) (Nat.le_of_ble_eq_true rfl) (by decide) (Nat.zero_le _) (Nat.zero_le _) rfl ?_
      refine AW.ev2v (Mc := mX9_drive) (n := 82) dX9_drift_79 lk_X9_186 k_mX9_drive s_0 rfl rfl (c_X9_drive ho3) (Nat.le_of_ble_eq_true rfl) (by decide) (Nat.zero_le _) (Nat.zero_le _) rfl ?_
      refine AW.inc3 (n := 85) (1) dX9_drift_82 rfl (Nat.le_of_ble_eq_true rfl) rfl rfl ?_
      refine AW.goto (t := 52) dX9_drift_85 rfl ?_
      rw [nI_1]
      exact ih (i + 1) _ (by omega) ho4 hp4
set_option maxHeartbeats 4000000 in
set_option maxRecDepth 100000 in
theorem c_X9_drift {μ : Me} {e : Nat × (Nat → aC)} {n dn : Nat} {k : Int32} (ho : sOk μ 10 n dn) (hp : pOk μ) : AC 6 0 0 mX9_drift [.ref 0, .int k] (wS μ e) (a_eq (some (.int ((oDrift μ n k).1))) (wS ((oDrift μ n k).2) e)) := by
  refine AC.of (L := [some (.ref 0), some (.int k), none, none]) (j := 2) (by decide) rfl (Nat.le_of_ble_eq_true rfl) ?_
  refine AW.iload_n (n := 1) dX9_drift_0 rfl rfl ?_
  refine AW.iconst (n := 2) (v := 1) dX9_drift_1 rfl rfl ?_
  refine AW.bipush (n := 4) (v := 20) dX9_drift_2 rfl rfl ?_
  refine AW.es3i (Mc := mX9_within) (n := 7) dX9_drift_4 lk_X9_79 k_mX9_within (c_X9_within) (Nat.le_of_ble_eq_true rfl) (by decide) (Nat.zero_le _) (Nat.zero_le _) rfl ?_
  refine AW.bif_ne (n := 10) (t := 13) dX9_drift_7 rfl rfl (fun h7 => ?_) (fun h7 => ?_)
  · refine AW.aload_n (n := 14) dX9_drift_13 rfl rfl ?_
    refine AW.gr (n := 17) dX9_drift_14 fl_X9_23 s_0 rfl rfl ?_
    refine AW.gi (n := 20) dX9_drift_17 fl_X9_117 s_10 rfl rfl ?_
    refine AW.if_ne (n := 23) (t := 26) dX9_drift_20 rfl rfl (fun h20 => ?_) (fun h20 => ?_)
    · refine AW.aload_n (n := 27) dX9_drift_26 rfl rfl ?_
      refine AW.gr (n := 30) dX9_drift_27 fl_X9_29 s_0 rfl rfl ?_
      refine AW.gi (n := 33) dX9_drift_30 fl_X9_132 s_17 rfl rfl ?_
      refine AW.sipush (n := 36) (v := 9000) dX9_drift_33 rfl rfl ?_
      refine AW.icmp_le (n := 39) (t := 42) dX9_drift_36 rfl rfl (fun h36 => ?_) (fun h36 => ?_)
      · refine AW.aload_n (n := 43) dX9_drift_42 rfl rfl ?_
        refine AW.gr (n := 46) dX9_drift_43 fl_X9_23 s_0 rfl rfl ?_
        refine AW.ev0i (Mc := mX6_risingWay) (n := 49) dX9_drift_46 lk_X9_194 k_mX6_risingWay s_10 rfl rfl (c_X6_risingWay sS_10 ho.1 ho.2.1) (Nat.le_of_ble_eq_true rfl) (by decide) (Nat.zero_le _) (Nat.zero_le _) rfl ?_
        refine AW.ist2 (n := 50) dX9_drift_49 (Nat.le_of_ble_eq_true rfl) rfl rfl ?_
        refine AW.iconst (n := 51) (v := 0) dX9_drift_50 rfl rfl ?_
        refine AW.ist3 (n := 52) dX9_drift_51 (Nat.le_of_ble_eq_true rfl) rfl rfl ?_
        obtain ⟨j, hj1, hj2, rfl⟩ := win_j (a := 1) (b := 20) (by decide) h7 (by decide)
        have hjc := cl_nI (show j < 2147483648 by omega)
        have h := l_X9_drift (e := e) (way := sRise n) hj2 j 0 μ (by omega) ho hp
        simp only [oDrift, h7, h20, h36, if_true, if_false, hjc]
        exact h
      · refine AW.ldc (n := 41) dX9_drift_39 kc_X9_91 rfl ?_
        refine AW.iret dX9_drift_41 rfl rfl (Nat.zero_le _) (Nat.zero_le _) ?_
        exact ⟨by simp [oDrift, h7, h20, h36], by simp [oDrift, h7, h20, h36]⟩
    · refine AW.ldc (n := 25) dX9_drift_23 kc_X9_193 rfl ?_
      refine AW.iret dX9_drift_25 rfl rfl (Nat.zero_le _) (Nat.zero_le _) ?_
      exact ⟨by simp [oDrift, h7, h20], by simp [oDrift, h7, h20]⟩
  · refine AW.ldc (n := 12) dX9_drift_10 kc_X9_83 rfl ?_
    refine AW.iret dX9_drift_12 rfl rfl (Nat.zero_le _) (Nat.zero_le _) ?_
    exact ⟨by simp [oDrift, h7], by simp [oDrift, h7]⟩
set_option maxHeartbeats 4000000 in
set_option maxRecDepth 100000 in
theorem c_X9_comes {μ : Me} {e : Nat × (Nat → aC)} {n dn : Nat} {s way h : Int32} (ho : sOk μ 10 n dn) : AC 5 0 0 mX9_comes [.ref 0, .int s, .int way, .int h] (wS μ e) (a_eq (some (.int ((oComes μ s way h).1))) (wS ((oComes μ s way h).2) e)) := by
  refine AC.of (L := [some (.ref 0), some (.int s), some (.int way), some (.int h), none]) (j := 1) (by decide) rfl (Nat.le_of_ble_eq_true rfl) ?_
  refine AW.aload_n (n := 1) dX9_comes_0 rfl rfl ?_
  refine AW.gr (n := 4) dX9_comes_1 fl_X9_23 s_0 rfl rfl ?_
  refine AW.iload_n (n := 5) dX9_comes_4 rfl rfl ?_
  refine AW.ev1i (Mc := mX6_has) (n := 8) dX9_comes_5 lk_X9_150 k_mX6_has s_10 rfl rfl (c_X6_has sS_10) (Nat.le_of_ble_eq_true rfl) (by decide) (Nat.zero_le _) (Nat.zero_le _) rfl ?_
  refine AW.bif_ne (n := 11) (t := 14) dX9_comes_8 rfl rfl (fun h8 => ?_) (fun h8 => ?_)
  · obtain ⟨j, hj, rfl⟩ := sHas_j ho.1 ho.2.1 h8
    have h7 := ho.2.1
    have hjc := cl_nI (show j < 2147483648 by omega)
    refine AW.aload_n (n := 15) dX9_comes_14 rfl rfl ?_
    refine AW.iload_n (n := 16) dX9_comes_15 rfl rfl ?_
    refine AW.iload_n (n := 17) dX9_comes_16 rfl rfl ?_
    refine AW.ev2i (Mc := mX9_refusalOfTrip) (n := 20) dX9_comes_17 lk_X9_179 k_mX9_refusalOfTrip s_0 rfl rfl (c_X9_refusalOfTrip ho.1 ho.2.1) (Nat.le_of_ble_eq_true rfl) (by decide) (Nat.zero_le _) (Nat.zero_le _) rfl ?_
    refine AW.ist4 (n := 22) dX9_comes_20 (Nat.le_of_ble_eq_true rfl) rfl rfl ?_
    refine AW.iload (n := 24) dX9_comes_22 rfl rfl ?_
    refine AW.if_eq (n := 27) (t := 30) dX9_comes_24 rfl rfl (fun h24 => ?_) (fun h24 => ?_)
    · refine AW.aload_n (n := 31) dX9_comes_30 rfl rfl ?_
      refine AW.gr (n := 34) dX9_comes_31 fl_X9_39 s_0 rfl rfl ?_
      refine AW.aload_n (n := 35) dX9_comes_34 rfl rfl ?_
      refine AW.gr (n := 38) dX9_comes_35 fl_X9_23 s_0 rfl rfl ?_
      refine AW.iload_n (n := 39) dX9_comes_38 rfl rfl ?_
      refine AW.aload_n (n := 40) dX9_comes_39 rfl rfl ?_
      refine AW.gr (n := 43) dX9_comes_40 fl_X9_29 s_0 rfl rfl ?_
      refine AW.iload_n (n := 44) dX9_comes_43 rfl rfl ?_
      refine AW.ev4v (Mc := mX8_run) (n := 47) dX9_comes_44 lk_X9_208 k_mX8_run s_23 rfl rfl (c_X8_run sD_17 ho) (Nat.le_of_ble_eq_true rfl) (by decide) (Nat.zero_le _) (Nat.zero_le _) rfl ?_
      refine AW.aload_n (n := 48) dX9_comes_47 rfl rfl ?_
      refine AW.gr (n := 51) dX9_comes_48 fl_X9_39 s_0 rfl rfl ?_
      refine AW.gr (n := 54) dX9_comes_51 fl_X9_212 s_23 rfl rfl ?_
      refine AW.iload_n (n := 55) dX9_comes_54 rfl rfl ?_
      refine AW.ia (n := 56) j dX9_comes_55 s_27 rfl (by omega) (by decide) rfl ?_
      refine AW.iret dX9_comes_56 rfl rfl (Nat.zero_le _) (Nat.zero_le _) ?_
      exact ⟨by simp [oComes, h8, h24, hjc], by simp [oComes, h8, h24, hjc]⟩
    · refine AW.iload (n := 29) dX9_comes_27 rfl rfl ?_
      refine AW.iret dX9_comes_29 rfl rfl (Nat.zero_le _) (Nat.zero_le _) ?_
      exact ⟨by simp [oComes, h8, h24, hjc], by simp [oComes, h8, h24, hjc]⟩
  · refine AW.ldc (n := 13) dX9_comes_11 kc_X9_153 rfl ?_
    refine AW.iret dX9_comes_13 rfl rfl (Nat.zero_le _) (Nat.zero_le _) ?_
    exact ⟨by simp [oComes, h8], by simp [oComes, h8]⟩
set_option maxHeartbeats 4000000 in
set_option maxRecDepth 100000 in
theorem c_X9_home {μ : Me} {e : Nat × (Nat → aC)} {n dn : Nat} {way h : Int32} (ho : sOk μ 10 n dn) : AC 5 0 0 mX9_home [.ref 0, .int way, .int h] (wS μ e) (a_eq (some (.int ((oHome μ way h).1))) (wS ((oHome μ way h).2) e)) := by
  refine AC.of (L := [some (.ref 0), some (.int way), some (.int h), none]) (j := 1) (by decide) rfl (Nat.le_of_ble_eq_true rfl) ?_
  refine AW.aload_n (n := 1) dX9_home_0 rfl rfl ?_
  refine AW.iload_n (n := 2) dX9_home_1 rfl rfl ?_
  refine AW.iload_n (n := 3) dX9_home_2 rfl rfl ?_
  refine AW.ev2i (Mc := mX9_refusalOfTrip) (n := 6) dX9_home_3 lk_X9_179 k_mX9_refusalOfTrip s_0 rfl rfl (c_X9_refusalOfTrip ho.1 ho.2.1) (Nat.le_of_ble_eq_true rfl) (by decide) (Nat.zero_le _) (Nat.zero_le _) rfl ?_
  refine AW.ist3 (n := 7) dX9_home_6 (Nat.le_of_ble_eq_true rfl) rfl rfl ?_
  refine AW.iload_n (n := 8) dX9_home_7 rfl rfl ?_
  refine AW.if_eq (n := 11) (t := 13) dX9_home_8 rfl rfl (fun h8 => ?_) (fun h8 => ?_)
  · refine AW.aload_n (n := 14) dX9_home_13 rfl rfl ?_
    refine AW.gr (n := 17) dX9_home_14 fl_X9_39 s_0 rfl rfl ?_
    refine AW.aload_n (n := 18) dX9_home_17 rfl rfl ?_
    refine AW.gr (n := 21) dX9_home_18 fl_X9_23 s_0 rfl rfl ?_
    refine AW.iload_n (n := 22) dX9_home_21 rfl rfl ?_
    refine AW.aload_n (n := 23) dX9_home_22 rfl rfl ?_
    refine AW.gr (n := 26) dX9_home_23 fl_X9_29 s_0 rfl rfl ?_
    refine AW.iload_n (n := 27) dX9_home_26 rfl rfl ?_
    refine AW.ev4v (Mc := mX8_run) (n := 30) dX9_home_27 lk_X9_208 k_mX8_run s_23 rfl rfl (c_X8_run sD_17 ho) (Nat.le_of_ble_eq_true rfl) (by decide) (Nat.zero_le _) (Nat.zero_le _) rfl ?_
    refine AW.aload_n (n := 31) dX9_home_30 rfl rfl ?_
    refine AW.gr (n := 34) dX9_home_31 fl_X9_39 s_0 rfl rfl ?_
    refine AW.gi (n := 37) dX9_home_34 fl_X9_190 s_23 rfl rfl ?_
    refine AW.iret dX9_home_37 rfl rfl (Nat.zero_le _) (Nat.zero_le _) ?_
    exact ⟨by simp [oHome, h8], by simp [oHome, h8]⟩
  · refine AW.iload_n (n := 12) dX9_home_11 rfl rfl ?_
    refine AW.iret dX9_home_12 rfl rfl (Nat.zero_le _) (Nat.zero_le _) ?_
    exact ⟨by simp [oHome, h8], by simp [oHome, h8]⟩
set_option maxHeartbeats 4000000 in
set_option maxRecDepth 100000 in
theorem l_X9_outcome {μ : Me} {e : Nat × (Nat → aC)} {n : Nat} {way h r : Int32} (hn : μ 10 3 = nI n) (h7 : n ≤ 7) : ∀ (m : Nat) (i : Nat), n - i < m → i ≤ n → AW none 5 0 0 mX9_outcome 0 0 36 [some (.ref 0), some (.int way), some (.int h), some (.int r), some (.int (sFgs (μ 25) i)), some (.int (nI i))] [] (wS μ e) (a_eq (some (.int (sFgs (μ 25) n))) (wS μ e)) := by
  intro m
  induction m with
  | zero => intro i hm; exact absurd hm (Nat.not_lt_zero _)
  | succ m ih =>
    intro i hm hc
    refine AW.iload (n := 38) dX9_outcome_36 rfl rfl ?_
    refine AW.aload_n (n := 39) dX9_outcome_38 rfl rfl ?_
    refine AW.gr (n := 42) dX9_outcome_39 fl_X9_23 s_0 rfl rfl ?_
    refine AW.gi (n := 45) dX9_outcome_42 fl_X9_117 s_10 rfl rfl ?_
    refine AW.icmp_ge (n := 48) (t := 75) dX9_outcome_45 rfl rfl (fun h45 => ?_) (fun h45 => ?_)
    · have hi : n ≤ i := le_lit (b := n) (x := nI i) rfl (by omega) (by omega) (by rw [← hn]; exact h45)
      have he : i = n := by omega
      subst he
      refine AW.iload (n := 77) dX9_outcome_75 rfl rfl ?_
      refine AW.iret dX9_outcome_77 rfl rfl (Nat.zero_le _) (Nat.zero_le _) ?_
      exact ⟨rfl, rfl⟩
    · have hi : i < n := nle_lit (b := n) (x := nI i) rfl (by omega) (by omega) (by rw [← hn]; exact h45)
      refine AW.iload (n := 50) dX9_outcome_48 rfl rfl ?_
      refine AW.bipush (n := 52) (v := 10) dX9_outcome_50 rfl rfl ?_
      refine AW.imul (n := 53) dX9_outcome_52 rfl ?_
      refine AW.aload_n (n := 54) dX9_outcome_53 rfl rfl ?_
      refine AW.gr (n := 57) dX9_outcome_54 fl_X9_39 s_0 rfl rfl ?_
      refine AW.gr (n := 60) dX9_outcome_57 fl_X9_215 s_23 rfl rfl ?_
      refine AW.gr (n := 63) dX9_outcome_60 fl_X9_163 s_24 rfl rfl ?_
      refine AW.iload (n := 65) dX9_outcome_63 rfl rfl ?_
      refine AW.ia (n := 66) i dX9_outcome_65 s_25 rfl (by omega) (by decide) rfl ?_
      refine AW.iadd (n := 67) dX9_outcome_66 rfl ?_
      refine AW.ist4 (n := 69) dX9_outcome_67 (Nat.le_of_ble_eq_true rfl) rfl rfl ?_
      refine AW.inc5 (n := 72) (1) dX9_outcome_69 rfl (Nat.le_of_ble_eq_true rfl) rfl rfl ?_
      refine AW.goto (t := 36) dX9_outcome_72 rfl ?_
      rw [nI_1]
      exact ih (i + 1) (by omega) (by omega)
set_option maxHeartbeats 4000000 in
set_option maxRecDepth 100000 in
theorem c_X9_outcome {μ : Me} {e : Nat × (Nat → aC)} {n dn : Nat} {way h : Int32} (ho : sOk μ 10 n dn) : AC 5 0 0 mX9_outcome [.ref 0, .int way, .int h] (wS μ e) (a_eq (some (.int ((oOutcome μ n way h).1))) (wS ((oOutcome μ n way h).2) e)) := by
  refine AC.of (L := [some (.ref 0), some (.int way), some (.int h), none, none, none]) (j := 3) (by decide) rfl (Nat.le_of_ble_eq_true rfl) ?_
  refine AW.aload_n (n := 1) dX9_outcome_0 rfl rfl ?_
  refine AW.iload_n (n := 2) dX9_outcome_1 rfl rfl ?_
  refine AW.iload_n (n := 3) dX9_outcome_2 rfl rfl ?_
  refine AW.ev2i (Mc := mX9_refusalOfTrip) (n := 6) dX9_outcome_3 lk_X9_179 k_mX9_refusalOfTrip s_0 rfl rfl (c_X9_refusalOfTrip ho.1 ho.2.1) (Nat.le_of_ble_eq_true rfl) (by decide) (Nat.zero_le _) (Nat.zero_le _) rfl ?_
  refine AW.ist3 (n := 7) dX9_outcome_6 (Nat.le_of_ble_eq_true rfl) rfl rfl ?_
  refine AW.iload_n (n := 8) dX9_outcome_7 rfl rfl ?_
  refine AW.if_eq (n := 11) (t := 13) dX9_outcome_8 rfl rfl (fun h8 => ?_) (fun h8 => ?_)
  · refine AW.aload_n (n := 14) dX9_outcome_13 rfl rfl ?_
    refine AW.gr (n := 17) dX9_outcome_14 fl_X9_39 s_0 rfl rfl ?_
    refine AW.aload_n (n := 18) dX9_outcome_17 rfl rfl ?_
    refine AW.gr (n := 21) dX9_outcome_18 fl_X9_23 s_0 rfl rfl ?_
    refine AW.iload_n (n := 22) dX9_outcome_21 rfl rfl ?_
    refine AW.aload_n (n := 23) dX9_outcome_22 rfl rfl ?_
    refine AW.gr (n := 26) dX9_outcome_23 fl_X9_29 s_0 rfl rfl ?_
    refine AW.iload_n (n := 27) dX9_outcome_26 rfl rfl ?_
    refine AW.ev4v (Mc := mX8_run) (n := 30) dX9_outcome_27 lk_X9_208 k_mX8_run s_23 rfl rfl (c_X8_run sD_17 ho) (Nat.le_of_ble_eq_true rfl) (by decide) (Nat.zero_le _) (Nat.zero_le _) rfl ?_
    refine AW.iconst (n := 31) (v := 0) dX9_outcome_30 rfl rfl ?_
    refine AW.ist4 (n := 33) dX9_outcome_31 (Nat.le_of_ble_eq_true rfl) rfl rfl ?_
    refine AW.iconst (n := 34) (v := 0) dX9_outcome_33 rfl rfl ?_
    refine AW.ist5 (n := 36) dX9_outcome_34 (Nat.le_of_ble_eq_true rfl) rfl rfl ?_
    unfold oOutcome
    rw [if_pos h8]
    exact l_X9_outcome (by rw [sRun_ne (by decide)]; exact ho.1) ho.2.1 (n + 1) 0 (by omega) (Nat.zero_le _)
  · refine AW.iload_n (n := 12) dX9_outcome_11 rfl rfl ?_
    refine AW.iret dX9_outcome_12 rfl rfl (Nat.zero_le _) (Nat.zero_le _) ?_
    exact ⟨by simp [oOutcome, h8], by simp [oOutcome, h8]⟩
