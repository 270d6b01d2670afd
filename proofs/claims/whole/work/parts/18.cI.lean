def sBC (i : Int32) : Int32 :=
  let a := i - ((i.toUInt32 >>> ((1 : Int32).toUInt32 &&& Int32.toUInt32 31)).toInt32 &&& 1431655765)
  let b := (a &&& 858993459) + ((a.toUInt32 >>> ((2 : Int32).toUInt32 &&& Int32.toUInt32 31)).toInt32 &&& 858993459)
  let c := (b + (b.toUInt32 >>> ((4 : Int32).toUInt32 &&& Int32.toUInt32 31)).toInt32) &&& 252645135
  let d := c + (c.toUInt32 >>> ((8 : Int32).toUInt32 &&& Int32.toUInt32 31)).toInt32
  let f := d + (d.toUInt32 >>> ((16 : Int32).toUInt32 &&& Int32.toUInt32 31)).toInt32
  f &&& 63
def sThere (μ : Me) : Nat → Me
  | 0 => μ
  | i + 1 => mu (sThere μ i) 27 i (-1)
def sTBeg (μ : Me) (d : Nat) : Me := mu (mu (mu (mu (mu (sThere (sCopy μ 24 d) 7) 23 3 0) 23 4 0) 23 5 0) 23 6 0) 23 7 0
def sFE (way : Int32) : Nat → Nat → Nat
  | 0, i => i
  | m + 1, i => if way / nI (10 ^ i) < 10 then i else sFE way m (i + 1)
def sCallM (μ : Me) (j : Nat) : Me :=
  let m1 := mu μ 23 6 (μ 23 6 + sBetw μ 10 (μ 23 7) (μ 11 j))
  let m2 := mu m1 23 7 (m1 11 j)
  mu m2 27 j (m2 23 6)
def sCallD (μ : Me) (j : Nat) (bc : Int32) : Me :=
  if bc = 2 then mu μ 23 3 (μ 23 3 + 1) else if bc = 3 then mu μ 26 j (μ 26 j + 1) else mu μ 23 4 (μ 23 4 ||| ((1 : Int32) <<< (nI j &&& 31)))
def sCallB (μ : Me) (j : Nat) (haste : Int32) : Me :=
  let m4 := mu μ 23 5 (μ 23 5 + 1)
  let rg := sRings (m4 23 5) haste
  let bc := sMeets m4 10 (nI j) (m4 23 6) rg (m4 26 j)
  let m5 := mu m4 23 6 (m4 23 6 + sDoor m4 10 rg bc)
  sCallD (mu m5 25 j bc) j bc
def sCall (μ : Me) (j : Nat) (haste : Int32) : Me := if sCounts (sCallM μ j 25 j) then sCallB (sCallM μ j) j haste else sCallM μ j
def sFig (way : Int32) (i : Nat) : Int32 := way / nI (10 ^ i) - way / nI (10 ^ i) / 10 * 10 - 1
def sRL (way haste : Int32) : Nat → Me → Me
  | 0, μ => μ
  | i + 1, μ => sRL way haste i (if sHas (μ 10 3) (sFig way i) then sCall μ (sFig way i).toNatClampNeg haste else μ)
def sRunT (μ : Me) : Me :=
  let m1 := mu μ 23 2 (μ 23 6 + sBetw μ 10 (μ 23 7) 0)
  let m2 := mu m1 24 2 (m1 24 2 + 1)
  let m3 := mu m2 24 3 (m2 24 3 + m2 23 2)
  mu m3 24 4 (m3 24 4 + sBC (m3 23 4))
def sRun (μ : Me) (way : Int32) (d : Nat) (haste : Int32) : Me := sRunT (sRL way haste (sFE way 9 0 + 1) (sTBeg μ d))
theorem sCallM_ne {μ : Me} {j i : Nat} (h1 : i ≠ 23) (h2 : i ≠ 27) : sCallM μ j i = μ i := by
  unfold sCallM
  rw [mu_ne h2, mu_ne h1, mu_ne h1]
theorem sCallD_ne {μ : Me} {j i : Nat} {bc : Int32} (h1 : i ≠ 23) (h2 : i ≠ 26) : sCallD μ j bc i = μ i := by
  unfold sCallD
  split
  · exact mu_ne h1
  · split
    · exact mu_ne h2
    · exact mu_ne h1
theorem sCallB_ne {μ : Me} {j i : Nat} {h : Int32} (h1 : i ≠ 23) (h2 : i ≠ 26) (h3 : i ≠ 25) : sCallB μ j h i = μ i := by
  unfold sCallB
  rw [sCallD_ne h1 h2, mu_ne h3, mu_ne h1, mu_ne h1]
theorem sCall_ne {μ : Me} {j i : Nat} {h : Int32} (h1 : i ≠ 23) (h2 : i ≠ 26) (h3 : i ≠ 25) (h4 : i ≠ 27) : sCall μ j h i = μ i := by
  unfold sCall
  split
  · rw [sCallB_ne h1 h2 h3, sCallM_ne h1 h4]
  · exact sCallM_ne h1 h4
theorem sRL_ne {way h : Int32} {i : Nat} (h1 : i ≠ 23) (h2 : i ≠ 26) (h3 : i ≠ 25) (h4 : i ≠ 27) : ∀ (m : Nat) (μ : Me), sRL way h m μ i = μ i := by
  intro m
  induction m with
  | zero => intro μ; rfl
  | succ m ih =>
    intro μ
    rw [sRL, ih]
    split
    · exact sCall_ne h1 h2 h3 h4
    · rfl
theorem sOk.of {μ ν : Me} {a n dn : Nat} (h : sOk μ a n dn) (e : ν a = μ a) : sOk ν a n dn := by
  obtain ⟨h1, h2, h3, h4⟩ := h
  exact ⟨by rw [e]; exact h1, h2, by rw [e]; exact h3, h4⟩
theorem sFE_le (way : Int32) : ∀ (m i : Nat), sFE way m i ≤ i + m := by
  intro m
  induction m with
  | zero => intro i; exact Nat.le_refl _
  | succ m ih =>
    intro i
    rw [sFE]
    split
    · omega
    · have := ih (i + 1); omega
theorem p10_lt {i : Nat} (h : i ≤ 9) : 10 ^ i < 2147483648 ∧ 0 < 10 ^ i := by
  have h1 : 10 ^ i ≤ 10 ^ 9 := Nat.pow_le_pow_right (by decide) h
  exact ⟨by omega, Nat.pow_pos (by decide)⟩
theorem p10_ne {i : Nat} (h : i ≤ 9) : ¬ (nI (10 ^ i) : Int32) = 0 := nI_ne0 (p10_lt h).2 (p10_lt h).1
theorem sCopy_ne {μ : Me} {a b i : Nat} (h1 : i ≠ a) (h2 : i ≠ a + 1) (h3 : i ≠ a + 2) : sCopy μ a b i = μ i := by
  unfold sCopy
  rw [mu_ne h1, mu_ne h1, mu_ne h1, mr_ne h3, mr_ne h2]
theorem sThere_ne {μ : Me} {i : Nat} (h : i ≠ 27) : ∀ m, sThere μ m i = μ i := by
  intro m
  induction m with
  | zero => rfl
  | succ m ih => rw [sThere, mu_ne h, ih]
theorem sTBeg_ne {μ : Me} {d i : Nat} (h1 : i ≠ 23) (h2 : i ≠ 24) (h3 : i ≠ 25) (h4 : i ≠ 26) (h5 : i ≠ 27) : sTBeg μ d i = μ i := by
  unfold sTBeg
  rw [mu_ne h1, mu_ne h1, mu_ne h1, mu_ne h1, mu_ne h1, sThere_ne h5, sCopy_ne h2 h3 h4]
set_option maxHeartbeats 4000000 in
set_option maxRecDepth 100000 in
theorem c_J6_bitCount_0f7a4 {σ : aS} {i : Int32}  : AC 0 0 0 mJ6_bitCount_0f7a4 [.int i] σ (a_eq (some (.int (sBC i))) σ) := by
  refine AC.of (L := [some (.int i)]) (j := 0) (by decide) rfl (Nat.le_of_ble_eq_true rfl) ?_
  refine AW.iload_n (n := 1) dJ6_bitCount_0f7a4_0 rfl rfl ?_
  refine AW.iload_n (n := 2) dJ6_bitCount_0f7a4_1 rfl rfl ?_
  refine AW.iconst (n := 3) (v := 1) dJ6_bitCount_0f7a4_2 rfl rfl ?_
  refine AW.iushr (n := 4) dJ6_bitCount_0f7a4_3 rfl ?_
  refine AW.ldcw (n := 7) dJ6_bitCount_0f7a4_4 kc_J6_265 rfl ?_
  refine AW.iand (n := 8) dJ6_bitCount_0f7a4_7 rfl ?_
  refine AW.isub (n := 9) dJ6_bitCount_0f7a4_8 rfl ?_
  refine AW.ist0 (n := 10) dJ6_bitCount_0f7a4_9 (Nat.le_of_ble_eq_true rfl) rfl rfl ?_
  refine AW.iload_n (n := 11) dJ6_bitCount_0f7a4_10 rfl rfl ?_
  refine AW.ldcw (n := 14) dJ6_bitCount_0f7a4_11 kc_J6_266 rfl ?_
  refine AW.iand (n := 15) dJ6_bitCount_0f7a4_14 rfl ?_
  refine AW.iload_n (n := 16) dJ6_bitCount_0f7a4_15 rfl rfl ?_
  refine AW.iconst (n := 17) (v := 2) dJ6_bitCount_0f7a4_16 rfl rfl ?_
  refine AW.iushr (n := 18) dJ6_bitCount_0f7a4_17 rfl ?_
  refine AW.ldcw (n := 21) dJ6_bitCount_0f7a4_18 kc_J6_266 rfl ?_
  refine AW.iand (n := 22) dJ6_bitCount_0f7a4_21 rfl ?_
  refine AW.iadd (n := 23) dJ6_bitCount_0f7a4_22 rfl ?_
  refine AW.ist0 (n := 24) dJ6_bitCount_0f7a4_23 (Nat.le_of_ble_eq_true rfl) rfl rfl ?_
  refine AW.iload_n (n := 25) dJ6_bitCount_0f7a4_24 rfl rfl ?_
  refine AW.iload_n (n := 26) dJ6_bitCount_0f7a4_25 rfl rfl ?_
  refine AW.iconst (n := 27) (v := 4) dJ6_bitCount_0f7a4_26 rfl rfl ?_
  refine AW.iushr (n := 28) dJ6_bitCount_0f7a4_27 rfl ?_
  refine AW.iadd (n := 29) dJ6_bitCount_0f7a4_28 rfl ?_
  refine AW.ldcw (n := 32) dJ6_bitCount_0f7a4_29 kc_J6_267 rfl ?_
  refine AW.iand (n := 33) dJ6_bitCount_0f7a4_32 rfl ?_
  refine AW.ist0 (n := 34) dJ6_bitCount_0f7a4_33 (Nat.le_of_ble_eq_true rfl) rfl rfl ?_
  refine AW.iload_n (n := 35) dJ6_bitCount_0f7a4_34 rfl rfl ?_
  refine AW.iload_n (n := 36) dJ6_bitCount_0f7a4_35 rfl rfl ?_
  refine AW.bipush (n := 38) (v := 8) dJ6_bitCount_0f7a4_36 rfl rfl ?_
  refine AW.iushr (n := 39) dJ6_bitCount_0f7a4_38 rfl ?_
  refine AW.iadd (n := 40) dJ6_bitCount_0f7a4_39 rfl ?_
  refine AW.ist0 (n := 41) dJ6_bitCount_0f7a4_40 (Nat.le_of_ble_eq_true rfl) rfl rfl ?_
  refine AW.iload_n (n := 42) dJ6_bitCount_0f7a4_41 rfl rfl ?_
  refine AW.iload_n (n := 43) dJ6_bitCount_0f7a4_42 rfl rfl ?_
  refine AW.bipush (n := 45) (v := 16) dJ6_bitCount_0f7a4_43 rfl rfl ?_
  refine AW.iushr (n := 46) dJ6_bitCount_0f7a4_45 rfl ?_
  refine AW.iadd (n := 47) dJ6_bitCount_0f7a4_46 rfl ?_
  refine AW.ist0 (n := 48) dJ6_bitCount_0f7a4_47 (Nat.le_of_ble_eq_true rfl) rfl rfl ?_
  refine AW.iload_n (n := 49) dJ6_bitCount_0f7a4_48 rfl rfl ?_
  refine AW.bipush (n := 51) (v := 63) dJ6_bitCount_0f7a4_49 rfl rfl ?_
  refine AW.iand (n := 52) dJ6_bitCount_0f7a4_51 rfl ?_
  refine AW.iret dJ6_bitCount_0f7a4_52 rfl rfl (Nat.zero_le _) (Nat.zero_le _) ?_
  exact ⟨rfl, rfl⟩
set_option maxHeartbeats 4000000 in
set_option maxRecDepth 100000 in
theorem l_X8_begin {μ : Me} {e : Nat × (Nat → aC)} {d : Nat}  : ∀ (m : Nat) (i : Nat), 7 - i < m → i ≤ 7 → AW none 2 0 0 mX8_begin 0 0 10 [some (.ref 23), some (.ref d), some (.int (nI i))] [] (wS (sThere (sCopy μ 24 d) i) e) (a_eq none (wS (sTBeg μ d) e)) := by
  intro m
  induction m with
  | zero => intro i hm; exact absurd hm (Nat.not_lt_zero _)
  | succ m ih =>
    intro i hm hc
    refine AW.iload_n (n := 11) dX8_begin_10 rfl rfl ?_
    refine AW.bipush (n := 13) (v := 7) dX8_begin_11 rfl rfl ?_
    refine AW.icmp_ge (n := 16) (t := 29) dX8_begin_13 rfl rfl (fun h13 => ?_) (fun h13 => ?_)
    · have hi : 7 ≤ i := le_lit (b := 7) (x := nI i) rfl (by omega) (by omega) h13
      have he : i = 7 := by omega
      subst he
      refine AW.aload_n (n := 30) dX8_begin_29 rfl rfl ?_
      refine AW.iconst (n := 31) (v := 0) dX8_begin_30 rfl rfl ?_
      refine AW.pi (n := 34) dX8_begin_31 fp_X8_26 s_23 rfl ⟨rfl, rfl⟩ rfl ?_
      refine AW.aload_n (n := 35) dX8_begin_34 rfl rfl ?_
      refine AW.iconst (n := 36) (v := 0) dX8_begin_35 rfl rfl ?_
      refine AW.pi (n := 39) dX8_begin_36 fp_X8_29 s_23 rfl ⟨rfl, rfl⟩ rfl ?_
      refine AW.aload_n (n := 40) dX8_begin_39 rfl rfl ?_
      refine AW.iconst (n := 41) (v := 0) dX8_begin_40 rfl rfl ?_
      refine AW.pi (n := 44) dX8_begin_41 fp_X8_32 s_23 rfl ⟨rfl, rfl⟩ rfl ?_
      refine AW.aload_n (n := 45) dX8_begin_44 rfl rfl ?_
      refine AW.iconst (n := 46) (v := 0) dX8_begin_45 rfl rfl ?_
      refine AW.pi (n := 49) dX8_begin_46 fp_X8_35 s_23 rfl ⟨rfl, rfl⟩ rfl ?_
      refine AW.aload_n (n := 50) dX8_begin_49 rfl rfl ?_
      refine AW.iconst (n := 51) (v := 0) dX8_begin_50 rfl rfl ?_
      refine AW.pi (n := 54) dX8_begin_51 fp_X8_38 s_23 rfl ⟨rfl, rfl⟩ rfl ?_
      refine AW.ret dX8_begin_54 rfl (Nat.zero_le _) (Nat.zero_le _) ?_
      exact ⟨rfl, rfl⟩
    · have hi : i < 7 := nle_lit (b := 7) (x := nI i) rfl (by omega) (by omega) h13
      refine AW.aload_n (n := 17) dX8_begin_16 rfl rfl ?_
      refine AW.gr (n := 20) dX8_begin_17 fl_X8_18 s_23 rfl rfl ?_
      refine AW.iload_n (n := 21) dX8_begin_20 rfl rfl ?_
      refine AW.iconst (n := 22) (v := -1) dX8_begin_21 rfl rfl ?_
      refine AW.is (n := 23) i dX8_begin_22 s_27 rfl (by omega) (by decide) rfl ?_
      refine AW.inc2 (n := 26) (1) dX8_begin_23 rfl (Nat.le_of_ble_eq_true rfl) rfl rfl ?_
      refine AW.goto (t := 10) dX8_begin_26 rfl ?_
      rw [nI_1]
      exact ih (i + 1) (by omega) (by omega)
set_option maxHeartbeats 4000000 in
set_option maxRecDepth 100000 in
theorem c_X8_begin {μ : Me} {e : Nat × (Nat → aC)} {d : Nat} (hd : sD d) : AC 2 0 0 mX8_begin [.ref 23, .ref d] (wS μ e) (a_eq none (wS (sTBeg μ d) e)) := by
  refine AC.of (L := [some (.ref 23), some (.ref d), none]) (j := 1) (by decide) rfl (Nat.le_of_ble_eq_true rfl) ?_
  refine AW.aload_n (n := 1) dX8_begin_0 rfl rfl ?_
  refine AW.gr (n := 4) dX8_begin_1 fl_X8_12 s_23 rfl rfl ?_
  refine AW.aload_n (n := 5) dX8_begin_4 rfl rfl ?_
  refine AW.ev1v (Mc := mX1_copy) (n := 8) dX8_begin_5 lk_X8_77 k_mX1_copy s_24 rfl rfl (c_X1_copy sD_24 hd) (Nat.le_of_ble_eq_true rfl) (by decide) (Nat.zero_le _) (Nat.zero_le _) rfl ?_
  refine AW.iconst (n := 9) (v := 0) dX8_begin_8 rfl rfl ?_
  refine AW.ist2 (n := 10) dX8_begin_9 (Nat.le_of_ble_eq_true rfl) rfl rfl ?_
  exact l_X8_begin 8 0 (by omega) (Nat.zero_le _)
set_option maxHeartbeats 4000000 in
set_option maxRecDepth 100000 in
theorem l_X8_firstUnit {σ : aS} {way : Int32} : ∀ (m i : Nat), 9 = i + m → AW none 0 0 0 mX8_firstUnit 0 0 4 [some (.int way), some (.int (nI (10 ^ i))), some (.int (nI (i + 1)))] [] σ (a_eq (some (.int (nI (10 ^ sFE way m i)))) σ) := by
  intro m
  induction m with
  | zero =>
    intro i hm
    refine AW.iload_n (n := 5) dX8_firstUnit_4 rfl rfl ?_
    refine AW.bipush (n := 7) (v := 10) dX8_firstUnit_5 rfl rfl ?_
    refine AW.icmp_ge (n := 10) (t := 29) dX8_firstUnit_7 rfl rfl (fun h7 => ?_) (fun h7 => ?_)
    · refine AW.iload_n (n := 30) dX8_firstUnit_29 rfl rfl ?_
      refine AW.iret dX8_firstUnit_30 rfl rfl (Nat.zero_le _) (Nat.zero_le _) ?_
      exact ⟨rfl, rfl⟩
    · exact absurd (nI_le (a := 10) (b := i + 1) (by omega) (by omega)) h7
  | succ m ih =>
    intro i hm
    refine AW.iload_n (n := 5) dX8_firstUnit_4 rfl rfl ?_
    refine AW.bipush (n := 7) (v := 10) dX8_firstUnit_5 rfl rfl ?_
    refine AW.icmp_ge (n := 10) (t := 29) dX8_firstUnit_7 rfl rfl (fun h7 => ?_) (fun h7 => ?_)
    · exact absurd ((nI_leI (a := 10) (b := i + 1) (by omega) (by omega)).mp h7) (by omega)
    · refine AW.iload_n (n := 11) dX8_firstUnit_10 rfl rfl ?_
      refine AW.iload_n (n := 12) dX8_firstUnit_11 rfl rfl ?_
      refine AW.idiv (n := 13) dX8_firstUnit_12 (p10_ne (by omega)) rfl ?_
      refine AW.bipush (n := 15) (v := 10) dX8_firstUnit_13 rfl rfl ?_
      refine AW.icmp_lt (n := 18) (t := 29) dX8_firstUnit_15 rfl rfl (fun h15 => ?_) (fun h15 => ?_)
      · refine AW.iload_n (n := 30) dX8_firstUnit_29 rfl rfl ?_
        refine AW.iret dX8_firstUnit_30 rfl rfl (Nat.zero_le _) (Nat.zero_le _) ?_
        exact ⟨by rw [sFE, if_pos h15], rfl⟩
      · refine AW.iload_n (n := 19) dX8_firstUnit_18 rfl rfl ?_
        refine AW.bipush (n := 21) (v := 10) dX8_firstUnit_19 rfl rfl ?_
        refine AW.imul (n := 22) dX8_firstUnit_21 rfl ?_
        refine AW.ist1 (n := 23) dX8_firstUnit_22 (Nat.le_of_ble_eq_true rfl) rfl rfl ?_
        refine AW.inc2 (n := 26) (1) dX8_firstUnit_23 rfl (Nat.le_of_ble_eq_true rfl) rfl rfl ?_
        refine AW.goto (t := 4) dX8_firstUnit_26 rfl ?_
        rw [nI_1]
        rw [show nI (10 ^ i) * 10 = nI (10 ^ (i + 1)) from by rw [Nat.pow_succ]; exact pk_mul _ 10]
        rw [sFE, if_neg h15]
        exact ih (i + 1) (by omega)
set_option maxHeartbeats 4000000 in
set_option maxRecDepth 100000 in
theorem c_X8_firstUnit {σ : aS} {way : Int32}  : AC 0 0 0 mX8_firstUnit [.int way] σ (a_eq (some (.int (nI (10 ^ sFE way 9 0)))) σ) := by
  refine AC.of (L := [some (.int way), none, none]) (j := 2) (by decide) rfl (Nat.le_of_ble_eq_true rfl) ?_
  refine AW.iconst (n := 1) (v := 1) dX8_firstUnit_0 rfl rfl ?_
  refine AW.ist1 (n := 2) dX8_firstUnit_1 (Nat.le_of_ble_eq_true rfl) rfl rfl ?_
  refine AW.iconst (n := 3) (v := 1) dX8_firstUnit_2 rfl rfl ?_
  refine AW.ist2 (n := 4) dX8_firstUnit_3 (Nat.le_of_ble_eq_true rfl) rfl rfl ?_
  exact l_X8_firstUnit 9 0 rfl
set_option maxHeartbeats 4000000 in
set_option maxRecDepth 100000 in
theorem c_X8_call {μ : Me} {e : Nat × (Nat → aC)} {n dn j : Nat} {ha : Int32} (ho : sOk μ 10 n dn) (hj : j < n) : AC 3 0 0 mX8_call [.ref 23, .ref 10, .int (nI j), .int ha] (wS μ e) (a_eq none (wS (sCall μ j ha) e)) := by
  refine AC.of (L := [some (.ref 23), some (.ref 10), some (.int (nI j)), some (.int ha), none, none]) (j := 2) (by decide) rfl (Nat.le_of_ble_eq_true rfl) ?_
  have h7 := ho.2.1
  have hoM : sOk (sCallM μ j) 10 n dn := ho.of (sCallM_ne (by decide) (by decide))
  refine AW.aload_n (n := 1) dX8_call_0 rfl rfl ?_
  refine AW.dup (n := 2) dX8_call_1 rfl rfl ?_
  refine AW.gi (n := 5) dX8_call_2 fl_X8_35 s_23 rfl rfl ?_
  refine AW.aload_n (n := 6) dX8_call_5 rfl rfl ?_
  refine AW.aload_n (n := 7) dX8_call_6 rfl rfl ?_
  refine AW.gi (n := 10) dX8_call_7 fl_X8_38 s_23 rfl rfl ?_
  refine AW.aload_n (n := 11) dX8_call_10 rfl rfl ?_
  refine AW.gr (n := 14) dX8_call_11 fl_X8_80 s_10 rfl rfl ?_
  refine AW.iload_n (n := 15) dX8_call_14 rfl rfl ?_
  refine AW.ia (n := 16) j dX8_call_15 s_11 rfl (by omega) (by decide) rfl ?_
  refine AW.ev2i (Mc := mX6_secondsBetween) (n := 19) dX8_call_16 lk_X8_59 k_mX6_secondsBetween s_10 rfl rfl (c_X6_secondsBetween sS_10) (Nat.le_of_ble_eq_true rfl) (by decide) (Nat.zero_le _) (Nat.zero_le _) rfl ?_
  refine AW.iadd (n := 20) dX8_call_19 rfl ?_
  refine AW.pi (n := 23) dX8_call_20 fp_X8_35 s_23 rfl ⟨rfl, rfl⟩ rfl ?_
  refine AW.aload_n (n := 24) dX8_call_23 rfl rfl ?_
  refine AW.aload_n (n := 25) dX8_call_24 rfl rfl ?_
  refine AW.gr (n := 28) dX8_call_25 fl_X8_80 s_10 rfl rfl ?_
  refine AW.iload_n (n := 29) dX8_call_28 rfl rfl ?_
  refine AW.ia (n := 30) j dX8_call_29 s_11 rfl (by omega) (by decide) rfl ?_
  refine AW.pi (n := 33) dX8_call_30 fp_X8_38 s_23 rfl ⟨rfl, rfl⟩ rfl ?_
  refine AW.aload_n (n := 34) dX8_call_33 rfl rfl ?_
  refine AW.gr (n := 37) dX8_call_34 fl_X8_18 s_23 rfl rfl ?_
  refine AW.iload_n (n := 38) dX8_call_37 rfl rfl ?_
  refine AW.aload_n (n := 39) dX8_call_38 rfl rfl ?_
  refine AW.gi (n := 42) dX8_call_39 fl_X8_35 s_23 rfl rfl ?_
  refine AW.is (n := 43) j dX8_call_42 s_27 rfl (by omega) (by decide) rfl ?_
  change AW _ _ _ _ _ _ _ _ _ _ (wS (sCallM μ j) e) _
  unfold sCall
  generalize sCallM μ j = ν at hoM ⊢
  refine AW.aload_n (n := 44) dX8_call_43 rfl rfl ?_
  refine AW.gr (n := 47) dX8_call_44 fl_X8_12 s_23 rfl rfl ?_
  refine AW.iload_n (n := 48) dX8_call_47 rfl rfl ?_
  refine AW.ev1i (Mc := mX1_counts) (n := 51) dX8_call_48 lk_X8_82 k_mX1_counts s_24 rfl rfl (c_X1_counts (a := 24) sD_24 (by omega)) (Nat.le_of_ble_eq_true rfl) (by decide) (Nat.zero_le _) (Nat.zero_le _) rfl ?_
  refine AW.bif_ne (n := 54) (t := 55) dX8_call_51 rfl rfl (fun h51 => ?_) (fun h51 => ?_)
  · refine AW.aload_n (n := 56) dX8_call_55 rfl rfl ?_
    refine AW.dup (n := 57) dX8_call_56 rfl rfl ?_
    refine AW.gi (n := 60) dX8_call_57 fl_X8_32 s_23 rfl rfl ?_
    refine AW.iconst (n := 61) (v := 1) dX8_call_60 rfl rfl ?_
    refine AW.iadd (n := 62) dX8_call_61 rfl ?_
    refine AW.pi (n := 65) dX8_call_62 fp_X8_32 s_23 rfl ⟨rfl, rfl⟩ rfl ?_
    refine AW.aload_n (n := 66) dX8_call_65 rfl rfl ?_
    refine AW.gi (n := 69) dX8_call_66 fl_X8_32 s_23 rfl rfl ?_
    refine AW.iload_n (n := 70) dX8_call_69 rfl rfl ?_
    refine AW.es2i (Mc := mX9_ringsAt) (n := 73) dX8_call_70 lk_X8_85 k_mX9_ringsAt (c_X9_ringsAt) (Nat.le_of_ble_eq_true rfl) (by decide) (Nat.zero_le _) (Nat.zero_le _) rfl ?_
    refine AW.ist4 (n := 75) dX8_call_73 (Nat.le_of_ble_eq_true rfl) rfl rfl ?_
    refine AW.aload_n (n := 76) dX8_call_75 rfl rfl ?_
    refine AW.iload_n (n := 77) dX8_call_76 rfl rfl ?_
    refine AW.aload_n (n := 78) dX8_call_77 rfl rfl ?_
    refine AW.gi (n := 81) dX8_call_78 fl_X8_35 s_23 rfl rfl ?_
    refine AW.iload (n := 83) dX8_call_81 rfl rfl ?_
    refine AW.aload_n (n := 84) dX8_call_83 rfl rfl ?_
    refine AW.gr (n := 87) dX8_call_84 fl_X8_12 s_23 rfl rfl ?_
    refine AW.gr (n := 90) dX8_call_87 fl_X8_89 s_24 rfl rfl ?_
    refine AW.iload_n (n := 91) dX8_call_90 rfl rfl ?_
    refine AW.ia (n := 92) j dX8_call_91 s_26 rfl (by omega) (by decide) rfl ?_
    refine AW.ev4i (Mc := mX6_meets) (n := 95) dX8_call_92 lk_X8_92 k_mX6_meets s_10 rfl rfl (c_X6_meets sS_10 (hoM.of (mu_ne (by decide)))) (Nat.le_of_ble_eq_true rfl) (by decide) (Nat.zero_le _) (Nat.zero_le _) rfl ?_
    refine AW.ist5 (n := 97) dX8_call_95 (Nat.le_of_ble_eq_true rfl) rfl rfl ?_
    refine AW.aload_n (n := 98) dX8_call_97 rfl rfl ?_
    refine AW.dup (n := 99) dX8_call_98 rfl rfl ?_
    refine AW.gi (n := 102) dX8_call_99 fl_X8_35 s_23 rfl rfl ?_
    refine AW.aload_n (n := 103) dX8_call_102 rfl rfl ?_
    refine AW.iload (n := 105) dX8_call_103 rfl rfl ?_
    refine AW.iload (n := 107) dX8_call_105 rfl rfl ?_
    refine AW.ev2i (Mc := mX6_secondsAtDoor) (n := 110) dX8_call_107 lk_X8_96 k_mX6_secondsAtDoor s_10 rfl rfl (c_X6_secondsAtDoor sS_10) (Nat.le_of_ble_eq_true rfl) (by decide) (Nat.zero_le _) (Nat.zero_le _) rfl ?_
    refine AW.iadd (n := 111) dX8_call_110 rfl ?_
    refine AW.pi (n := 114) dX8_call_111 fp_X8_35 s_23 rfl ⟨rfl, rfl⟩ rfl ?_
    refine AW.aload_n (n := 115) dX8_call_114 rfl rfl ?_
    refine AW.gr (n := 118) dX8_call_115 fl_X8_12 s_23 rfl rfl ?_
    refine AW.gr (n := 121) dX8_call_118 fl_X8_100 s_24 rfl rfl ?_
    refine AW.iload_n (n := 122) dX8_call_121 rfl rfl ?_
    refine AW.iload (n := 124) dX8_call_122 rfl rfl ?_
    refine AW.is (n := 125) j dX8_call_124 s_25 rfl (by omega) (by decide) rfl ?_
    refine AW.iload (n := 127) dX8_call_125 rfl rfl ?_
    refine AW.iconst (n := 128) (v := 2) dX8_call_127 rfl rfl ?_
    refine AW.icmp_ne (n := 131) (t := 144) dX8_call_128 rfl rfl (fun h128 => ?_) (fun h128 => ?_)
    · refine AW.iload (n := 146) dX8_call_144 rfl rfl ?_
      refine AW.iconst (n := 147) (v := 3) dX8_call_146 rfl rfl ?_
      refine AW.icmp_ne (n := 150) (t := 166) dX8_call_147 rfl rfl (fun h147 => ?_) (fun h147 => ?_)
      · refine AW.aload_n (n := 167) dX8_call_166 rfl rfl ?_
        refine AW.dup (n := 168) dX8_call_167 rfl rfl ?_
        refine AW.gi (n := 171) dX8_call_168 fl_X8_29 s_23 rfl rfl ?_
        refine AW.iconst (n := 172) (v := 1) dX8_call_171 rfl rfl ?_
        refine AW.iload_n (n := 173) dX8_call_172 rfl rfl ?_
        refine AW.ishl (n := 174) dX8_call_173 rfl ?_
        refine AW.ior (n := 175) dX8_call_174 rfl ?_
        refine AW.pi (n := 178) dX8_call_175 fp_X8_29 s_23 rfl ⟨rfl, rfl⟩ rfl ?_
        refine AW.ret dX8_call_178 rfl (Nat.zero_le _) (Nat.zero_le _) ?_
        rw [if_pos h51]
        exact ⟨rfl, by rw [sCallB, sCallD, if_neg h128, if_neg h147]⟩
      · refine AW.aload_n (n := 151) dX8_call_150 rfl rfl ?_
        refine AW.gr (n := 154) dX8_call_151 fl_X8_12 s_23 rfl rfl ?_
        refine AW.gr (n := 157) dX8_call_154 fl_X8_89 s_24 rfl rfl ?_
        refine AW.iload_n (n := 158) dX8_call_157 rfl rfl ?_
        refine AW.dup2 (n := 159) dX8_call_158 rfl rfl rfl ?_
        refine AW.ia (n := 160) j dX8_call_159 s_26 rfl (by omega) (by decide) rfl ?_
        refine AW.iconst (n := 161) (v := 1) dX8_call_160 rfl rfl ?_
        refine AW.iadd (n := 162) dX8_call_161 rfl ?_
        refine AW.is (n := 163) j dX8_call_162 s_26 rfl (by omega) (by decide) rfl ?_
        refine AW.goto (t := 178) dX8_call_163 rfl ?_
        refine AW.ret dX8_call_178 rfl (Nat.zero_le _) (Nat.zero_le _) ?_
        rw [if_pos h51]
        exact ⟨rfl, by rw [sCallB, sCallD, if_neg h128, if_pos h147]⟩
    · refine AW.aload_n (n := 132) dX8_call_131 rfl rfl ?_
      refine AW.dup (n := 133) dX8_call_132 rfl rfl ?_
      refine AW.gi (n := 136) dX8_call_133 fl_X8_26 s_23 rfl rfl ?_
      refine AW.iconst (n := 137) (v := 1) dX8_call_136 rfl rfl ?_
      refine AW.iadd (n := 138) dX8_call_137 rfl ?_
      refine AW.pi (n := 141) dX8_call_138 fp_X8_26 s_23 rfl ⟨rfl, rfl⟩ rfl ?_
      refine AW.goto (t := 178) dX8_call_141 rfl ?_
      refine AW.ret dX8_call_178 rfl (Nat.zero_le _) (Nat.zero_le _) ?_
      rw [if_pos h51]
      exact ⟨rfl, by rw [sCallB, sCallD, if_pos h128]⟩
  · refine AW.ret dX8_call_54 rfl (Nat.zero_le _) (Nat.zero_le _) ?_
    exact ⟨rfl, by rw [if_neg (by rw [h51]; decide)]⟩
set_option maxHeartbeats 4000000 in
set_option maxRecDepth 100000 in
theorem l_X8_run {e : Nat × (Nat → aC)} {n dn d : Nat} {way ha : Int32} : ∀ (i : Nat) (μ : Me) (L6 : Option Value), i ≤ 9 → sOk μ 10 n dn → AW none 4 0 0 mX8_run 0 0 11 [some (.ref 23), some (.ref 10), some (.int way), some (.ref d), some (.int ha), some (.int (nI (10 ^ i))), L6] [] (wS μ e) (a_eq none (wS (sRunT (sRL way ha (i + 1) μ)) e)) := by
  have tail : ∀ (μ : Me) (L6 : Option Value), AW none 4 0 0 mX8_run 0 0 11 [some (.ref 23), some (.ref 10), some (.int way), some (.ref d), some (.int ha), some (.int 0), L6] [] (wS μ e) (a_eq none (wS (sRunT μ) e)) := by
    intro μ L6
    refine AW.iload (n := 13) dX8_run_11 rfl rfl ?_
    refine AW.if_le (n := 16) (t := 55) dX8_run_13 rfl rfl (fun h13 => ?_) (fun h13 => ?_)
    · refine AW.aload_n (n := 56) dX8_run_55 rfl rfl ?_
      refine AW.aload_n (n := 57) dX8_run_56 rfl rfl ?_
      refine AW.gi (n := 60) dX8_run_57 fl_X8_35 s_23 rfl rfl ?_
      refine AW.aload_n (n := 61) dX8_run_60 rfl rfl ?_
      refine AW.aload_n (n := 62) dX8_run_61 rfl rfl ?_
      refine AW.gi (n := 65) dX8_run_62 fl_X8_38 s_23 rfl rfl ?_
      refine AW.iconst (n := 66) (v := 0) dX8_run_65 rfl rfl ?_
      refine AW.ev2i (Mc := mX6_secondsBetween) (n := 69) dX8_run_66 lk_X8_59 k_mX6_secondsBetween s_10 rfl rfl (c_X6_secondsBetween sS_10) (Nat.le_of_ble_eq_true rfl) (by decide) (Nat.zero_le _) (Nat.zero_le _) rfl ?_
      refine AW.iadd (n := 70) dX8_run_69 rfl ?_
      refine AW.pi (n := 73) dX8_run_70 fp_X8_22 s_23 rfl ⟨rfl, rfl⟩ rfl ?_
      refine AW.aload_n (n := 74) dX8_run_73 rfl rfl ?_
      refine AW.gr (n := 77) dX8_run_74 fl_X8_12 s_23 rfl rfl ?_
      refine AW.dup (n := 78) dX8_run_77 rfl rfl ?_
      refine AW.gi (n := 81) dX8_run_78 fl_X8_63 s_24 rfl rfl ?_
      refine AW.iconst (n := 82) (v := 1) dX8_run_81 rfl rfl ?_
      refine AW.iadd (n := 83) dX8_run_82 rfl ?_
      refine AW.pi (n := 86) dX8_run_83 fp_X8_63 s_24 rfl ⟨rfl, rfl⟩ rfl ?_
      refine AW.aload_n (n := 87) dX8_run_86 rfl rfl ?_
      refine AW.gr (n := 90) dX8_run_87 fl_X8_12 s_23 rfl rfl ?_
      refine AW.dup (n := 91) dX8_run_90 rfl rfl ?_
      refine AW.gi (n := 94) dX8_run_91 fl_X8_66 s_24 rfl rfl ?_
      refine AW.aload_n (n := 95) dX8_run_94 rfl rfl ?_
      refine AW.gi (n := 98) dX8_run_95 fl_X8_22 s_23 rfl rfl ?_
      refine AW.iadd (n := 99) dX8_run_98 rfl ?_
      refine AW.pi (n := 102) dX8_run_99 fp_X8_66 s_24 rfl ⟨rfl, rfl⟩ rfl ?_
      refine AW.aload_n (n := 103) dX8_run_102 rfl rfl ?_
      refine AW.gr (n := 106) dX8_run_103 fl_X8_12 s_23 rfl rfl ?_
      refine AW.dup (n := 107) dX8_run_106 rfl rfl ?_
      refine AW.gi (n := 110) dX8_run_107 fl_X8_69 s_24 rfl rfl ?_
      refine AW.aload_n (n := 111) dX8_run_110 rfl rfl ?_
      refine AW.gi (n := 114) dX8_run_111 fl_X8_29 s_23 rfl rfl ?_
      refine AW.es1i (Mc := mJ6_bitCount_0f7a4) (n := 117) dX8_run_114 lk_X8_72 k_mJ6_bitCount_0f7a4 (c_J6_bitCount_0f7a4) (Nat.le_of_ble_eq_true rfl) (by decide) (Nat.zero_le _) (Nat.zero_le _) rfl ?_
      refine AW.iadd (n := 118) dX8_run_117 rfl ?_
      refine AW.pi (n := 121) dX8_run_118 fp_X8_69 s_24 rfl ⟨rfl, rfl⟩ rfl ?_
      refine AW.ret dX8_run_121 rfl (Nat.zero_le _) (Nat.zero_le _) ?_
      exact ⟨rfl, rfl⟩
    · exact absurd (by decide) h13
  intro i
  induction i with
  | zero =>
    intro μ L6 hi ho
    refine AW.iload (n := 13) dX8_run_11 rfl rfl ?_
    refine AW.if_le (n := 16) (t := 55) dX8_run_13 rfl rfl (fun h13 => ?_) (fun h13 => ?_)
    · exact absurd h13 (Int32.not_le.mpr (nI_lt (a := 0) (p10_lt (by omega)).2 (p10_lt (by omega)).1))
    · refine AW.iload_n (n := 17) dX8_run_16 rfl rfl ?_
      refine AW.iload (n := 19) dX8_run_17 rfl rfl ?_
      refine AW.idiv (n := 20) dX8_run_19 (p10_ne (by omega)) rfl ?_
      refine AW.bipush (n := 22) (v := 10) dX8_run_20 rfl rfl ?_
      refine AW.irem (n := 23) dX8_run_22 (by decide) rfl ?_
      refine AW.iconst (n := 24) (v := 1) dX8_run_23 rfl rfl ?_
      refine AW.isub (n := 25) dX8_run_24 rfl ?_
      refine AW.ist6 (n := 27) dX8_run_25 (Nat.le_of_ble_eq_true rfl) rfl rfl ?_
      refine AW.aload_n (n := 28) dX8_run_27 rfl rfl ?_
      refine AW.iload (n := 30) dX8_run_28 rfl rfl ?_
      refine AW.ev1i (Mc := mX6_has) (n := 33) dX8_run_30 lk_X8_49 k_mX6_has s_10 rfl rfl (c_X6_has sS_10) (Nat.le_of_ble_eq_true rfl) (by decide) (Nat.zero_le _) (Nat.zero_le _) rfl ?_
      refine AW.bif_eq (n := 36) (t := 45) dX8_run_33 rfl rfl (fun h33 => ?_) (fun h33 => ?_)
      · refine AW.iload (n := 47) dX8_run_45 rfl rfl ?_
        refine AW.bipush (n := 49) (v := 10) dX8_run_47 rfl rfl ?_
        refine AW.idiv (n := 50) dX8_run_49 (by decide) rfl ?_
        refine AW.ist5 (n := 52) dX8_run_50 (Nat.le_of_ble_eq_true rfl) rfl rfl ?_
        refine AW.goto (t := 11) dX8_run_52 rfl ?_
        rw [show (nI (10 ^ 0) : Int32) / 10 = 0 from by decide]
        have e9 : sRL way ha (0 + 1) μ = μ := by rw [sRL, sRL]; exact if_neg (by unfold sFig; rw [h33]; decide)
        rw [e9]
        exact tail _ _
      · obtain ⟨j, hj, hjj⟩ := sHas_j ho.1 ho.2.1 h33
        have h7 := ho.2.1
        have hjc := cl_nI (show j < 2147483648 by omega)
        rw [hjj]
        refine AW.aload_n (n := 37) dX8_run_36 rfl rfl ?_
        refine AW.aload_n (n := 38) dX8_run_37 rfl rfl ?_
        refine AW.iload (n := 40) dX8_run_38 rfl rfl ?_
        refine AW.iload (n := 42) dX8_run_40 rfl rfl ?_
        refine AW.ev3v (Mc := mX8_call) (n := 45) dX8_run_42 lk_X8_55 k_mX8_call s_23 rfl rfl (c_X8_call ho hj) (Nat.le_of_ble_eq_true rfl) (by decide) (Nat.zero_le _) (Nat.zero_le _) rfl ?_
        refine AW.iload (n := 47) dX8_run_45 rfl rfl ?_
        refine AW.bipush (n := 49) (v := 10) dX8_run_47 rfl rfl ?_
        refine AW.idiv (n := 50) dX8_run_49 (by decide) rfl ?_
        refine AW.ist5 (n := 52) dX8_run_50 (Nat.le_of_ble_eq_true rfl) rfl rfl ?_
        refine AW.goto (t := 11) dX8_run_52 rfl ?_
        rw [show (nI (10 ^ 0) : Int32) / 10 = 0 from by decide]
        have e9 : sRL way ha (0 + 1) μ = sCall μ j ha := by rw [sRL, sRL]; rw [if_pos (by unfold sFig; exact h33), show sFig way 0 = nI j from hjj, hjc]
        rw [e9]
        exact tail _ _
  | succ i ih =>
    intro μ L6 hi ho
    refine AW.iload (n := 13) dX8_run_11 rfl rfl ?_
    refine AW.if_le (n := 16) (t := 55) dX8_run_13 rfl rfl (fun h13 => ?_) (fun h13 => ?_)
    · exact absurd h13 (Int32.not_le.mpr (nI_lt (a := 0) (p10_lt (by omega)).2 (p10_lt (by omega)).1))
    · refine AW.iload_n (n := 17) dX8_run_16 rfl rfl ?_
      refine AW.iload (n := 19) dX8_run_17 rfl rfl ?_
      refine AW.idiv (n := 20) dX8_run_19 (p10_ne (by omega)) rfl ?_
      refine AW.bipush (n := 22) (v := 10) dX8_run_20 rfl rfl ?_
      refine AW.irem (n := 23) dX8_run_22 (by decide) rfl ?_
      refine AW.iconst (n := 24) (v := 1) dX8_run_23 rfl rfl ?_
      refine AW.isub (n := 25) dX8_run_24 rfl ?_
      refine AW.ist6 (n := 27) dX8_run_25 (Nat.le_of_ble_eq_true rfl) rfl rfl ?_
      refine AW.aload_n (n := 28) dX8_run_27 rfl rfl ?_
      refine AW.iload (n := 30) dX8_run_28 rfl rfl ?_
      refine AW.ev1i (Mc := mX6_has) (n := 33) dX8_run_30 lk_X8_49 k_mX6_has s_10 rfl rfl (c_X6_has sS_10) (Nat.le_of_ble_eq_true rfl) (by decide) (Nat.zero_le _) (Nat.zero_le _) rfl ?_
      refine AW.bif_eq (n := 36) (t := 45) dX8_run_33 rfl rfl (fun h33 => ?_) (fun h33 => ?_)
      · refine AW.iload (n := 47) dX8_run_45 rfl rfl ?_
        refine AW.bipush (n := 49) (v := 10) dX8_run_47 rfl rfl ?_
        refine AW.idiv (n := 50) dX8_run_49 (by decide) rfl ?_
        refine AW.ist5 (n := 52) dX8_run_50 (Nat.le_of_ble_eq_true rfl) rfl rfl ?_
        refine AW.goto (t := 11) dX8_run_52 rfl ?_
        rw [show (nI (10 ^ (i + 1)) : Int32) / 10 = nI (10 ^ i) from by rw [show (10 : Int32) = nI 10 from rfl, pk_div (p10_lt (by omega)).1 (by decide) (by decide), Nat.pow_succ, Nat.mul_div_cancel _ (by decide)]]
        have e9 : sRL way ha (i + 1 + 1) μ = sRL way ha (i + 1) μ := by rw [sRL]; rw [if_neg (by unfold sFig; rw [h33]; decide)]
        rw [e9]
        exact ih _ _ (by omega) ho
      · obtain ⟨j, hj, hjj⟩ := sHas_j ho.1 ho.2.1 h33
        have h7 := ho.2.1
        have hjc := cl_nI (show j < 2147483648 by omega)
        rw [hjj]
        refine AW.aload_n (n := 37) dX8_run_36 rfl rfl ?_
        refine AW.aload_n (n := 38) dX8_run_37 rfl rfl ?_
        refine AW.iload (n := 40) dX8_run_38 rfl rfl ?_
        refine AW.iload (n := 42) dX8_run_40 rfl rfl ?_
        refine AW.ev3v (Mc := mX8_call) (n := 45) dX8_run_42 lk_X8_55 k_mX8_call s_23 rfl rfl (c_X8_call ho hj) (Nat.le_of_ble_eq_true rfl) (by decide) (Nat.zero_le _) (Nat.zero_le _) rfl ?_
        refine AW.iload (n := 47) dX8_run_45 rfl rfl ?_
        refine AW.bipush (n := 49) (v := 10) dX8_run_47 rfl rfl ?_
        refine AW.idiv (n := 50) dX8_run_49 (by decide) rfl ?_
        refine AW.ist5 (n := 52) dX8_run_50 (Nat.le_of_ble_eq_true rfl) rfl rfl ?_
        refine AW.goto (t := 11) dX8_run_52 rfl ?_
        rw [show (nI (10 ^ (i + 1)) : Int32) / 10 = nI (10 ^ i) from by rw [show (10 : Int32) = nI 10 from rfl, pk_div (p10_lt (by omega)).1 (by decide) (by decide), Nat.pow_succ, Nat.mul_div_cancel _ (by decide)]]
        have e9 : sRL way ha (i + 1 + 1) μ = sRL way ha (i + 1) (sCall μ j ha) := by rw [sRL]; rw [if_pos (by unfold sFig; exact h33), show sFig way (i + 1) = nI j from hjj, hjc]
        rw [e9]
        exact ih _ _ (by omega) (ho.of (sCall_ne (by decide) (by decide) (by decide) (by decide)))
set_option maxHeartbeats 4000000 in
set_option maxRecDepth 100000 in
theorem c_X8_run {μ : Me} {e : Nat × (Nat → aC)} {n dn d : Nat} {way ha : Int32} (hd : sD d) (ho : sOk μ 10 n dn) : AC 4 0 0 mX8_run [.ref 23, .ref 10, .int way, .ref d, .int ha] (wS μ e) (a_eq none (wS (sRun μ way d ha) e)) := by
  refine AC.of (L := [some (.ref 23), some (.ref 10), some (.int way), some (.ref d), some (.int ha), none, none]) (j := 2) (by decide) rfl (Nat.le_of_ble_eq_true rfl) ?_
  refine AW.aload_n (n := 1) dX8_run_0 rfl rfl ?_
  refine AW.aload_n (n := 2) dX8_run_1 rfl rfl ?_
  refine AW.ev1v (Mc := mX8_begin) (n := 5) dX8_run_2 lk_X8_41 k_mX8_begin s_23 rfl rfl (c_X8_begin hd) (Nat.le_of_ble_eq_true rfl) (by decide) (Nat.zero_le _) (Nat.zero_le _) rfl ?_
  refine AW.iload_n (n := 6) dX8_run_5 rfl rfl ?_
  refine AW.es1i (Mc := mX8_firstUnit) (n := 9) dX8_run_6 lk_X8_45 k_mX8_firstUnit (c_X8_firstUnit) (Nat.le_of_ble_eq_true rfl) (by decide) (Nat.zero_le _) (Nat.zero_le _) rfl ?_
  refine AW.ist5 (n := 11) dX8_run_9 (Nat.le_of_ble_eq_true rfl) rfl rfl ?_
  exact l_X8_run (sFE way 9 0) _ _ (sFE_le way 9 0) (ho.of (sTBeg_ne (by decide) (by decide) (by decide) (by decide) (by decide)))
