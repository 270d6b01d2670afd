def sPush (μ : Me) (x y d : Nat) : Me := mu (mu (sCopy μ (30 + 3 * x) d) 28 1 (nI ((x + 1) % 30))) 28 2 (nI (if y + 1 ≤ 30 then y + 1 else 30))
def sPop (μ : Me) (x y n d : Nat) : Me := sCopy (mu (mu μ 28 1 (nI ((x + 30 - n) % 30))) 28 2 (nI (y - n))) d (30 + 3 * ((x + 30 - n) % 30))
def sSBegin (μ : Me) (a : Nat) : Me := mu (mu (mu (mu (mu μ a 0 0) a 1 0) a 2 0) a 3 0) a 4 0
def sSCopy (μ : Me) (a b : Nat) : Me :=
  let m0 := mu μ a 0 (μ b 0)
  let m1 := mu m0 a 1 (m0 b 1)
  let m2 := mu m1 a 2 (m1 b 2)
  let m3 := mu m2 a 3 (m2 b 3)
  let m4 := mu m3 a 4 (m3 b 4)
  let m5 := mr m4 (a + 1) (va_cpy (m4 (b + 1)) (m4 (a + 1)) 0 0 7)
  let m6 := mr m5 (a + 2) (va_cpy (m5 (b + 2)) (m5 (a + 2)) 0 0 7)
  let m7 := mr m6 (a + 3) (va_cpy (m6 (b + 3)) (m6 (a + 3)) 0 0 7)
  let m8 := mr m7 (a + 4) (va_cpy (m7 (b + 4)) (m7 (a + 4)) 0 0 7)
  let m9 := mr m8 (a + 5) (va_cpy (m8 (b + 5)) (m8 (a + 5)) 0 0 7)
  mr m9 (a + 6) (va_cpy (m9 (b + 6)) (m9 (a + 6)) 0 0 12)
def sAddStop (μ : Me) (a n : Nat) (x i b : Int32) : Me := if n < 7 then mu (mu (mu (mu (mu (mu μ (a + 1) n x) (a + 2) n i) (a + 3) n b) (a + 4) n (-1)) (a + 5) n 0) a 3 (nI (n + 1)) else μ
def sAddDin (μ : Me) (a dn : Nat) (x : Int32) : Me := if dn < 12 then mu (mu μ (a + 6) dn x) a 4 (nI (dn + 1)) else μ
def sRise : Nat → Int32
  | 0 => 0
  | i + 1 => sRise i * 10 + nI i + 1
def sNear (f : Nat → Int32) (set y d : Int32) : Nat → Int32
  | 0 => 0
  | i + 1 => if sBit set (nI i) then (if d < sAbs (f i - y) then sNear f set y d i else sNear f set y d i + 1) else sNear f set y d i
/-- whether the figures of a way are stops, none twice: from the rest on, with those used -/
def sWay (n : Int32) : Nat → Int32 → Int32 → Bool
  | 0, _, used => !decide (used = 0)
  | m + 1, rest, used => if rest ≤ 0 then !decide (used = 0) else
      let s := rest - rest / 10 * 10 - 1
      if sHas n s then (if sBit used s then false else sWay n m (rest / 10) (used ||| ((1 : Int32) <<< (s &&& 31)))) else false
theorem win_nI {a n b : Nat} (h1 : a ≤ n) (h2 : n ≤ b) (hb : b < 2147483648) : sWithin (nI n) (nI a) (nI b) = true := by
  have q1 := Int32.not_lt.mpr (nI_le h1 (by omega : n < 2 ^ 31))
  have q2 := Int32.not_lt.mpr (nI_le h2 hb)
  simp [sWithin, q1, q2]
theorem mod30 {x : Nat} (h : x < 1000) : (nI x : Int32) - nI x / 30 * 30 = nI (x % 30) := pk_rem (d := 30) (by omega) (by decide) (by decide)
theorem min30 {y : Nat} (h : y ≤ 30) : (if (30 : Int32) < nI (y + 1) then (30 : Int32) else nI (y + 1)) = nI (if y + 1 ≤ 30 then y + 1 else 30) := by
  by_cases q : y + 1 ≤ 30
  · rw [if_pos q, if_neg]
    exact fun z => absurd ((nI_ltI (a := 30) (by omega) (by omega)).mp z) (by omega)
  · rw [if_neg q, if_pos]
    · rfl
    · exact (nI_ltI (a := 30) (b := y + 1) (by omega) (by omega)).mpr (by omega)
theorem sCopy_28 {μ : Me} {a b j : Nat} (h1 : a ≠ 28) (h2 : a ≠ 27) (h3 : a ≠ 26) : sCopy μ a b 28 j = μ 28 j := by
  simp only [sCopy, mu_at, mr_at]
  rw [if_neg (by omega), if_neg (by omega), if_neg (by omega), if_neg (by omega), if_neg (by omega)]
set_option maxHeartbeats 4000000 in
set_option maxRecDepth 100000 in
theorem c_X3_push {μ : Me} {e : Nat × (Nat → aC)} {x y d : Nat} (hd : sD d) (hx : μ 28 1 = nI x) (hx9 : x < 30) (hy : μ 28 2 = nI y) (hy9 : y ≤ 30) : AC 2 0 0 mX3_push [.ref 28, .ref d] (wS μ e) (a_eq none (wS (sPush μ x y d) e)) := by
  refine AC.of (L := [some (.ref 28), some (.ref d)]) (j := 0) (by decide) rfl (Nat.le_of_ble_eq_true rfl) ?_
  refine AW.aload_n (n := 1) dX3_push_0 rfl rfl ?_
  refine AW.gr (n := 4) dX3_push_1 fl_X3_11 s_28 rfl rfl ?_
  refine AW.aload_n (n := 5) dX3_push_4 rfl rfl ?_
  refine AW.gi (n := 8) dX3_push_5 fl_X3_17 s_28 rfl rfl ?_
  refine AW.ra (n := 9) x dX3_push_8 (Or.inl rfl) s_29 hx hx9 (by decide) rfl rfl ?_
  refine AW.aload_n (n := 10) dX3_push_9 rfl rfl ?_
  refine AW.ev1v (Mc := mX1_copy) (n := 13) dX3_push_10 lk_X3_25 k_mX1_copy (sD_p hx9).1 rfl rfl (c_X1_copy (sD_p hx9) hd) (Nat.le_of_ble_eq_true rfl) (by decide) (Nat.zero_le _) (Nat.zero_le _) rfl ?_
  refine AW.aload_n (n := 14) dX3_push_13 rfl rfl ?_
  refine AW.aload_n (n := 15) dX3_push_14 rfl rfl ?_
  refine AW.gi (n := 18) dX3_push_15 fl_X3_17 s_28 rfl rfl ?_
  refine AW.iconst (n := 19) (v := 1) dX3_push_18 rfl rfl ?_
  refine AW.iadd (n := 20) dX3_push_19 rfl ?_
  refine AW.bipush (n := 22) (v := 30) dX3_push_20 rfl rfl ?_
  refine AW.irem (n := 23) dX3_push_22 (by decide) rfl ?_
  refine AW.pi (n := 26) dX3_push_23 fp_X3_17 s_28 rfl ⟨rfl, rfl⟩ rfl ?_
  refine AW.aload_n (n := 27) dX3_push_26 rfl rfl ?_
  refine AW.aload_n (n := 28) dX3_push_27 rfl rfl ?_
  refine AW.gi (n := 31) dX3_push_28 fl_X3_21 s_28 rfl rfl ?_
  refine AW.iconst (n := 32) (v := 1) dX3_push_31 rfl rfl ?_
  refine AW.iadd (n := 33) dX3_push_32 rfl ?_
  refine AW.bipush (n := 35) (v := 30) dX3_push_33 rfl rfl ?_
  refine AW.mmin (n := 38) dX3_push_35 lj_X3_29 jm_min_s jm_i jm_min_c (Nat.le_of_ble_eq_true rfl) (by decide) (Nat.zero_le _) (Nat.zero_le _) rfl ?_
  refine AW.pi (n := 41) dX3_push_38 fp_X3_21 s_28 rfl ⟨rfl, rfl⟩ rfl ?_
  refine AW.ret dX3_push_41 rfl (Nat.zero_le _) (Nat.zero_le _) ?_
  have e1 : sCopy μ (30 + 3 * x) d 28 1 = nI x := by rw [sCopy_28 (by omega) (by omega) (by omega)]; exact hx
  have e2 : sCopy μ (30 + 3 * x) d 28 2 = nI y := by rw [sCopy_28 (by omega) (by omega) (by omega)]; exact hy
  refine ⟨rfl, ?_⟩
  have m1 := mod30 (x := x + 1) (by omega)
  have m2 := min30 hy9
  simp only [sPush, mu_at, e1, e2, nI_1, m1]
  simp [e2, nI_1, m2]
set_option maxHeartbeats 4000000 in
set_option maxRecDepth 100000 in
theorem c_X3_pop {μ : Me} {e : Nat × (Nat → aC)} {x y d n : Nat} (hd : sD d) (hx : μ 28 1 = nI x) (hx9 : x < 30) (hy : μ 28 2 = nI y) (hy9 : y ≤ 30) (hn1 : 1 ≤ n) (hny : n ≤ y) : AC 2 0 0 mX3_pop [.ref 28, .int (nI n), .ref d] (wS μ e) (a_eq none (wS (sPop μ x y n d) e)) := by
  refine AC.of (L := [some (.ref 28), some (.int (nI n)), some (.ref d)]) (j := 0) (by decide) rfl (Nat.le_of_ble_eq_true rfl) ?_
  refine AW.iload_n (n := 1) dX3_pop_0 rfl rfl ?_
  refine AW.iconst (n := 2) (v := 1) dX3_pop_1 rfl rfl ?_
  refine AW.aload_n (n := 3) dX3_pop_2 rfl rfl ?_
  refine AW.gi (n := 6) dX3_pop_3 fl_X3_21 s_28 rfl rfl ?_
  refine AW.es3i (Mc := mX9_within) (n := 9) dX3_pop_6 lk_X3_35 k_mX9_within (c_X9_within) (Nat.le_of_ble_eq_true rfl) (by decide) (Nat.zero_le _) (Nat.zero_le _) rfl ?_
  refine AW.bif_ne (n := 12) (t := 13) dX3_pop_9 rfl rfl (fun h9 => ?_) (fun h9 => ?_)
  · have e1 : μ 28 1 + 30 - nI n = nI (x + 30 - n) := by rw [hx]; show nI x + nI 30 - nI n = _; rw [nI_add, pk_sub (by omega)]
    have e2 : μ 28 2 - nI n = nI (y - n) := by rw [hy, pk_sub hny]
    refine AW.aload_n (n := 14) dX3_pop_13 rfl rfl ?_
    refine AW.aload_n (n := 15) dX3_pop_14 rfl rfl ?_
    refine AW.gi (n := 18) dX3_pop_15 fl_X3_17 s_28 rfl rfl ?_
    refine AW.bipush (n := 20) (v := 30) dX3_pop_18 rfl rfl ?_
    refine AW.iadd (n := 21) dX3_pop_20 rfl ?_
    refine AW.iload_n (n := 22) dX3_pop_21 rfl rfl ?_
    refine AW.isub (n := 23) dX3_pop_22 rfl ?_
    refine AW.bipush (n := 25) (v := 30) dX3_pop_23 rfl rfl ?_
    refine AW.irem (n := 26) dX3_pop_25 (by decide) rfl ?_
    rw [e1, mod30 (by omega)]
    refine AW.pi (n := 29) dX3_pop_26 fp_X3_17 s_28 rfl ⟨rfl, rfl⟩ rfl ?_
    refine AW.aload_n (n := 30) dX3_pop_29 rfl rfl ?_
    refine AW.dup (n := 31) dX3_pop_30 rfl rfl ?_
    refine AW.gi (n := 34) dX3_pop_31 fl_X3_21 s_28 rfl rfl ?_
    refine AW.iload_n (n := 35) dX3_pop_34 rfl rfl ?_
    refine AW.isub (n := 36) dX3_pop_35 rfl ?_
    rw [mu_nj (by decide), e2]
    refine AW.pi (n := 39) dX3_pop_36 fp_X3_21 s_28 rfl ⟨rfl, rfl⟩ rfl ?_
    refine AW.aload_n (n := 40) dX3_pop_39 rfl rfl ?_
    refine AW.aload_n (n := 41) dX3_pop_40 rfl rfl ?_
    refine AW.gr (n := 44) dX3_pop_41 fl_X3_11 s_28 rfl rfl ?_
    refine AW.aload_n (n := 45) dX3_pop_44 rfl rfl ?_
    refine AW.gi (n := 48) dX3_pop_45 fl_X3_17 s_28 rfl rfl ?_
    refine AW.ra (n := 49) ((x + 30 - n) % 30) dX3_pop_48 (Or.inl rfl) s_29 (by simp [mu_at]) (Nat.mod_lt _ (by decide)) (by decide) rfl rfl ?_
    refine AW.ev1v (Mc := mX1_copy) (n := 52) dX3_pop_49 lk_X3_25 k_mX1_copy hd.1 rfl rfl (c_X1_copy hd (sD_p (Nat.mod_lt _ (by decide)))) (Nat.le_of_ble_eq_true rfl) (by decide) (Nat.zero_le _) (Nat.zero_le _) rfl ?_
    refine AW.ret dX3_pop_52 rfl (Nat.zero_le _) (Nat.zero_le _) ?_
    exact ⟨rfl, rfl⟩
  · exact Bool.noConfusion (h9.symm.trans (show sWithin (nI n) 1 (μ 28 2) = true by rw [hy]; exact win_nI hn1 hny (by omega)))
set_option maxHeartbeats 4000000 in
set_option maxRecDepth 100000 in
theorem c_X6_begin {μ : Me} {e : Nat × (Nat → aC)} {a : Nat} (ha : sS a) : AC 0 0 0 mX6_begin [.ref a] (wS μ e) (a_eq none (wS (sSBegin μ a) e)) := by
  refine AC.of (L := [some (.ref a)]) (j := 0) (by decide) rfl (Nat.le_of_ble_eq_true rfl) ?_
  refine AW.aload_n (n := 1) dX6_begin_0 rfl rfl ?_
  refine AW.iconst (n := 2) (v := 0) dX6_begin_1 rfl rfl ?_
  refine AW.pi (n := 5) dX6_begin_2 fp_X6_9 ha.1 rfl ⟨rfl, rfl⟩ rfl ?_
  refine AW.aload_n (n := 6) dX6_begin_5 rfl rfl ?_
  refine AW.iconst (n := 7) (v := 0) dX6_begin_6 rfl rfl ?_
  refine AW.pi (n := 10) dX6_begin_7 fp_X6_15 ha.1 rfl ⟨rfl, rfl⟩ rfl ?_
  refine AW.aload_n (n := 11) dX6_begin_10 rfl rfl ?_
  refine AW.iconst (n := 12) (v := 0) dX6_begin_11 rfl rfl ?_
  refine AW.pi (n := 15) dX6_begin_12 fp_X6_18 ha.1 rfl ⟨rfl, rfl⟩ rfl ?_
  refine AW.aload_n (n := 16) dX6_begin_15 rfl rfl ?_
  refine AW.iconst (n := 17) (v := 0) dX6_begin_16 rfl rfl ?_
  refine AW.pi (n := 20) dX6_begin_17 fp_X6_21 ha.1 rfl ⟨rfl, rfl⟩ rfl ?_
  refine AW.aload_n (n := 21) dX6_begin_20 rfl rfl ?_
  refine AW.iconst (n := 22) (v := 0) dX6_begin_21 rfl rfl ?_
  refine AW.pi (n := 25) dX6_begin_22 fp_X6_24 ha.1 rfl ⟨rfl, rfl⟩ rfl ?_
  refine AW.ret dX6_begin_25 rfl (Nat.zero_le _) (Nat.zero_le _) ?_
  exact ⟨rfl, rfl⟩
set_option maxHeartbeats 4000000 in
set_option maxRecDepth 100000 in
theorem c_X6_copy {μ : Me} {e : Nat × (Nat → aC)} {a b : Nat} (ha : sS a) (hb : sS b) : AC 1 0 0 mX6_copy [.ref a, .ref b] (wS μ e) (a_eq none (wS (sSCopy μ a b) e)) := by
  refine AC.of (L := [some (.ref a), some (.ref b)]) (j := 0) (by decide) rfl (Nat.le_of_ble_eq_true rfl) ?_
  refine AW.aload_n (n := 1) dX6_copy_0 rfl rfl ?_
  refine AW.aload_n (n := 2) dX6_copy_1 rfl rfl ?_
  refine AW.gi (n := 5) dX6_copy_2 fl_X6_9 hb.1 rfl rfl ?_
  refine AW.pi (n := 8) dX6_copy_5 fp_X6_9 ha.1 rfl ⟨rfl, rfl⟩ rfl ?_
  refine AW.aload_n (n := 9) dX6_copy_8 rfl rfl ?_
  refine AW.aload_n (n := 10) dX6_copy_9 rfl rfl ?_
  refine AW.gi (n := 13) dX6_copy_10 fl_X6_15 hb.1 rfl rfl ?_
  refine AW.pi (n := 16) dX6_copy_13 fp_X6_15 ha.1 rfl ⟨rfl, rfl⟩ rfl ?_
  refine AW.aload_n (n := 17) dX6_copy_16 rfl rfl ?_
  refine AW.aload_n (n := 18) dX6_copy_17 rfl rfl ?_
  refine AW.gi (n := 21) dX6_copy_18 fl_X6_18 hb.1 rfl rfl ?_
  refine AW.pi (n := 24) dX6_copy_21 fp_X6_18 ha.1 rfl ⟨rfl, rfl⟩ rfl ?_
  refine AW.aload_n (n := 25) dX6_copy_24 rfl rfl ?_
  refine AW.aload_n (n := 26) dX6_copy_25 rfl rfl ?_
  refine AW.gi (n := 29) dX6_copy_26 fl_X6_21 hb.1 rfl rfl ?_
  refine AW.pi (n := 32) dX6_copy_29 fp_X6_21 ha.1 rfl ⟨rfl, rfl⟩ rfl ?_
  refine AW.aload_n (n := 33) dX6_copy_32 rfl rfl ?_
  refine AW.aload_n (n := 34) dX6_copy_33 rfl rfl ?_
  refine AW.gi (n := 37) dX6_copy_34 fl_X6_24 hb.1 rfl rfl ?_
  refine AW.pi (n := 40) dX6_copy_37 fp_X6_24 ha.1 rfl ⟨rfl, rfl⟩ rfl ?_
  refine AW.aload_n (n := 41) dX6_copy_40 rfl rfl ?_
  refine AW.gr (n := 44) dX6_copy_41 fl_X6_27 hb.1 rfl rfl ?_
  refine AW.iconst (n := 45) (v := 0) dX6_copy_44 rfl rfl ?_
  refine AW.aload_n (n := 46) dX6_copy_45 rfl rfl ?_
  refine AW.gr (n := 49) dX6_copy_46 fl_X6_27 ha.1 rfl rfl ?_
  refine AW.iconst (n := 50) (v := 0) dX6_copy_49 rfl rfl ?_
  refine AW.bipush (n := 52) (v := 7) dX6_copy_50 rfl rfl ?_
  refine AW.cp (n := 55) 7 dX6_copy_52 lj_X6_46 js_n js_s js_i hb.2.1 ha.2.1 rfl (by decide) (by decide) (by decide) (Nat.le_of_ble_eq_true rfl) (by decide) rfl ?_
  refine AW.aload_n (n := 56) dX6_copy_55 rfl rfl ?_
  refine AW.gr (n := 59) dX6_copy_56 fl_X6_31 hb.1 rfl rfl ?_
  refine AW.iconst (n := 60) (v := 0) dX6_copy_59 rfl rfl ?_
  refine AW.aload_n (n := 61) dX6_copy_60 rfl rfl ?_
  refine AW.gr (n := 64) dX6_copy_61 fl_X6_31 ha.1 rfl rfl ?_
  refine AW.iconst (n := 65) (v := 0) dX6_copy_64 rfl rfl ?_
  refine AW.bipush (n := 67) (v := 7) dX6_copy_65 rfl rfl ?_
  refine AW.cp (n := 70) 7 dX6_copy_67 lj_X6_46 js_n js_s js_i hb.2.2.1 ha.2.2.1 rfl (by decide) (by decide) (by decide) (Nat.le_of_ble_eq_true rfl) (by decide) rfl ?_
  refine AW.aload_n (n := 71) dX6_copy_70 rfl rfl ?_
  refine AW.gr (n := 74) dX6_copy_71 fl_X6_34 hb.1 rfl rfl ?_
  refine AW.iconst (n := 75) (v := 0) dX6_copy_74 rfl rfl ?_
  refine AW.aload_n (n := 76) dX6_copy_75 rfl rfl ?_
  refine AW.gr (n := 79) dX6_copy_76 fl_X6_34 ha.1 rfl rfl ?_
  refine AW.iconst (n := 80) (v := 0) dX6_copy_79 rfl rfl ?_
  refine AW.bipush (n := 82) (v := 7) dX6_copy_80 rfl rfl ?_
  refine AW.cp (n := 85) 7 dX6_copy_82 lj_X6_46 js_n js_s js_i hb.2.2.2.1 ha.2.2.2.1 rfl (by decide) (by decide) (by decide) (Nat.le_of_ble_eq_true rfl) (by decide) rfl ?_
  refine AW.aload_n (n := 86) dX6_copy_85 rfl rfl ?_
  refine AW.gr (n := 89) dX6_copy_86 fl_X6_37 hb.1 rfl rfl ?_
  refine AW.iconst (n := 90) (v := 0) dX6_copy_89 rfl rfl ?_
  refine AW.aload_n (n := 91) dX6_copy_90 rfl rfl ?_
  refine AW.gr (n := 94) dX6_copy_91 fl_X6_37 ha.1 rfl rfl ?_
  refine AW.iconst (n := 95) (v := 0) dX6_copy_94 rfl rfl ?_
  refine AW.bipush (n := 97) (v := 7) dX6_copy_95 rfl rfl ?_
  refine AW.cp (n := 100) 7 dX6_copy_97 lj_X6_46 js_n js_s js_i hb.2.2.2.2.1 ha.2.2.2.2.1 rfl (by decide) (by decide) (by decide) (Nat.le_of_ble_eq_true rfl) (by decide) rfl ?_
  refine AW.aload_n (n := 101) dX6_copy_100 rfl rfl ?_
  refine AW.gr (n := 104) dX6_copy_101 fl_X6_40 hb.1 rfl rfl ?_
  refine AW.iconst (n := 105) (v := 0) dX6_copy_104 rfl rfl ?_
  refine AW.aload_n (n := 106) dX6_copy_105 rfl rfl ?_
  refine AW.gr (n := 109) dX6_copy_106 fl_X6_40 ha.1 rfl rfl ?_
  refine AW.iconst (n := 110) (v := 0) dX6_copy_109 rfl rfl ?_
  refine AW.bipush (n := 112) (v := 7) dX6_copy_110 rfl rfl ?_
  refine AW.cp (n := 115) 7 dX6_copy_112 lj_X6_46 js_n js_s js_i hb.2.2.2.2.2.1 ha.2.2.2.2.2.1 rfl (by decide) (by decide) (by decide) (Nat.le_of_ble_eq_true rfl) (by decide) rfl ?_
  refine AW.aload_n (n := 116) dX6_copy_115 rfl rfl ?_
  refine AW.gr (n := 119) dX6_copy_116 fl_X6_43 hb.1 rfl rfl ?_
  refine AW.iconst (n := 120) (v := 0) dX6_copy_119 rfl rfl ?_
  refine AW.aload_n (n := 121) dX6_copy_120 rfl rfl ?_
  refine AW.gr (n := 124) dX6_copy_121 fl_X6_43 ha.1 rfl rfl ?_
  refine AW.iconst (n := 125) (v := 0) dX6_copy_124 rfl rfl ?_
  refine AW.bipush (n := 127) (v := 12) dX6_copy_125 rfl rfl ?_
  refine AW.cp (n := 130) 12 dX6_copy_127 lj_X6_46 js_n js_s js_i hb.2.2.2.2.2.2 ha.2.2.2.2.2.2 rfl (by decide) (by decide) (by decide) (Nat.le_of_ble_eq_true rfl) (by decide) rfl ?_
  refine AW.ret dX6_copy_130 rfl (Nat.zero_le _) (Nat.zero_le _) ?_
  exact ⟨rfl, rfl⟩
set_option maxHeartbeats 4000000 in
set_option maxRecDepth 100000 in
theorem c_X6_addStop {μ : Me} {e : Nat × (Nat → aC)} {a n : Nat} {x i b : Int32} (ha : sS a) (hz : μ a 3 = nI n) (hz9 : n ≤ 7) : AC 0 0 0 mX6_addStop [.ref a, .int x, .int i, .int b] (wS μ e) (a_eq none (wS (sAddStop μ a n x i b) e)) := by
  refine AC.of (L := [some (.ref a), some (.int x), some (.int i), some (.int b)]) (j := 0) (by decide) rfl (Nat.le_of_ble_eq_true rfl) ?_
  refine AW.aload_n (n := 1) dX6_addStop_0 rfl rfl ?_
  refine AW.gi (n := 4) dX6_addStop_1 fl_X6_21 ha.1 rfl rfl ?_
  refine AW.bipush (n := 6) (v := 7) dX6_addStop_4 rfl rfl ?_
  refine AW.icmp_lt (n := 9) (t := 10) dX6_addStop_6 rfl rfl (fun h6 => ?_) (fun h6 => ?_)
  · have hz1 := lt_lit (b := 7) hz (by omega) (by omega) h6
    refine AW.aload_n (n := 11) dX6_addStop_10 rfl rfl ?_
    refine AW.gr (n := 14) dX6_addStop_11 fl_X6_27 ha.1 rfl rfl ?_
    refine AW.aload_n (n := 15) dX6_addStop_14 rfl rfl ?_
    refine AW.gi (n := 18) dX6_addStop_15 fl_X6_21 ha.1 rfl rfl ?_
    refine AW.iload_n (n := 19) dX6_addStop_18 rfl rfl ?_
    refine AW.is (n := 20) n dX6_addStop_19 ha.2.1 (by simp [mu_at, hz]) (by omega) (by decide) rfl ?_
    refine AW.aload_n (n := 21) dX6_addStop_20 rfl rfl ?_
    refine AW.gr (n := 24) dX6_addStop_21 fl_X6_31 ha.1 rfl rfl ?_
    refine AW.aload_n (n := 25) dX6_addStop_24 rfl rfl ?_
    refine AW.gi (n := 28) dX6_addStop_25 fl_X6_21 ha.1 rfl rfl ?_
    refine AW.iload_n (n := 29) dX6_addStop_28 rfl rfl ?_
    refine AW.is (n := 30) n dX6_addStop_29 ha.2.2.1 (by simp [mu_at, hz]) (by omega) (by decide) rfl ?_
    refine AW.aload_n (n := 31) dX6_addStop_30 rfl rfl ?_
    refine AW.gr (n := 34) dX6_addStop_31 fl_X6_34 ha.1 rfl rfl ?_
    refine AW.aload_n (n := 35) dX6_addStop_34 rfl rfl ?_
    refine AW.gi (n := 38) dX6_addStop_35 fl_X6_21 ha.1 rfl rfl ?_
    refine AW.iload_n (n := 39) dX6_addStop_38 rfl rfl ?_
    refine AW.is (n := 40) n dX6_addStop_39 ha.2.2.2.1 (by simp [mu_at, hz]) (by omega) (by decide) rfl ?_
    refine AW.aload_n (n := 41) dX6_addStop_40 rfl rfl ?_
    refine AW.gr (n := 44) dX6_addStop_41 fl_X6_37 ha.1 rfl rfl ?_
    refine AW.aload_n (n := 45) dX6_addStop_44 rfl rfl ?_
    refine AW.gi (n := 48) dX6_addStop_45 fl_X6_21 ha.1 rfl rfl ?_
    refine AW.iconst (n := 49) (v := -1) dX6_addStop_48 rfl rfl ?_
    refine AW.is (n := 50) n dX6_addStop_49 ha.2.2.2.2.1 (by simp [mu_at, hz]) (by omega) (by decide) rfl ?_
    refine AW.aload_n (n := 51) dX6_addStop_50 rfl rfl ?_
    refine AW.gr (n := 54) dX6_addStop_51 fl_X6_40 ha.1 rfl rfl ?_
    refine AW.aload_n (n := 55) dX6_addStop_54 rfl rfl ?_
    refine AW.gi (n := 58) dX6_addStop_55 fl_X6_21 ha.1 rfl rfl ?_
    refine AW.iconst (n := 59) (v := 0) dX6_addStop_58 rfl rfl ?_
    refine AW.is (n := 60) n dX6_addStop_59 ha.2.2.2.2.2.1 (by simp [mu_at, hz]) (by omega) (by decide) rfl ?_
    refine AW.aload_n (n := 61) dX6_addStop_60 rfl rfl ?_
    refine AW.dup (n := 62) dX6_addStop_61 rfl rfl ?_
    refine AW.gi (n := 65) dX6_addStop_62 fl_X6_21 ha.1 rfl rfl ?_
    refine AW.iconst (n := 66) (v := 1) dX6_addStop_65 rfl rfl ?_
    refine AW.iadd (n := 67) dX6_addStop_66 rfl ?_
    refine AW.pi (n := 70) dX6_addStop_67 fp_X6_21 ha.1 rfl ⟨rfl, rfl⟩ rfl ?_
    refine AW.ret dX6_addStop_70 rfl (Nat.zero_le _) (Nat.zero_le _) ?_
    exact ⟨rfl, by simp [sAddStop, mu_at, nI_1, hz, hz1]⟩
  · have hz1 := nlt_lit (b := 7) hz (by omega) (by omega) h6
    refine AW.ret dX6_addStop_9 rfl (Nat.zero_le _) (Nat.zero_le _) ?_
    exact ⟨rfl, by simp [sAddStop, mu_at, nI_1, hz, Nat.not_lt.mpr hz1]⟩
set_option maxHeartbeats 4000000 in
set_option maxRecDepth 100000 in
theorem c_X6_addDin {μ : Me} {e : Nat × (Nat → aC)} {a dn : Nat} {x : Int32} (ha : sS a) (hz : μ a 4 = nI dn) (hz9 : dn ≤ 12) : AC 0 0 0 mX6_addDin [.ref a, .int x] (wS μ e) (a_eq none (wS (sAddDin μ a dn x) e)) := by
  refine AC.of (L := [some (.ref a), some (.int x)]) (j := 0) (by decide) rfl (Nat.le_of_ble_eq_true rfl) ?_
  refine AW.aload_n (n := 1) dX6_addDin_0 rfl rfl ?_
  refine AW.gi (n := 4) dX6_addDin_1 fl_X6_24 ha.1 rfl rfl ?_
  refine AW.bipush (n := 6) (v := 12) dX6_addDin_4 rfl rfl ?_
  refine AW.icmp_ge (n := 9) (t := 29) dX6_addDin_6 rfl rfl (fun h6 => ?_) (fun h6 => ?_)
  · refine AW.ret dX6_addDin_29 rfl (Nat.zero_le _) (Nat.zero_le _) ?_
    have hz1 := le_lit (b := 12) hz (by omega) (by omega) h6
    exact ⟨rfl, by simp [sAddDin, Nat.not_lt.mpr hz1]⟩
  · have hz1 := nle_lit (b := 12) hz (by omega) (by omega) h6
    refine AW.aload_n (n := 10) dX6_addDin_9 rfl rfl ?_
    refine AW.gr (n := 13) dX6_addDin_10 fl_X6_43 ha.1 rfl rfl ?_
    refine AW.aload_n (n := 14) dX6_addDin_13 rfl rfl ?_
    refine AW.gi (n := 17) dX6_addDin_14 fl_X6_24 ha.1 rfl rfl ?_
    refine AW.iload_n (n := 18) dX6_addDin_17 rfl rfl ?_
    refine AW.is (n := 19) dn dX6_addDin_18 ha.2.2.2.2.2.2 (by simp [mu_at, hz]) (by omega) (by decide) rfl ?_
    refine AW.aload_n (n := 20) dX6_addDin_19 rfl rfl ?_
    refine AW.dup (n := 21) dX6_addDin_20 rfl rfl ?_
    refine AW.gi (n := 24) dX6_addDin_21 fl_X6_24 ha.1 rfl rfl ?_
    refine AW.iconst (n := 25) (v := 1) dX6_addDin_24 rfl rfl ?_
    refine AW.iadd (n := 26) dX6_addDin_25 rfl ?_
    refine AW.pi (n := 29) dX6_addDin_26 fp_X6_24 ha.1 rfl ⟨rfl, rfl⟩ rfl ?_
    refine AW.ret dX6_addDin_29 rfl (Nat.zero_le _) (Nat.zero_le _) ?_
    exact ⟨rfl, by simp [sAddDin, mu_at, nI_1, hz, hz1]⟩
set_option maxHeartbeats 4000000 in
set_option maxRecDepth 100000 in
theorem l_X6_risingWay {μ : Me} {e : Nat × (Nat → aC)} {a n : Nat} (ha : sS a) (hz : μ a 3 = nI n) (hz9 : n ≤ 7) : ∀ (m : Nat) (i : Nat), n - i < m → i ≤ n → AW none 0 0 0 mX6_risingWay 0 0 4 [some (.ref a), some (.int (sRise i)), some (.int (nI i))] [] (wS μ e) (a_eq (some (.int (sRise n))) (wS μ e)) := by
  intro m
  induction m with
  | zero => intro i hm; exact absurd hm (Nat.not_lt_zero _)
  | succ m ih =>
    intro i hm hc
    refine AW.iload_n (n := 5) dX6_risingWay_4 rfl rfl ?_
    refine AW.aload_n (n := 6) dX6_risingWay_5 rfl rfl ?_
    refine AW.gi (n := 9) dX6_risingWay_6 fl_X6_21 ha.1 rfl rfl ?_
    refine AW.icmp_ge (n := 12) (t := 27) dX6_risingWay_9 rfl rfl (fun h9 => ?_) (fun h9 => ?_)
    · have hi : n ≤ i := le_lit (b := n) (x := nI i) rfl (by omega) (by omega) (by rw [← hz]; exact h9)
      have he : i = n := by omega
      subst he
      refine AW.iload_n (n := 28) dX6_risingWay_27 rfl rfl ?_
      refine AW.iret dX6_risingWay_28 rfl rfl (Nat.zero_le _) (Nat.zero_le _) ?_
      exact ⟨rfl, rfl⟩
    · have hi : i < n := nle_lit (b := n) (x := nI i) rfl (by omega) (by omega) (by rw [← hz]; exact h9)
      refine AW.iload_n (n := 13) dX6_risingWay_12 rfl rfl ?_
      refine AW.bipush (n := 15) (v := 10) dX6_risingWay_13 rfl rfl ?_
      refine AW.imul (n := 16) dX6_risingWay_15 rfl ?_
      refine AW.iload_n (n := 17) dX6_risingWay_16 rfl rfl ?_
      refine AW.iadd (n := 18) dX6_risingWay_17 rfl ?_
      refine AW.iconst (n := 19) (v := 1) dX6_risingWay_18 rfl rfl ?_
      refine AW.iadd (n := 20) dX6_risingWay_19 rfl ?_
      refine AW.ist1 (n := 21) dX6_risingWay_20 (Nat.le_of_ble_eq_true rfl) rfl rfl ?_
      refine AW.inc2 (n := 24) (1) dX6_risingWay_21 rfl (Nat.le_of_ble_eq_true rfl) rfl rfl ?_
      refine AW.goto (t := 4) dX6_risingWay_24 rfl ?_
      rw [nI_1 i]
      exact ih (i + 1) (by omega) (by omega)
set_option maxHeartbeats 4000000 in
set_option maxRecDepth 100000 in
theorem c_X6_risingWay {μ : Me} {e : Nat × (Nat → aC)} {a n : Nat} (ha : sS a) (hz : μ a 3 = nI n) (hz9 : n ≤ 7) : AC 0 0 0 mX6_risingWay [.ref a] (wS μ e) (a_eq (some (.int (sRise n))) (wS μ e)) := by
  refine AC.of (L := [some (.ref a), none, none]) (j := 2) (by decide) rfl (Nat.le_of_ble_eq_true rfl) ?_
  refine AW.iconst (n := 1) (v := 0) dX6_risingWay_0 rfl rfl ?_
  refine AW.ist1 (n := 2) dX6_risingWay_1 (Nat.le_of_ble_eq_true rfl) rfl rfl ?_
  refine AW.iconst (n := 3) (v := 0) dX6_risingWay_2 rfl rfl ?_
  refine AW.ist2 (n := 4) dX6_risingWay_3 (Nat.le_of_ble_eq_true rfl) rfl rfl ?_
  exact l_X6_risingWay ha hz hz9 (n + 1) 0 (by omega) (Nat.zero_le _)
set_option maxHeartbeats 4000000 in
set_option maxRecDepth 100000 in
theorem l_X6_countNear {μ : Me} {e : Nat × (Nat → aC)} {a n : Nat} {set y d : Int32} (ha : sS a) (hz : μ a 3 = nI n) (hz9 : n ≤ 7) : ∀ (m : Nat) (i : Nat), n - i < m → i ≤ n → AW none 1 0 0 mX6_countNear 0 0 6 [some (.ref a), some (.int set), some (.int y), some (.int d), some (.int (sNear (μ (a + 1)) set y d i)), some (.int (nI i))] [] (wS μ e) (a_eq (some (.int (sNear (μ (a + 1)) set y d n))) (wS μ e)) := by
  intro m
  induction m with
  | zero => intro i hm; exact absurd hm (Nat.not_lt_zero _)
  | succ m ih =>
    intro i hm hc
    refine AW.iload (n := 8) dX6_countNear_6 rfl rfl ?_
    refine AW.aload_n (n := 9) dX6_countNear_8 rfl rfl ?_
    refine AW.gi (n := 12) dX6_countNear_9 fl_X6_21 ha.1 rfl rfl ?_
    refine AW.icmp_ge (n := 15) (t := 49) dX6_countNear_12 rfl rfl (fun h12 => ?_) (fun h12 => ?_)
    · have hi : n ≤ i := le_lit (b := n) (x := nI i) rfl (by omega) (by omega) (by rw [← hz]; exact h12)
      have he : i = n := by omega
      subst he
      refine AW.iload (n := 51) dX6_countNear_49 rfl rfl ?_
      refine AW.iret dX6_countNear_51 rfl rfl (Nat.zero_le _) (Nat.zero_le _) ?_
      exact ⟨rfl, rfl⟩
    · have hi : i < n := nle_lit (b := n) (x := nI i) rfl (by omega) (by omega) (by rw [← hz]; exact h12)
      refine AW.iload_n (n := 16) dX6_countNear_15 rfl rfl ?_
      refine AW.iload (n := 18) dX6_countNear_16 rfl rfl ?_
      refine AW.ishr (n := 19) dX6_countNear_18 rfl ?_
      refine AW.iconst (n := 20) (v := 1) dX6_countNear_19 rfl rfl ?_
      refine AW.iand (n := 21) dX6_countNear_20 rfl ?_
      refine AW.if_eq (n := 24) (t := 43) dX6_countNear_21 rfl rfl (fun h21 => ?_) (fun h21 => ?_)
      · refine AW.inc5 (n := 46) (1) dX6_countNear_43 rfl (Nat.le_of_ble_eq_true rfl) rfl rfl ?_
        refine AW.goto (t := 6) dX6_countNear_46 rfl ?_
        rw [nI_1 i]
        refine AW.eqL ?_ (ih (i + 1) (by omega) (by omega))
        simp only [sNear, sBit]
        simp [h21]
      · refine AW.aload_n (n := 25) dX6_countNear_24 rfl rfl ?_
        refine AW.gr (n := 28) dX6_countNear_25 fl_X6_27 ha.1 rfl rfl ?_
        refine AW.iload (n := 30) dX6_countNear_28 rfl rfl ?_
        refine AW.ia (n := 31) i dX6_countNear_30 ha.2.1 rfl (by omega) (by decide) rfl ?_
        refine AW.iload_n (n := 32) dX6_countNear_31 rfl rfl ?_
        refine AW.isub (n := 33) dX6_countNear_32 rfl ?_
        refine AW.mabsS (n := 36) dX6_countNear_33 lj_X6_68 jm_abs_s jm_i jm_abs_c (Nat.le_of_ble_eq_true rfl) (by decide) (Nat.zero_le _) (Nat.zero_le _) rfl ?_
        refine AW.iload_n (n := 37) dX6_countNear_36 rfl rfl ?_
        refine AW.icmp_gt (n := 40) (t := 43) dX6_countNear_37 rfl rfl (fun h37 => ?_) (fun h37 => ?_)
        · refine AW.inc5 (n := 46) (1) dX6_countNear_43 rfl (Nat.le_of_ble_eq_true rfl) rfl rfl ?_
          refine AW.goto (t := 6) dX6_countNear_46 rfl ?_
          rw [nI_1 i]
          refine AW.eqL ?_ (ih (i + 1) (by omega) (by omega))
          simp only [sNear, sBit]
          simp [h21, h37]
        · refine AW.inc4 (n := 43) (1) dX6_countNear_40 rfl (Nat.le_of_ble_eq_true rfl) rfl rfl ?_
          refine AW.inc5 (n := 46) (1) dX6_countNear_43 rfl (Nat.le_of_ble_eq_true rfl) rfl rfl ?_
          refine AW.goto (t := 6) dX6_countNear_46 rfl ?_
          rw [nI_1 i]
          refine AW.eqL ?_ (ih (i + 1) (by omega) (by omega))
          simp only [sNear, sBit]
          simp [h21, h37]
set_option maxHeartbeats 4000000 in
set_option maxRecDepth 100000 in
theorem c_X6_countNear {μ : Me} {e : Nat × (Nat → aC)} {a n : Nat} {set y d : Int32} (ha : sS a) (hz : μ a 3 = nI n) (hz9 : n ≤ 7) : AC 1 0 0 mX6_countNear [.ref a, .int set, .int y, .int d] (wS μ e) (a_eq (some (.int (sNear (μ (a + 1)) set y d n))) (wS μ e)) := by
  refine AC.of (L := [some (.ref a), some (.int set), some (.int y), some (.int d), none, none]) (j := 2) (by decide) rfl (Nat.le_of_ble_eq_true rfl) ?_
  refine AW.iconst (n := 1) (v := 0) dX6_countNear_0 rfl rfl ?_
  refine AW.ist4 (n := 3) dX6_countNear_1 (Nat.le_of_ble_eq_true rfl) rfl rfl ?_
  refine AW.iconst (n := 4) (v := 0) dX6_countNear_3 rfl rfl ?_
  refine AW.ist5 (n := 6) dX6_countNear_4 (Nat.le_of_ble_eq_true rfl) rfl rfl ?_
  exact l_X6_countNear ha hz hz9 (n + 1) 0 (by omega) (Nat.zero_le _)
