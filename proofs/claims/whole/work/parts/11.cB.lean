theorem lt_lit {x : Int32} {z b : Nat} (hz : x = nI z) (h1 : z < 2147483648) (hb : b < 2147483648) (h : x < nI b) : z < b := by subst hz; exact (nI_ltI h1 hb).mp h
theorem nlt_lit {x : Int32} {z b : Nat} (hz : x = nI z) (h1 : z < 2147483648) (hb : b < 2147483648) (h : ¬ x < nI b) : b ≤ z := by subst hz; exact Nat.le_of_not_lt (fun q => h ((nI_ltI h1 hb).mpr q))
theorem le_lit {x : Int32} {z b : Nat} (hz : x = nI z) (h1 : z < 2147483648) (hb : b < 2147483648) (h : nI b ≤ x) : b ≤ z := by subst hz; exact (nI_leI hb h1).mp h
theorem nle_lit {x : Int32} {z b : Nat} (hz : x = nI z) (h1 : z < 2147483648) (hb : b < 2147483648) (h : ¬ nI b ≤ x) : z < b := by subst hz; exact Nat.lt_of_not_le (fun q => h ((nI_leI hb h1).mpr q))
theorem mu_self (μ : Me) (a j : Nat) : mu μ a j (μ a j) = μ := by
  funext b i
  rw [mu_at]
  split
  · next h => rw [h.1, h.2]
  · rfl
theorem mu_mu (μ : Me) (a j : Nat) (x y : Int32) : mu (mu μ a j x) a j y = mu μ a j y := by
  funext b i
  simp only [mu_at]
  split <;> simp_all
theorem mu_self' {μ : Me} {a j : Nat} {x : Int32} (h : μ a j = x) : mu μ a j x = μ := by rw [← h]; exact mu_self μ a j
def sBAdd (μ : Me) (z : Nat) (s is : Int32) : Me := mu (mu (mu μ 124 z s) 125 z is) 123 2 (nI (z + 1))
def sSAdd (μ : Me) (z : Nat) (s : Int32) (b : Bool) : Me := mu (mu (mu μ 121 z s) 122 z (b2i b)) 120 2 (nI (z + 1))
def sTAdd (μ : Me) (z : Nat) (x : Int32) : Me := mu (mu μ 2 z x) 1 1 (nI (z + 1))
def sWrong (f g h : Nat → Int32) : Nat → Nat → Int32
  | 0, _ => -1
  | m + 1, i => if f (g i).toNatClampNeg = h i then sWrong f g h m (i + 1) else nI i
def sFits (x : Int32) (g h : Nat → Int32) : Nat → Nat → Bool
  | 0, _ => true
  | m + 1, i => if b2i (sBit x (g i)) = h i then sFits x g h m (i + 1) else false
def sWhich (f : Nat → Int32) (kind : Int32) : Nat → Int32
  | 0 => 0
  | i + 1 => if f i = kind then sWhich f kind i ||| ((1 : Int32) <<< (nI i &&& 31)) else sWhich f kind i
def sBeg (μ : Me) (a : Nat) : Nat → Me
  | 0 => μ
  | i + 1 => mu (mu (sBeg μ a i) (a + 1) i 1) (a + 2) i 0
def sBegin (μ : Me) (a : Nat) : Me := mu (mu (mu (sBeg μ a 7) a 2 0) a 3 0) a 4 0
def sCopy (μ : Me) (a b : Nat) : Me :=
  let μ1 := mr μ (a + 1) (va_cpy (μ (b + 1)) (μ (a + 1)) 0 0 7)
  let μ2 := mr μ1 (a + 2) (va_cpy (μ1 (b + 2)) (μ1 (a + 2)) 0 0 7)
  let μ3 := mu μ2 a 2 (μ2 b 2)
  let μ4 := mu μ3 a 3 (μ3 b 3)
  mu μ4 a 4 (μ4 b 4)
theorem AW.eqL {scr : Option (Nat × (Nat → Int32))} {k mc ms : Nat} {M : aM} {c0 s0 pc : Nat} {L L' : List (Option Value)} {st : List Value} {σ : aS} {P : Option Value → aS → Prop} (hL : L = L') (h : AW scr k mc ms M c0 s0 pc L' st σ P) : AW scr k mc ms M c0 s0 pc L st σ P := by rw [hL]; exact h
theorem AW.eqS {scr : Option (Nat × (Nat → Int32))} {k mc ms : Nat} {M : aM} {c0 s0 pc : Nat} {L : List (Option Value)} {st : List Value} {σ σ' : aS} {P : Option Value → aS → Prop} (hL : σ = σ') (h : AW scr k mc ms M c0 s0 pc L st σ' P) : AW scr k mc ms M c0 s0 pc L st σ P := by rw [hL]; exact h
set_option maxHeartbeats 4000000 in
set_option maxRecDepth 100000 in
theorem c_X0_forget {μ : Me} {e : Nat × (Nat → aC)}   : AC 0 0 0 mX0_forget [.ref 123] (wS μ e) (a_eq none (wS (mu μ 123 2 0) e)) := by
  refine AC.of (L := [some (.ref 123)]) (j := 0) (by decide) rfl (Nat.le_of_ble_eq_true rfl) ?_
  refine AW.aload_n (n := 1) dX0_forget_0 rfl rfl ?_
  refine AW.iconst (n := 2) (v := 0) dX0_forget_1 rfl rfl ?_
  refine AW.pi (n := 5) dX0_forget_2 fp_X0_18 s_123 rfl ⟨rfl, rfl⟩ rfl ?_
  refine AW.ret dX0_forget_5 rfl (Nat.zero_le _) (Nat.zero_le _) ?_
  exact ⟨rfl, rfl⟩
set_option maxHeartbeats 4000000 in
set_option maxRecDepth 100000 in
theorem c_X3_forget {μ : Me} {e : Nat × (Nat → aC)}   : AC 0 0 0 mX3_forget [.ref 28] (wS μ e) (a_eq none (wS (mu μ 28 2 0) e)) := by
  refine AC.of (L := [some (.ref 28)]) (j := 0) (by decide) rfl (Nat.le_of_ble_eq_true rfl) ?_
  refine AW.aload_n (n := 1) dX3_forget_0 rfl rfl ?_
  refine AW.iconst (n := 2) (v := 0) dX3_forget_1 rfl rfl ?_
  refine AW.pi (n := 5) dX3_forget_2 fp_X3_21 s_28 rfl ⟨rfl, rfl⟩ rfl ?_
  refine AW.ret dX3_forget_5 rfl (Nat.zero_le _) (Nat.zero_le _) ?_
  exact ⟨rfl, rfl⟩
set_option maxHeartbeats 4000000 in
set_option maxRecDepth 100000 in
theorem c_X5_forget {μ : Me} {e : Nat × (Nat → aC)}   : AC 0 0 0 mX5_forget [.ref 120] (wS μ e) (a_eq none (wS (mu μ 120 2 0) e)) := by
  refine AC.of (L := [some (.ref 120)]) (j := 0) (by decide) rfl (Nat.le_of_ble_eq_true rfl) ?_
  refine AW.aload_n (n := 1) dX5_forget_0 rfl rfl ?_
  refine AW.iconst (n := 2) (v := 0) dX5_forget_1 rfl rfl ?_
  refine AW.pi (n := 5) dX5_forget_2 fp_X5_19 s_120 rfl ⟨rfl, rfl⟩ rfl ?_
  refine AW.ret dX5_forget_5 rfl (Nat.zero_le _) (Nat.zero_le _) ?_
  exact ⟨rfl, rfl⟩
set_option maxHeartbeats 4000000 in
set_option maxRecDepth 100000 in
theorem c_X7_empty {μ : Me} {e : Nat × (Nat → aC)}   : AC 0 0 0 mX7_empty [.ref 1] (wS μ e) (a_eq none (wS (mu μ 1 1 0) e)) := by
  refine AC.of (L := [some (.ref 1)]) (j := 0) (by decide) rfl (Nat.le_of_ble_eq_true rfl) ?_
  refine AW.aload_n (n := 1) dX7_empty_0 rfl rfl ?_
  refine AW.iconst (n := 2) (v := 0) dX7_empty_1 rfl rfl ?_
  refine AW.pi (n := 5) dX7_empty_2 fp_X7_15 s_1 rfl ⟨rfl, rfl⟩ rfl ?_
  refine AW.ret dX7_empty_5 rfl (Nat.zero_le _) (Nat.zero_le _) ?_
  exact ⟨rfl, rfl⟩
set_option maxHeartbeats 4000000 in
set_option maxRecDepth 100000 in
theorem c_X0_add {μ : Me} {e : Nat × (Nat → aC)} {z : Nat} {s is : Int32} (hz : μ 123 2 = nI z) (hz9 : z ≤ 20) : AC 0 0 0 mX0_add [.ref 123, .int s, .int is] (wS μ e) (a_eq (some (.int (b2i (decide (z < 20))))) (wS (if z < 20 then sBAdd μ z s is else μ) e)) := by
  refine AC.of (L := [some (.ref 123), some (.int s), some (.int is)]) (j := 0) (by decide) rfl (Nat.le_of_ble_eq_true rfl) ?_
  refine AW.aload_n (n := 1) dX0_add_0 rfl rfl ?_
  refine AW.gi (n := 4) dX0_add_1 fl_X0_18 s_123 rfl rfl ?_
  refine AW.bipush (n := 6) (v := 20) dX0_add_4 rfl rfl ?_
  refine AW.icmp_lt (n := 9) (t := 11) dX0_add_6 rfl rfl (fun h6 => ?_) (fun h6 => ?_)
  · have hz1 := lt_lit (b := 20) hz (by omega) (by omega) h6
    refine AW.aload_n (n := 12) dX0_add_11 rfl rfl ?_
    refine AW.gr (n := 15) dX0_add_12 fl_X0_9 s_123 rfl rfl ?_
    refine AW.aload_n (n := 16) dX0_add_15 rfl rfl ?_
    refine AW.gi (n := 19) dX0_add_16 fl_X0_18 s_123 rfl rfl ?_
    refine AW.iload_n (n := 20) dX0_add_19 rfl rfl ?_
    refine AW.is (n := 21) z dX0_add_20 s_124 (by simp [mu_at, hz]) (by omega) (by decide) rfl ?_
    refine AW.aload_n (n := 22) dX0_add_21 rfl rfl ?_
    refine AW.gr (n := 25) dX0_add_22 fl_X0_15 s_123 rfl rfl ?_
    refine AW.aload_n (n := 26) dX0_add_25 rfl rfl ?_
    refine AW.gi (n := 29) dX0_add_26 fl_X0_18 s_123 rfl rfl ?_
    refine AW.iload_n (n := 30) dX0_add_29 rfl rfl ?_
    refine AW.is (n := 31) z dX0_add_30 s_125 (by simp [mu_at, hz]) (by omega) (by decide) rfl ?_
    refine AW.aload_n (n := 32) dX0_add_31 rfl rfl ?_
    refine AW.dup (n := 33) dX0_add_32 rfl rfl ?_
    refine AW.gi (n := 36) dX0_add_33 fl_X0_18 s_123 rfl rfl ?_
    refine AW.iconst (n := 37) (v := 1) dX0_add_36 rfl rfl ?_
    refine AW.iadd (n := 38) dX0_add_37 rfl ?_
    refine AW.pi (n := 41) dX0_add_38 fp_X0_18 s_123 rfl ⟨rfl, rfl⟩ rfl ?_
    refine AW.iconst (n := 42) (v := 1) dX0_add_41 rfl rfl ?_
    refine AW.iret dX0_add_42 rfl rfl (Nat.zero_le _) (Nat.zero_le _) ?_
    exact ⟨by simp [sBAdd, b2i, mu_at, nI_1, hz, hz1], by simp [sBAdd, b2i, mu_at, nI_1, hz, hz1]⟩
  · have hz1 := nlt_lit (b := 20) hz (by omega) (by omega) h6
    refine AW.iconst (n := 10) (v := 0) dX0_add_9 rfl rfl ?_
    refine AW.iret dX0_add_10 rfl rfl (Nat.zero_le _) (Nat.zero_le _) ?_
    exact ⟨by simp [sBAdd, b2i, mu_at, nI_1, hz, Nat.not_lt.mpr hz1], by simp [sBAdd, b2i, mu_at, nI_1, hz, Nat.not_lt.mpr hz1]⟩
set_option maxHeartbeats 4000000 in
set_option maxRecDepth 100000 in
theorem c_X5_add {μ : Me} {e : Nat × (Nat → aC)} {z : Nat} {s : Int32} {b : Bool} (hz : μ 120 2 = nI z) (hz9 : z ≤ 6) : AC 0 0 0 mX5_add [.ref 120, .int s, .int (b2i b)] (wS μ e) (a_eq (some (.int (b2i (decide (z < 6))))) (wS (if z < 6 then sSAdd μ z s b else μ) e)) := by
  refine AC.of (L := [some (.ref 120), some (.int s), some (.int (b2i b))]) (j := 0) (by decide) rfl (Nat.le_of_ble_eq_true rfl) ?_
  refine AW.aload_n (n := 1) dX5_add_0 rfl rfl ?_
  refine AW.gi (n := 4) dX5_add_1 fl_X5_19 s_120 rfl rfl ?_
  refine AW.bipush (n := 6) (v := 6) dX5_add_4 rfl rfl ?_
  refine AW.icmp_lt (n := 9) (t := 11) dX5_add_6 rfl rfl (fun h6 => ?_) (fun h6 => ?_)
  · have hz1 := lt_lit (b := 6) hz (by omega) (by omega) h6
    refine AW.aload_n (n := 12) dX5_add_11 rfl rfl ?_
    refine AW.gr (n := 15) dX5_add_12 fl_X5_9 s_120 rfl rfl ?_
    refine AW.aload_n (n := 16) dX5_add_15 rfl rfl ?_
    refine AW.gi (n := 19) dX5_add_16 fl_X5_19 s_120 rfl rfl ?_
    refine AW.iload_n (n := 20) dX5_add_19 rfl rfl ?_
    refine AW.is (n := 21) z dX5_add_20 s_121 (by simp [mu_at, hz]) (by omega) (by decide) rfl ?_
    refine AW.aload_n (n := 22) dX5_add_21 rfl rfl ?_
    refine AW.gr (n := 25) dX5_add_22 fl_X5_15 s_120 rfl rfl ?_
    refine AW.aload_n (n := 26) dX5_add_25 rfl rfl ?_
    refine AW.gi (n := 29) dX5_add_26 fl_X5_19 s_120 rfl rfl ?_
    refine AW.iload_n (n := 30) dX5_add_29 rfl rfl ?_
    refine AW.zs (n := 31) z dX5_add_30 s_122 (by simp [mu_at, hz]) (by omega) (by decide) nar_b2i rfl ?_
    refine AW.aload_n (n := 32) dX5_add_31 rfl rfl ?_
    refine AW.dup (n := 33) dX5_add_32 rfl rfl ?_
    refine AW.gi (n := 36) dX5_add_33 fl_X5_19 s_120 rfl rfl ?_
    refine AW.iconst (n := 37) (v := 1) dX5_add_36 rfl rfl ?_
    refine AW.iadd (n := 38) dX5_add_37 rfl ?_
    refine AW.pi (n := 41) dX5_add_38 fp_X5_19 s_120 rfl ⟨rfl, rfl⟩ rfl ?_
    refine AW.iconst (n := 42) (v := 1) dX5_add_41 rfl rfl ?_
    refine AW.iret dX5_add_42 rfl rfl (Nat.zero_le _) (Nat.zero_le _) ?_
    exact ⟨by simp [sSAdd, b2i, mu_at, nI_1, hz, hz1], by simp [sSAdd, b2i, mu_at, nI_1, hz, hz1]⟩
  · have hz1 := nlt_lit (b := 6) hz (by omega) (by omega) h6
    refine AW.iconst (n := 10) (v := 0) dX5_add_9 rfl rfl ?_
    refine AW.iret dX5_add_10 rfl rfl (Nat.zero_le _) (Nat.zero_le _) ?_
    exact ⟨by simp [sSAdd, b2i, mu_at, nI_1, hz, Nat.not_lt.mpr hz1], by simp [sSAdd, b2i, mu_at, nI_1, hz, Nat.not_lt.mpr hz1]⟩
set_option maxHeartbeats 4000000 in
set_option maxRecDepth 100000 in
theorem l_X0_firstWrong {μ : Me} {e : Nat × (Nat → aC)} {a z : Nat} (ha : sD a) (hz : μ 123 2 = nI z) (hz9 : z ≤ 20) (hv : ∀ i, i < z → ∃ j : Nat, j < 7 ∧ μ 124 i = nI j) : ∀ (m : Nat) (i : Nat), z - i < m → i ≤ z → AW none 0 0 0 mX0_firstWrong 0 0 2 [some (.ref 123), some (.ref a), some (.int (nI i))] [] (wS μ e) (a_eq (some (.int (sWrong (μ (a + 1)) (μ 124) (μ 125) (z - i) i))) (wS μ e)) := by
  intro m
  induction m with
  | zero => intro i hm; exact absurd hm (Nat.not_lt_zero _)
  | succ m ih =>
    intro i hm hc
    refine AW.iload_n (n := 3) dX0_firstWrong_2 rfl rfl ?_
    refine AW.aload_n (n := 4) dX0_firstWrong_3 rfl rfl ?_
    refine AW.gi (n := 7) dX0_firstWrong_4 fl_X0_18 s_123 rfl rfl ?_
    refine AW.icmp_ge (n := 10) (t := 38) dX0_firstWrong_7 rfl rfl (fun h7 => ?_) (fun h7 => ?_)
    · have hi : z ≤ i := le_lit (b := z) (x := nI i) rfl (by omega) (by omega) (by rw [← hz]; exact h7)
      refine AW.iconst (n := 39) (v := -1) dX0_firstWrong_38 rfl rfl ?_
      refine AW.iret dX0_firstWrong_39 rfl rfl (Nat.zero_le _) (Nat.zero_le _) ?_
      exact ⟨by rw [show z - i = 0 by omega]; rfl, rfl⟩
    · have hi : i < z := nle_lit (b := z) (x := nI i) rfl (by omega) (by omega) (by rw [← hz]; exact h7)
      obtain ⟨j, hj, hjj⟩ := hv i hi
      have hs : z - i = (z - (i + 1)) + 1 := by omega
      refine AW.aload_n (n := 11) dX0_firstWrong_10 rfl rfl ?_
      refine AW.gr (n := 14) dX0_firstWrong_11 fl_X0_22 ha.1 rfl rfl ?_
      refine AW.aload_n (n := 15) dX0_firstWrong_14 rfl rfl ?_
      refine AW.gr (n := 18) dX0_firstWrong_15 fl_X0_9 s_123 rfl rfl ?_
      refine AW.iload_n (n := 19) dX0_firstWrong_18 rfl rfl ?_
      refine AW.ia (n := 20) i dX0_firstWrong_19 s_124 rfl (by omega) (by decide) rfl ?_
      refine AW.ia (n := 21) j dX0_firstWrong_20 ha.2.1 hjj hj (by decide) rfl ?_
      refine AW.aload_n (n := 22) dX0_firstWrong_21 rfl rfl ?_
      refine AW.gr (n := 25) dX0_firstWrong_22 fl_X0_15 s_123 rfl rfl ?_
      refine AW.iload_n (n := 26) dX0_firstWrong_25 rfl rfl ?_
      refine AW.ia (n := 27) i dX0_firstWrong_26 s_125 rfl (by omega) (by decide) rfl ?_
      refine AW.icmp_eq (n := 30) (t := 32) dX0_firstWrong_27 rfl rfl (fun h27 => ?_) (fun h27 => ?_)
      · refine AW.inc2 (n := 35) (1) dX0_firstWrong_32 rfl (Nat.le_of_ble_eq_true rfl) rfl rfl ?_
        refine AW.goto (t := 2) dX0_firstWrong_35 rfl ?_
        rw [nI_1]
        have e9 : sWrong (μ (a + 1)) (μ 124) (μ 125) (z - i) i = sWrong (μ (a + 1)) (μ 124) (μ 125) (z - (i + 1)) (i + 1) := by rw [hs, sWrong, hjj, cl_nI (by omega), if_pos h27]
        rw [e9]
        exact ih (i + 1) (by omega) (by omega)
      · refine AW.iload_n (n := 31) dX0_firstWrong_30 rfl rfl ?_
        refine AW.iret dX0_firstWrong_31 rfl rfl (Nat.zero_le _) (Nat.zero_le _) ?_
        exact ⟨by rw [hs, sWrong, hjj, cl_nI (by omega), if_neg h27], rfl⟩
set_option maxHeartbeats 4000000 in
set_option maxRecDepth 100000 in
theorem c_X0_firstWrong {μ : Me} {e : Nat × (Nat → aC)} {a z : Nat} (ha : sD a) (hz : μ 123 2 = nI z) (hz9 : z ≤ 20) (hv : ∀ i, i < z → ∃ j : Nat, j < 7 ∧ μ 124 i = nI j) : AC 0 0 0 mX0_firstWrong [.ref 123, .ref a] (wS μ e) (a_eq (some (.int (sWrong (μ (a + 1)) (μ 124) (μ 125) z 0))) (wS μ e)) := by
  refine AC.of (L := [some (.ref 123), some (.ref a), none]) (j := 1) (by decide) rfl (Nat.le_of_ble_eq_true rfl) ?_
  refine AW.iconst (n := 1) (v := 0) dX0_firstWrong_0 rfl rfl ?_
  refine AW.ist2 (n := 2) dX0_firstWrong_1 (Nat.le_of_ble_eq_true rfl) rfl rfl ?_
  exact l_X0_firstWrong ha hz hz9 hv (z + 1) 0 (by omega) (Nat.zero_le _)
set_option maxHeartbeats 4000000 in
set_option maxRecDepth 100000 in
theorem l_X1_which {μ : Me} {e : Nat × (Nat → aC)} {a n : Nat} {kd : Int32} (ha : sD a) (h7 : n ≤ 7) : ∀ (m : Nat) (i : Nat), n - i < m → i ≤ n → AW none 0 0 0 mX1_which 0 0 5 [some (.ref a), some (.int kd), some (.int (nI n)), some (.int (sWhich (μ (a + 1)) kd i)), some (.int (nI i))] [] (wS μ e) (a_eq (some (.int (sWhich (μ (a + 1)) kd n))) (wS μ e)) := by
  intro m
  induction m with
  | zero => intro i hm; exact absurd hm (Nat.not_lt_zero _)
  | succ m ih =>
    intro i hm hc
    refine AW.iload (n := 7) dX1_which_5 rfl rfl ?_
    refine AW.iload_n (n := 8) dX1_which_7 rfl rfl ?_
    refine AW.icmp_ge (n := 11) (t := 42) dX1_which_8 rfl rfl (fun h8 => ?_) (fun h8 => ?_)
    · have hi : n ≤ i := le_lit (b := n) (x := nI i) rfl (by omega) (by omega) h8
      have he : i = n := by omega
      subst he
      refine AW.iload_n (n := 43) dX1_which_42 rfl rfl ?_
      refine AW.iret dX1_which_43 rfl rfl (Nat.zero_le _) (Nat.zero_le _) ?_
      exact ⟨rfl, rfl⟩
    · have hi : i < n := nle_lit (b := n) (x := nI i) rfl (by omega) (by omega) h8
      refine AW.iload (n := 13) dX1_which_11 rfl rfl ?_
      refine AW.bipush (n := 15) (v := 7) dX1_which_13 rfl rfl ?_
      refine AW.icmp_ge (n := 18) (t := 42) dX1_which_15 rfl rfl (fun h15 => ?_) (fun h15 => ?_)
      · exact absurd (le_lit (b := 7) (x := nI i) rfl (by omega) (by omega) h15) (by omega)
      · refine AW.aload_n (n := 19) dX1_which_18 rfl rfl ?_
        refine AW.gr (n := 22) dX1_which_19 fl_X1_9 ha.1 rfl rfl ?_
        refine AW.iload (n := 24) dX1_which_22 rfl rfl ?_
        refine AW.ia (n := 25) i dX1_which_24 ha.2.1 rfl (by omega) (by decide) rfl ?_
        refine AW.iload_n (n := 26) dX1_which_25 rfl rfl ?_
        refine AW.icmp_ne (n := 29) (t := 36) dX1_which_26 rfl rfl (fun h26 => ?_) (fun h26 => ?_)
        · refine AW.inc4 (n := 39) (1) dX1_which_36 rfl (Nat.le_of_ble_eq_true rfl) rfl rfl ?_
          refine AW.goto (t := 5) dX1_which_39 rfl ?_
          rw [nI_1]
          refine AW.eqL (by simp [sWhich, h26]) (ih (i + 1) (by omega) (by omega))
        · refine AW.iload_n (n := 30) dX1_which_29 rfl rfl ?_
          refine AW.iconst (n := 31) (v := 1) dX1_which_30 rfl rfl ?_
          refine AW.iload (n := 33) dX1_which_31 rfl rfl ?_
          refine AW.ishl (n := 34) dX1_which_33 rfl ?_
          refine AW.ior (n := 35) dX1_which_34 rfl ?_
          refine AW.ist3 (n := 36) dX1_which_35 (Nat.le_of_ble_eq_true rfl) rfl rfl ?_
          refine AW.inc4 (n := 39) (1) dX1_which_36 rfl (Nat.le_of_ble_eq_true rfl) rfl rfl ?_
          refine AW.goto (t := 5) dX1_which_39 rfl ?_
          rw [nI_1]
          refine AW.eqL (by simp [sWhich, h26]) (ih (i + 1) (by omega) (by omega))
set_option maxHeartbeats 4000000 in
set_option maxRecDepth 100000 in
theorem c_X1_which {μ : Me} {e : Nat × (Nat → aC)} {a n : Nat} {kd : Int32} (ha : sD a) (h7 : n ≤ 7) : AC 0 0 0 mX1_which [.ref a, .int kd, .int (nI n)] (wS μ e) (a_eq (some (.int (sWhich (μ (a + 1)) kd n))) (wS μ e)) := by
  refine AC.of (L := [some (.ref a), some (.int kd), some (.int (nI n)), none, none]) (j := 2) (by decide) rfl (Nat.le_of_ble_eq_true rfl) ?_
  refine AW.iconst (n := 1) (v := 0) dX1_which_0 rfl rfl ?_
  refine AW.ist3 (n := 2) dX1_which_1 (Nat.le_of_ble_eq_true rfl) rfl rfl ?_
  refine AW.iconst (n := 3) (v := 0) dX1_which_2 rfl rfl ?_
  refine AW.ist4 (n := 5) dX1_which_3 (Nat.le_of_ble_eq_true rfl) rfl rfl ?_
  exact l_X1_which ha h7 (n + 1) 0 (by omega) (Nat.zero_le _)
set_option maxHeartbeats 4000000 in
set_option maxRecDepth 100000 in
theorem c_X1_copy {μ : Me} {e : Nat × (Nat → aC)} {a b : Nat} (ha : sD a) (hb : sD b) : AC 1 0 0 mX1_copy [.ref a, .ref b] (wS μ e) (a_eq none (wS (sCopy μ a b) e)) := by
  refine AC.of (L := [some (.ref a), some (.ref b)]) (j := 0) (by decide) rfl (Nat.le_of_ble_eq_true rfl) ?_
  refine AW.aload_n (n := 1) dX1_copy_0 rfl rfl ?_
  refine AW.gr (n := 4) dX1_copy_1 fl_X1_9 hb.1 rfl rfl ?_
  refine AW.iconst (n := 5) (v := 0) dX1_copy_4 rfl rfl ?_
  refine AW.aload_n (n := 6) dX1_copy_5 rfl rfl ?_
  refine AW.gr (n := 9) dX1_copy_6 fl_X1_9 ha.1 rfl rfl ?_
  refine AW.iconst (n := 10) (v := 0) dX1_copy_9 rfl rfl ?_
  refine AW.bipush (n := 12) (v := 7) dX1_copy_10 rfl rfl ?_
  refine AW.cp (n := 15) 7 dX1_copy_12 lj_X1_31 js_n js_s js_i hb.2.1 ha.2.1 rfl (by decide) (by decide) (by decide) (Nat.le_of_ble_eq_true rfl) (by decide) rfl ?_
  refine AW.aload_n (n := 16) dX1_copy_15 rfl rfl ?_
  refine AW.gr (n := 19) dX1_copy_16 fl_X1_15 hb.1 rfl rfl ?_
  refine AW.iconst (n := 20) (v := 0) dX1_copy_19 rfl rfl ?_
  refine AW.aload_n (n := 21) dX1_copy_20 rfl rfl ?_
  refine AW.gr (n := 24) dX1_copy_21 fl_X1_15 ha.1 rfl rfl ?_
  refine AW.iconst (n := 25) (v := 0) dX1_copy_24 rfl rfl ?_
  refine AW.bipush (n := 27) (v := 7) dX1_copy_25 rfl rfl ?_
  refine AW.cp (n := 30) 7 dX1_copy_27 lj_X1_31 js_n js_s js_i hb.2.2 ha.2.2 rfl (by decide) (by decide) (by decide) (Nat.le_of_ble_eq_true rfl) (by decide) rfl ?_
  refine AW.aload_n (n := 31) dX1_copy_30 rfl rfl ?_
  refine AW.aload_n (n := 32) dX1_copy_31 rfl rfl ?_
  refine AW.gi (n := 35) dX1_copy_32 fl_X1_18 hb.1 rfl rfl ?_
  refine AW.pi (n := 38) dX1_copy_35 fp_X1_18 ha.1 rfl ⟨rfl, rfl⟩ rfl ?_
  refine AW.aload_n (n := 39) dX1_copy_38 rfl rfl ?_
  refine AW.aload_n (n := 40) dX1_copy_39 rfl rfl ?_
  refine AW.gi (n := 43) dX1_copy_40 fl_X1_22 hb.1 rfl rfl ?_
  refine AW.pi (n := 46) dX1_copy_43 fp_X1_22 ha.1 rfl ⟨rfl, rfl⟩ rfl ?_
  refine AW.aload_n (n := 47) dX1_copy_46 rfl rfl ?_
  refine AW.aload_n (n := 48) dX1_copy_47 rfl rfl ?_
  refine AW.gi (n := 51) dX1_copy_48 fl_X1_25 hb.1 rfl rfl ?_
  refine AW.pi (n := 54) dX1_copy_51 fp_X1_25 ha.1 rfl ⟨rfl, rfl⟩ rfl ?_
  refine AW.ret dX1_copy_54 rfl (Nat.zero_le _) (Nat.zero_le _) ?_
  exact ⟨rfl, rfl⟩
set_option maxHeartbeats 4000000 in
set_option maxRecDepth 100000 in
theorem l_X1_begin {μ : Me} {e : Nat × (Nat → aC)} {a : Nat} (ha : sD a) : ∀ (m : Nat) (i : Nat), 7 - i < m → i ≤ 7 → AW none 0 0 0 mX1_begin 0 0 2 [some (.ref a), some (.int (nI i))] [] (wS (sBeg μ a i) e) (a_eq none (wS (sBegin μ a) e)) := by
  intro m
  induction m with
  | zero => intro i hm; exact absurd hm (Nat.not_lt_zero _)
  | succ m ih =>
    intro i hm hc
    refine AW.iload_n (n := 3) dX1_begin_2 rfl rfl ?_
    refine AW.bipush (n := 5) (v := 7) dX1_begin_3 rfl rfl ?_
    refine AW.icmp_ge (n := 8) (t := 28) dX1_begin_5 rfl rfl (fun h5 => ?_) (fun h5 => ?_)
    · have hi : 7 ≤ i := le_lit (b := 7) (x := nI i) rfl (by omega) (by omega) h5
      have he : i = 7 := by omega
      subst he
      refine AW.aload_n (n := 29) dX1_begin_28 rfl rfl ?_
      refine AW.iconst (n := 30) (v := 0) dX1_begin_29 rfl rfl ?_
      refine AW.pi (n := 33) dX1_begin_30 fp_X1_18 ha.1 rfl ⟨rfl, rfl⟩ rfl ?_
      refine AW.aload_n (n := 34) dX1_begin_33 rfl rfl ?_
      refine AW.iconst (n := 35) (v := 0) dX1_begin_34 rfl rfl ?_
      refine AW.pi (n := 38) dX1_begin_35 fp_X1_22 ha.1 rfl ⟨rfl, rfl⟩ rfl ?_
      refine AW.aload_n (n := 39) dX1_begin_38 rfl rfl ?_
      refine AW.iconst (n := 40) (v := 0) dX1_begin_39 rfl rfl ?_
      refine AW.pi (n := 43) dX1_begin_40 fp_X1_25 ha.1 rfl ⟨rfl, rfl⟩ rfl ?_
      refine AW.ret dX1_begin_43 rfl (Nat.zero_le _) (Nat.zero_le _) ?_
      exact ⟨rfl, rfl⟩
    · have hi : i < 7 := nle_lit (b := 7) (x := nI i) rfl (by omega) (by omega) h5
      refine AW.aload_n (n := 9) dX1_begin_8 rfl rfl ?_
      refine AW.gr (n := 12) dX1_begin_9 fl_X1_9 ha.1 rfl rfl ?_
      refine AW.iload_n (n := 13) dX1_begin_12 rfl rfl ?_
      refine AW.iconst (n := 14) (v := 1) dX1_begin_13 rfl rfl ?_
      refine AW.is (n := 15) i dX1_begin_14 ha.2.1 rfl (by omega) (by decide) rfl ?_
      refine AW.aload_n (n := 16) dX1_begin_15 rfl rfl ?_
      refine AW.gr (n := 19) dX1_begin_16 fl_X1_15 ha.1 rfl rfl ?_
      refine AW.iload_n (n := 20) dX1_begin_19 rfl rfl ?_
      refine AW.iconst (n := 21) (v := 0) dX1_begin_20 rfl rfl ?_
      refine AW.is (n := 22) i dX1_begin_21 ha.2.2 rfl (by omega) (by decide) rfl ?_
      refine AW.inc1 (n := 25) (1) dX1_begin_22 rfl (Nat.le_of_ble_eq_true rfl) rfl rfl ?_
      refine AW.goto (t := 2) dX1_begin_25 rfl ?_
      rw [nI_1]
      exact ih (i + 1) (by omega) (by omega)
set_option maxHeartbeats 4000000 in
set_option maxRecDepth 100000 in
theorem c_X1_begin {μ : Me} {e : Nat × (Nat → aC)} {a : Nat} (ha : sD a) : AC 0 0 0 mX1_begin [.ref a] (wS μ e) (a_eq none (wS (sBegin μ a) e)) := by
  refine AC.of (L := [some (.ref a), none]) (j := 1) (by decide) rfl (Nat.le_of_ble_eq_true rfl) ?_
  refine AW.iconst (n := 1) (v := 0) dX1_begin_0 rfl rfl ?_
  refine AW.ist1 (n := 2) dX1_begin_1 (Nat.le_of_ble_eq_true rfl) rfl rfl ?_
  exact l_X1_begin ha 8 0 (by omega) (Nat.zero_le _)
set_option maxHeartbeats 4000000 in
set_option maxRecDepth 100000 in
theorem l_X5_fits {μ : Me} {e : Nat × (Nat → aC)} {z : Nat} {x : Int32} {L3 : Option Value} (hz : μ 120 2 = nI z) (hz9 : z ≤ 6) : ∀ (m : Nat) (i : Nat) (L3 : Option Value), z - i < m → i ≤ z → AW none 0 0 0 mX5_fits 0 0 2 [some (.ref 120), some (.int x), some (.int (nI i)), L3] [] (wS μ e) (a_eq (some (.int (b2i (sFits x (μ 121) (μ 122) (z - i) i)))) (wS μ e)) := by
  intro m
  induction m with
  | zero => intro i L3 hm; exact absurd hm (Nat.not_lt_zero _)
  | succ m ih =>
    intro i L3 hm hc
    refine AW.iload_n (n := 3) dX5_fits_2 rfl rfl ?_
    refine AW.aload_n (n := 4) dX5_fits_3 rfl rfl ?_
    refine AW.gi (n := 7) dX5_fits_4 fl_X5_19 s_120 rfl rfl ?_
    refine AW.icmp_ge (n := 10) (t := 47) dX5_fits_7 rfl rfl (fun h7 => ?_) (fun h7 => ?_)
    · have hi : z ≤ i := le_lit (b := z) (x := nI i) rfl (by omega) (by omega) (by rw [← hz]; exact h7)
      refine AW.iconst (n := 48) (v := 1) dX5_fits_47 rfl rfl ?_
      refine AW.iret dX5_fits_48 rfl rfl (Nat.zero_le _) (Nat.zero_le _) ?_
      exact ⟨by rw [show z - i = 0 by omega]; rfl, rfl⟩
    · have hi : i < z := nle_lit (b := z) (x := nI i) rfl (by omega) (by omega) (by rw [← hz]; exact h7)
      have hs : z - i = (z - (i + 1)) + 1 := by omega
      refine AW.iload_n (n := 11) dX5_fits_10 rfl rfl ?_
      refine AW.aload_n (n := 12) dX5_fits_11 rfl rfl ?_
      refine AW.gr (n := 15) dX5_fits_12 fl_X5_9 s_120 rfl rfl ?_
      refine AW.iload_n (n := 16) dX5_fits_15 rfl rfl ?_
      refine AW.ia (n := 17) i dX5_fits_16 s_121 rfl (by omega) (by decide) rfl ?_
      refine AW.ishr (n := 18) dX5_fits_17 rfl ?_
      refine AW.iconst (n := 19) (v := 1) dX5_fits_18 rfl rfl ?_
      refine AW.iand (n := 20) dX5_fits_19 rfl ?_
      refine AW.if_eq (n := 23) (t := 27) dX5_fits_20 rfl rfl (fun h20 => ?_) (fun h20 => ?_)
      · refine AW.iconst (n := 28) (v := 0) dX5_fits_27 rfl rfl ?_
        refine AW.ist3 (n := 29) dX5_fits_28 (Nat.le_of_ble_eq_true rfl) rfl rfl ?_
        refine AW.iload_n (n := 30) dX5_fits_29 rfl rfl ?_
        refine AW.aload_n (n := 31) dX5_fits_30 rfl rfl ?_
        refine AW.gr (n := 34) dX5_fits_31 fl_X5_15 s_120 rfl rfl ?_
        refine AW.iload_n (n := 35) dX5_fits_34 rfl rfl ?_
        refine AW.za (n := 36) i dX5_fits_35 s_122 rfl (by omega) (by decide) rfl ?_
        refine AW.icmp_eq (n := 39) (t := 41) dX5_fits_36 rfl rfl (fun h36 => ?_) (fun h36 => ?_)
        · refine AW.inc2 (n := 44) (1) dX5_fits_41 rfl (Nat.le_of_ble_eq_true rfl) rfl rfl ?_
          refine AW.goto (t := 2) dX5_fits_44 rfl ?_
          rw [nI_1]
          have e9 : sFits x (μ 121) (μ 122) (z - i) i = sFits x (μ 121) (μ 122) (z - (i + 1)) (i + 1) := by rw [hs, sFits, if_pos (by simpa [sBit, b2i, h20] using h36)]
          rw [e9]
          exact ih (i + 1) _ (by omega) (by omega)
        · refine AW.iconst (n := 40) (v := 0) dX5_fits_39 rfl rfl ?_
          refine AW.iret dX5_fits_40 rfl rfl (Nat.zero_le _) (Nat.zero_le _) ?_
          exact ⟨by rw [hs, sFits, if_neg (by simpa [sBit, b2i, h20] using h36)]; rfl, rfl⟩
      · refine AW.iconst (n := 24) (v := 1) dX5_fits_23 rfl rfl ?_
        refine AW.goto (t := 28) dX5_fits_24 rfl ?_
        refine AW.ist3 (n := 29) dX5_fits_28 (Nat.le_of_ble_eq_true rfl) rfl rfl ?_
        refine AW.iload_n (n := 30) dX5_fits_29 rfl rfl ?_
        refine AW.aload_n (n := 31) dX5_fits_30 rfl rfl ?_
        refine AW.gr (n := 34) dX5_fits_31 fl_X5_15 s_120 rfl rfl ?_
        refine AW.iload_n (n := 35) dX5_fits_34 rfl rfl ?_
        refine AW.za (n := 36) i dX5_fits_35 s_122 rfl (by omega) (by decide) rfl ?_
        refine AW.icmp_eq (n := 39) (t := 41) dX5_fits_36 rfl rfl (fun h36 => ?_) (fun h36 => ?_)
        · refine AW.inc2 (n := 44) (1) dX5_fits_41 rfl (Nat.le_of_ble_eq_true rfl) rfl rfl ?_
          refine AW.goto (t := 2) dX5_fits_44 rfl ?_
          rw [nI_1]
          have e9 : sFits x (μ 121) (μ 122) (z - i) i = sFits x (μ 121) (μ 122) (z - (i + 1)) (i + 1) := by rw [hs, sFits, if_pos (by simpa [sBit, b2i, h20] using h36)]
          rw [e9]
          exact ih (i + 1) _ (by omega) (by omega)
        · refine AW.iconst (n := 40) (v := 0) dX5_fits_39 rfl rfl ?_
          refine AW.iret dX5_fits_40 rfl rfl (Nat.zero_le _) (Nat.zero_le _) ?_
          exact ⟨by rw [hs, sFits, if_neg (by simpa [sBit, b2i, h20] using h36)]; rfl, rfl⟩
set_option maxHeartbeats 4000000 in
set_option maxRecDepth 100000 in
theorem c_X5_fits {μ : Me} {e : Nat × (Nat → aC)} {z : Nat} {x : Int32} (hz : μ 120 2 = nI z) (hz9 : z ≤ 6) : AC 0 0 0 mX5_fits [.ref 120, .int x] (wS μ e) (a_eq (some (.int (b2i (sFits x (μ 121) (μ 122) z 0)))) (wS μ e)) := by
  refine AC.of (L := [some (.ref 120), some (.int x), none, none]) (j := 2) (by decide) rfl (Nat.le_of_ble_eq_true rfl) ?_
  refine AW.iconst (n := 1) (v := 0) dX5_fits_0 rfl rfl ?_
  refine AW.ist2 (n := 2) dX5_fits_1 (Nat.le_of_ble_eq_true rfl) rfl rfl ?_
  exact l_X5_fits (L3 := none) hz hz9 (z + 1) 0 _ (by omega) (Nat.zero_le _)
