theorem df_X0 : ∀ (ty : Nat → FieldType), (∀ j, j < 3 → parseFieldDescriptor (TX0 j).2.2.1 = some (ty j)) → ∀ j, j < 3 → ∀ G : aG, defaultValue (ty j) = vp_V (([.null, .null, .int 0] : List Value).map (a_v G)) j := by
  intro ty hty j hj G
  have e0 := Option.some.inj ((hty j hj).symm.trans (tyX0_ok j hj))
  rw [e0]
  rcases (show j = 0 ∨ j = 1 ∨ j = 2 by omega) with rfl | rfl | rfl <;> rfl
theorem df_X1 : ∀ (ty : Nat → FieldType), (∀ j, j < 5 → parseFieldDescriptor (TX1 j).2.2.1 = some (ty j)) → ∀ j, j < 5 → ∀ G : aG, defaultValue (ty j) = vp_V (([.null, .null, .int 0, .int 0, .int 0] : List Value).map (a_v G)) j := by
  intro ty hty j hj G
  have e0 := Option.some.inj ((hty j hj).symm.trans (tyX1_ok j hj))
  rw [e0]
  rcases (show j = 0 ∨ j = 1 ∨ j = 2 ∨ j = 3 ∨ j = 4 by omega) with rfl | rfl | rfl | rfl | rfl <;> rfl
theorem df_X2 : ∀ (ty : Nat → FieldType), (∀ j, j < 3 → parseFieldDescriptor (TX2 j).2.2.1 = some (ty j)) → ∀ j, j < 3 → ∀ G : aG, defaultValue (ty j) = vp_V (([.null, .int 0, .int 0] : List Value).map (a_v G)) j := by
  intro ty hty j hj G
  have e0 := Option.some.inj ((hty j hj).symm.trans (tyX2_ok j hj))
  rw [e0]
  rcases (show j = 0 ∨ j = 1 ∨ j = 2 by omega) with rfl | rfl | rfl <;> rfl
theorem df_X3 : ∀ (ty : Nat → FieldType), (∀ j, j < 3 → parseFieldDescriptor (TX3 j).2.2.1 = some (ty j)) → ∀ j, j < 3 → ∀ G : aG, defaultValue (ty j) = vp_V (([.null, .int 0, .int 0] : List Value).map (a_v G)) j := by
  intro ty hty j hj G
  have e0 := Option.some.inj ((hty j hj).symm.trans (tyX3_ok j hj))
  rw [e0]
  rcases (show j = 0 ∨ j = 1 ∨ j = 2 by omega) with rfl | rfl | rfl <;> rfl
theorem df_X5 : ∀ (ty : Nat → FieldType), (∀ j, j < 3 → parseFieldDescriptor (TX5 j).2.2.1 = some (ty j)) → ∀ j, j < 3 → ∀ G : aG, defaultValue (ty j) = vp_V (([.null, .null, .int 0] : List Value).map (a_v G)) j := by
  intro ty hty j hj G
  have e0 := Option.some.inj ((hty j hj).symm.trans (tyX5_ok j hj))
  rw [e0]
  rcases (show j = 0 ∨ j = 1 ∨ j = 2 by omega) with rfl | rfl | rfl <;> rfl
theorem df_X6 : ∀ (ty : Nat → FieldType), (∀ j, j < 11 → parseFieldDescriptor (TX6 j).2.2.1 = some (ty j)) → ∀ j, j < 11 → ∀ G : aG, defaultValue (ty j) = vp_V (([.int 0, .int 0, .int 0, .int 0, .int 0, .null, .null, .null, .null, .null, .null] : List Value).map (a_v G)) j := by
  intro ty hty j hj G
  have e0 := Option.some.inj ((hty j hj).symm.trans (tyX6_ok j hj))
  rw [e0]
  rcases (show j = 0 ∨ j = 1 ∨ j = 2 ∨ j = 3 ∨ j = 4 ∨ j = 5 ∨ j = 6 ∨ j = 7 ∨ j = 8 ∨ j = 9 ∨ j = 10 by omega) with rfl | rfl | rfl | rfl | rfl | rfl | rfl | rfl | rfl | rfl | rfl <;> rfl
theorem df_X7 : ∀ (ty : Nat → FieldType), (∀ j, j < 6 → parseFieldDescriptor (TX7 j).2.2.1 = some (ty j)) → ∀ j, j < 6 → ∀ G : aG, defaultValue (ty j) = vp_V (([.null, .int 0, .int 0, .int 0, .int 0, .int 0] : List Value).map (a_v G)) j := by
  intro ty hty j hj G
  have e0 := Option.some.inj ((hty j hj).symm.trans (tyX7_ok j hj))
  rw [e0]
  rcases (show j = 0 ∨ j = 1 ∨ j = 2 ∨ j = 3 ∨ j = 4 ∨ j = 5 by omega) with rfl | rfl | rfl | rfl | rfl | rfl <;> rfl
theorem df_X8 : ∀ (ty : Nat → FieldType), (∀ j, j < 8 → parseFieldDescriptor (TX8 j).2.2.1 = some (ty j)) → ∀ j, j < 8 → ∀ G : aG, defaultValue (ty j) = vp_V (([.null, .null, .int 0, .int 0, .int 0, .int 0, .int 0, .int 0] : List Value).map (a_v G)) j := by
  intro ty hty j hj G
  have e0 := Option.some.inj ((hty j hj).symm.trans (tyX8_ok j hj))
  rw [e0]
  rcases (show j = 0 ∨ j = 1 ∨ j = 2 ∨ j = 3 ∨ j = 4 ∨ j = 5 ∨ j = 6 ∨ j = 7 by omega) with rfl | rfl | rfl | rfl | rfl | rfl | rfl | rfl <;> rfl
theorem df_X9 : ∀ (ty : Nat → FieldType), (∀ j, j < 12 → parseFieldDescriptor (TX9 j).2.2.1 = some (ty j)) → ∀ j, j < 12 → ∀ G : aG, defaultValue (ty j) = vp_V (([.null, .null, .null, .null, .null, .null, .null, .null, .null, .null, .null, .int 0] : List Value).map (a_v G)) j := by
  intro ty hty j hj G
  have e0 := Option.some.inj ((hty j hj).symm.trans (tyX9_ok j hj))
  rw [e0]
  rcases (show j = 0 ∨ j = 1 ∨ j = 2 ∨ j = 3 ∨ j = 4 ∨ j = 5 ∨ j = 6 ∨ j = 7 ∨ j = 8 ∨ j = 9 ∨ j = 10 ∨ j = 11 by omega) with rfl | rfl | rfl | rfl | rfl | rfl | rfl | rfl | rfl | rfl | rfl | rfl <;> rfl
theorem df_X10 : ∀ (ty : Nat → FieldType), (∀ j, j < 31 → parseFieldDescriptor (TX10 j).2.2.1 = some (ty j)) → ∀ j, j < 31 → ∀ G : aG, defaultValue (ty j) = vp_V (([.null, .null, .null, .null, .null, .null, .null, .null, .int 0, .int 0, .null, .int 0, .int 0, .null, .int 0, .int 0, .int 0, .int 0, .int 0, .null, .int 0, .int 0, .int 0, .null, .null, .null, .int 0, .null, .null, .null, .int 0] : List Value).map (a_v G)) j := by
  intro ty hty j hj G
  have e0 := Option.some.inj ((hty j hj).symm.trans (tyX10_ok j hj))
  rw [e0]
  rcases (show j = 0 ∨ j = 1 ∨ j = 2 ∨ j = 3 ∨ j = 4 ∨ j = 5 ∨ j = 6 ∨ j = 7 ∨ j = 8 ∨ j = 9 ∨ j = 10 ∨ j = 11 ∨ j = 12 ∨ j = 13 ∨ j = 14 ∨ j = 15 ∨ j = 16 ∨ j = 17 ∨ j = 18 ∨ j = 19 ∨ j = 20 ∨ j = 21 ∨ j = 22 ∨ j = 23 ∨ j = 24 ∨ j = 25 ∨ j = 26 ∨ j = 27 ∨ j = 28 ∨ j = 29 ∨ j = 30 by omega) with rfl | rfl | rfl | rfl | rfl | rfl | rfl | rfl | rfl | rfl | rfl | rfl | rfl | rfl | rfl | rfl | rfl | rfl | rfl | rfl | rfl | rfl | rfl | rfl | rfl | rfl | rfl | rfl | rfl | rfl | rfl <;> rfl
def o7 : Nat → Int32 := fun i => if i < 7 then 1 else 0
def oF (m : Nat) : Nat → Int32 := fun i => if i < m then 1 else 0
theorem oF_s (m : Nat) : upd (oF m) m 1 = oF (m + 1) := by
  funext j
  unfold upd oF
  by_cases e : j = m
  · subst e; rw [if_pos rfl, if_pos (by omega)]
  · rw [if_neg e]
    by_cases e2 : j < m
    · rw [if_pos e2, if_pos (by omega)]
    · rw [if_neg e2, if_neg (by omega)]
theorem upd_z (m : Nat) : upd (fun _ => (0 : Int32)) m 0 = fun _ => 0 := by
  funext j
  unfold upd
  split <;> rfl
def xC1 (a : Nat) : List aC := [.inr (1, [.ref (a + 1), .ref (a + 2), .int 0, .int 0, .int 0]), .inl (0, 7, .inl o7), .inl (0, 7, .inl (fun _ => 0))]
def xC5 (a : Nat) : List aC := [.inr (5, [.ref (a + 1), .ref (a + 2), .int 0]), .inl (0, 6, .inl (fun _ => 0)), .inl (1, 6, .inl (fun _ => 0))]
def xC0 (a : Nat) : List aC := [.inr (0, [.ref (a + 1), .ref (a + 2), .int 0]), .inl (0, 20, .inl (fun _ => 0)), .inl (0, 20, .inl (fun _ => 0))]
def xC7 (a : Nat) : List aC := [.inr (7, [.ref (a + 1), .int 0, .int 0, .int (-1), .int 0, .int 0]), .inl (0, 240, .inl (fun _ => 0))]
def xC6 (a : Nat) : List aC := [.inr (6, [.int 0, .int 0, .int 0, .int 0, .int 0, .ref (a + 1), .ref (a + 2), .ref (a + 3), .ref (a + 4), .ref (a + 5), .ref (a + 6)]), .inl (0, 7, .inl (fun _ => 0)), .inl (0, 7, .inl (fun _ => 0)), .inl (0, 7, .inl (fun _ => 0)), .inl (0, 7, .inl (fun _ => 0)), .inl (0, 7, .inl (fun _ => 0)), .inl (0, 12, .inl (fun _ => 0))]
def xC8 (a : Nat) : List aC := .inr (8, [.ref (a + 1), .ref (a + 4), .int 0, .int 0, .int 0, .int 0, .int 0, .int 0]) :: (xC1 (a + 1) ++ [.inl (0, 7, .inl (fun _ => 0))])
def xC2 (a : Nat) : List aC := .inr (2, [.ref (a + 1), .int 0, .int 0]) :: xC1 (a + 1)
set_option maxHeartbeats 4000000 in
set_option maxRecDepth 100000 in
theorem l_X1_begin0 {h : Nat → aC} {a : Nat} : ∀ (m i : Nat), 7 - i < m → i ≤ 7 → AW none 0 0 0 mX1_begin 0 0 2 [some (.ref a), some (.int (nI i))] [] (zS h a [.inr (1, [.ref (a + 1), .ref (a + 2), .int 0, .int 0, .int 0]), .inl (0, 7, .inl (oF i)), .inl (0, 7, .inl (fun _ => 0))]) (a_eq none (zS h a (xC1 a))) := by
  intro m
  induction m with
  | zero => intro i hm; exact absurd hm (Nat.not_lt_zero _)
  | succ m ih =>
    intro i hm hi
    refine AW.iload_n (n := 3) dX1_begin_2 rfl rfl ?_
    refine AW.bipush (n := 5) (v := 7) dX1_begin_3 rfl rfl ?_
    refine AW.icmp_ge (n := 8) (t := 28) dX1_begin_5 rfl rfl (fun h5 => ?_) (fun h5 => ?_)
    · have hi7 : i = 7 := by have := le_lit (b := 7) (x := nI i) rfl (by omega) (by omega) h5; omega
      subst hi7
      refine AW.aload_n (n := 29) dX1_begin_28 rfl rfl ?_
      refine AW.iconst (n := 30) (v := 0) dX1_begin_29 rfl rfl ?_
      refine AW.zp (n := 33) (j := 0) (cs' := [.inr (1, [.ref (a + 1), .ref (a + 2), .int 0, .int 0, .int 0]), .inl (0, 7, .inl (oF 7)), .inl (0, 7, .inl (fun _ => 0))]) dX1_begin_30 fp_X1_18 (fun q => by cases q) rfl (Nat.le_of_ble_eq_true rfl) (fun _ => ⟨rfl, rfl⟩) rfl rfl ?_
      refine AW.aload_n (n := 34) dX1_begin_33 rfl rfl ?_
      refine AW.iconst (n := 35) (v := 0) dX1_begin_34 rfl rfl ?_
      refine AW.zp (n := 38) (j := 0) (cs' := [.inr (1, [.ref (a + 1), .ref (a + 2), .int 0, .int 0, .int 0]), .inl (0, 7, .inl (oF 7)), .inl (0, 7, .inl (fun _ => 0))]) dX1_begin_35 fp_X1_22 (fun q => by cases q) rfl (Nat.le_of_ble_eq_true rfl) (fun _ => ⟨rfl, rfl⟩) rfl rfl ?_
      refine AW.aload_n (n := 39) dX1_begin_38 rfl rfl ?_
      refine AW.iconst (n := 40) (v := 0) dX1_begin_39 rfl rfl ?_
      refine AW.zp (n := 43) (j := 0) (cs' := [.inr (1, [.ref (a + 1), .ref (a + 2), .int 0, .int 0, .int 0]), .inl (0, 7, .inl (oF 7)), .inl (0, 7, .inl (fun _ => 0))]) dX1_begin_40 fp_X1_25 (fun q => by cases q) rfl (Nat.le_of_ble_eq_true rfl) (fun _ => ⟨rfl, rfl⟩) rfl rfl ?_
      exact AW.ret dX1_begin_43 rfl (by decide) (by decide) ⟨rfl, rfl⟩
    · have hi7 : i < 7 := nle_lit (b := 7) (x := nI i) rfl (by omega) (by omega) h5
      refine AW.aload_n (n := 9) dX1_begin_8 rfl rfl ?_
      refine AW.zg (n := 12) (j := 0) (v := .ref (a + 1)) dX1_begin_9 fl_X1_9 rfl rfl rfl ?_
      refine AW.iload_n (n := 13) dX1_begin_12 rfl rfl ?_
      refine AW.iconst (n := 14) (v := 1) dX1_begin_13 rfl rfl ?_
      refine AW.zia (n := 15) (j := 1) (i := i) (cs' := [.inr (1, [.ref (a + 1), .ref (a + 2), .int 0, .int 0, .int 0]), .inl (0, 7, .inl (oF (i + 1))), .inl (0, 7, .inl (fun _ => 0))]) dX1_begin_14 rfl hi7 (by decide) (by rw [oF_s]; rfl) rfl ?_
      refine AW.aload_n (n := 16) dX1_begin_15 rfl rfl ?_
      refine AW.zg (n := 19) (j := 0) (v := .ref (a + 2)) dX1_begin_16 fl_X1_15 rfl rfl rfl ?_
      refine AW.iload_n (n := 20) dX1_begin_19 rfl rfl ?_
      refine AW.iconst (n := 21) (v := 0) dX1_begin_20 rfl rfl ?_
      refine AW.zia (n := 22) (j := 2) (i := i) (cs' := [.inr (1, [.ref (a + 1), .ref (a + 2), .int 0, .int 0, .int 0]), .inl (0, 7, .inl (oF (i + 1))), .inl (0, 7, .inl (fun _ => 0))]) dX1_begin_21 rfl hi7 (by decide) (by rw [upd_z]; rfl) rfl ?_
      refine AW.iinc (n := 25) (v := nI (i + 1)) (L' := [some (.ref a), some (.int (nI (i + 1)))]) dX1_begin_22 rfl (nI_1 i) (Nat.le_of_ble_eq_true rfl) rfl rfl rfl ?_
      refine AW.goto (t := 2) dX1_begin_25 rfl ?_
      exact ih (i + 1) (by omega) (by omega)
set_option maxHeartbeats 4000000 in
set_option maxRecDepth 100000 in
theorem c_X1_begin0 {h : Nat → aC} {a : Nat} : AC 0 0 0 mX1_begin [.ref a] (zS h a [.inr (1, [.ref (a + 1), .ref (a + 2), .int 0, .int 0, .int 0]), .inl (0, 7, .inl (fun _ => 0)), .inl (0, 7, .inl (fun _ => 0))]) (a_eq none (zS h a (xC1 a))) := by
  refine AC.of (L := [some (.ref a), none]) (j := 1) (by decide) rfl (Nat.le_of_ble_eq_true rfl) ?_
  refine AW.iconst (n := 1) (v := 0) dX1_begin_0 rfl rfl ?_
  refine AW.istore_n (n := 2) (L' := [some (.ref a), some (.int (nI 0))]) dX1_begin_1 (Nat.le_of_ble_eq_true rfl) rfl rfl rfl ?_
  exact l_X1_begin0 8 0 (by omega) (Nat.zero_le _)
set_option maxHeartbeats 4000000 in
set_option maxRecDepth 100000 in
theorem c_X1_init {h : Nat → aC} {a : Nat} : AC 1 2 14 mX1_init [.ref a] (zS h a [.inr (1, [.null, .null, .int 0, .int 0, .int 0])]) (a_eq none (zS h a (xC1 a))) := by
  refine AC.of (L := [some (.ref a)]) (j := 0) (by decide) rfl (Nat.le_of_ble_eq_true rfl) ?_
  refine AW.aload_n (n := 1) dX1_init_0 rfl rfl ?_
  refine AW.objInit (cc := ⟨#[]⟩) (n := 4) dX1_init_1 lj_X1_3 oi_in oi_code (Nat.le_of_ble_eq_true rfl) (by decide) rfl ?_
  refine AW.aload_n (n := 5) dX1_init_4 rfl rfl ?_
  refine AW.bipush (n := 7) (v := 7) dX1_init_5 rfl rfl ?_
  refine AW.zi (n := 9) (t := 0) (N := 7) (j := 1) (ty := .int) dX1_init_7 rfl (fun _ => rfl) rfl (fun _ q => by cases q) ac_int (by decide) rfl (by decide) (by decide) (by decide) rfl rfl ?_
  refine AW.zp (n := 12) (j := 0) (cs' := [.inr (1, [.ref (a + 1), .null, .int 0, .int 0, .int 0]), .inl (0, 7, .inl (fun _ => 0))]) dX1_init_9 fp_X1_9 (fun _ => rfl) rfl (Nat.le_of_ble_eq_true rfl) (fun _ => ⟨rfl, rfl⟩) rfl rfl ?_
  refine AW.aload_n (n := 13) dX1_init_12 rfl rfl ?_
  refine AW.bipush (n := 15) (v := 7) dX1_init_13 rfl rfl ?_
  refine AW.zi (n := 17) (t := 0) (N := 7) (j := 2) (ty := .int) dX1_init_15 rfl (fun _ => rfl) rfl (fun _ q => by cases q) ac_int (by decide) rfl (by decide) (by decide) (by decide) rfl rfl ?_
  refine AW.zp (n := 20) (j := 0) (cs' := [.inr (1, [.ref (a + 1), .ref (a + 2), .int 0, .int 0, .int 0]), .inl (0, 7, .inl (fun _ => 0)), .inl (0, 7, .inl (fun _ => 0))]) dX1_init_17 fp_X1_15 (fun _ => rfl) rfl (Nat.le_of_ble_eq_true rfl) (fun _ => ⟨rfl, rfl⟩) rfl rfl ?_
  refine AW.aload_n (n := 21) dX1_init_20 rfl rfl ?_
  refine AW.iconst (n := 22) (v := 0) dX1_init_21 rfl rfl ?_
  refine AW.zp (n := 25) (j := 0) (cs' := [.inr (1, [.ref (a + 1), .ref (a + 2), .int 0, .int 0, .int 0]), .inl (0, 7, .inl (fun _ => 0)), .inl (0, 7, .inl (fun _ => 0))]) dX1_init_22 fp_X1_18 (fun _ => rfl) rfl (Nat.le_of_ble_eq_true rfl) (fun _ => ⟨rfl, rfl⟩) rfl rfl ?_
  refine AW.aload_n (n := 26) dX1_init_25 rfl rfl ?_
  refine AW.iconst (n := 27) (v := 0) dX1_init_26 rfl rfl ?_
  refine AW.zp (n := 30) (j := 0) (cs' := [.inr (1, [.ref (a + 1), .ref (a + 2), .int 0, .int 0, .int 0]), .inl (0, 7, .inl (fun _ => 0)), .inl (0, 7, .inl (fun _ => 0))]) dX1_init_27 fp_X1_22 (fun _ => rfl) rfl (Nat.le_of_ble_eq_true rfl) (fun _ => ⟨rfl, rfl⟩) rfl rfl ?_
  refine AW.aload_n (n := 31) dX1_init_30 rfl rfl ?_
  refine AW.iconst (n := 32) (v := 0) dX1_init_31 rfl rfl ?_
  refine AW.zp (n := 35) (j := 0) (cs' := [.inr (1, [.ref (a + 1), .ref (a + 2), .int 0, .int 0, .int 0]), .inl (0, 7, .inl (fun _ => 0)), .inl (0, 7, .inl (fun _ => 0))]) dX1_init_32 fp_X1_25 (fun _ => rfl) rfl (Nat.le_of_ble_eq_true rfl) (fun _ => ⟨rfl, rfl⟩) rfl rfl ?_
  refine AW.aload_n (n := 36) dX1_init_35 rfl rfl ?_
  refine AW.callv0 (n := 39) (Mc := mX1_begin) (As := []) (rest := []) (ci := 1) (q := (RX1, TX1, 5)) dX1_init_36 lk_X1_28 k_mX1_begin c_X1_begin0 rfl rfl (Nat.le_of_ble_eq_true rfl) (by decide) (by decide) (by decide) (zS_lt (j := 0) rfl) (zS_at (j := 0) rfl) rfl rfl rfl (fun r σ' hp => ?_)
  obtain ⟨rfl, rfl⟩ := hp
  exact AW.ret dX1_init_39 rfl (by decide) (by decide) ⟨rfl, rfl⟩
set_option maxHeartbeats 4000000 in
set_option maxRecDepth 100000 in
theorem c_X5_init {h : Nat → aC} {a : Nat} : AC 1 2 12 mX5_init [.ref a] (zS h a [.inr (5, [.null, .null, .int 0])]) (a_eq none (zS h a (xC5 a))) := by
  refine AC.of (L := [some (.ref a)]) (j := 0) (by decide) rfl (Nat.le_of_ble_eq_true rfl) ?_
  refine AW.aload_n (n := 1) dX5_init_0 rfl rfl ?_
  refine AW.objInit (cc := ⟨#[]⟩) (n := 4) dX5_init_1 lj_X5_3 oi_in oi_code (Nat.le_of_ble_eq_true rfl) (by decide) rfl ?_
  refine AW.aload_n (n := 5) dX5_init_4 rfl rfl ?_
  refine AW.bipush (n := 7) (v := 6) dX5_init_5 rfl rfl ?_
  refine AW.zi (n := 9) (t := 0) (N := 6) (j := 1) (ty := .int) dX5_init_7 rfl (fun _ => rfl) rfl (fun _ q => by cases q) ac_int (by decide) rfl (by decide) (by decide) (by decide) rfl rfl ?_
  refine AW.zp (n := 12) (j := 0) (cs' := [.inr (5, [.ref (a + 1), .null, .int 0]), .inl (0, 6, .inl (fun _ => 0))]) dX5_init_9 fp_X5_9 (fun _ => rfl) rfl (Nat.le_of_ble_eq_true rfl) (fun _ => ⟨rfl, rfl⟩) rfl rfl ?_
  refine AW.aload_n (n := 13) dX5_init_12 rfl rfl ?_
  refine AW.bipush (n := 15) (v := 6) dX5_init_13 rfl rfl ?_
  refine AW.zi (n := 17) (t := 1) (N := 6) (j := 2) (ty := .boolean) dX5_init_15 rfl (fun _ => rfl) rfl (fun _ q => by cases q) ac_boolean (by decide) rfl (by decide) (by decide) (by decide) rfl rfl ?_
  refine AW.zp (n := 20) (j := 0) (cs' := [.inr (5, [.ref (a + 1), .ref (a + 2), .int 0]), .inl (0, 6, .inl (fun _ => 0)), .inl (1, 6, .inl (fun _ => 0))]) dX5_init_17 fp_X5_15 (fun _ => rfl) rfl (Nat.le_of_ble_eq_true rfl) (fun _ => ⟨rfl, rfl⟩) rfl rfl ?_
  refine AW.aload_n (n := 21) dX5_init_20 rfl rfl ?_
  refine AW.iconst (n := 22) (v := 0) dX5_init_21 rfl rfl ?_
  refine AW.zp (n := 25) (j := 0) (cs' := [.inr (5, [.ref (a + 1), .ref (a + 2), .int 0]), .inl (0, 6, .inl (fun _ => 0)), .inl (1, 6, .inl (fun _ => 0))]) dX5_init_22 fp_X5_19 (fun _ => rfl) rfl (Nat.le_of_ble_eq_true rfl) (fun _ => ⟨rfl, rfl⟩) rfl rfl ?_
  exact AW.ret dX5_init_25 rfl (by decide) (by decide) ⟨rfl, rfl⟩
set_option maxHeartbeats 4000000 in
set_option maxRecDepth 100000 in
theorem c_X0_init {h : Nat → aC} {a : Nat} : AC 1 2 40 mX0_init [.ref a] (zS h a [.inr (0, [.null, .null, .int 0])]) (a_eq none (zS h a (xC0 a))) := by
  refine AC.of (L := [some (.ref a)]) (j := 0) (by decide) rfl (Nat.le_of_ble_eq_true rfl) ?_
  refine AW.aload_n (n := 1) dX0_init_0 rfl rfl ?_
  refine AW.objInit (cc := ⟨#[]⟩) (n := 4) dX0_init_1 lj_X0_3 oi_in oi_code (Nat.le_of_ble_eq_true rfl) (by decide) rfl ?_
  refine AW.aload_n (n := 5) dX0_init_4 rfl rfl ?_
  refine AW.bipush (n := 7) (v := 20) dX0_init_5 rfl rfl ?_
  refine AW.zi (n := 9) (t := 0) (N := 20) (j := 1) (ty := .int) dX0_init_7 rfl (fun _ => rfl) rfl (fun _ q => by cases q) ac_int (by decide) rfl (by decide) (by decide) (by decide) rfl rfl ?_
  refine AW.zp (n := 12) (j := 0) (cs' := [.inr (0, [.ref (a + 1), .null, .int 0]), .inl (0, 20, .inl (fun _ => 0))]) dX0_init_9 fp_X0_9 (fun _ => rfl) rfl (Nat.le_of_ble_eq_true rfl) (fun _ => ⟨rfl, rfl⟩) rfl rfl ?_
  refine AW.aload_n (n := 13) dX0_init_12 rfl rfl ?_
  refine AW.bipush (n := 15) (v := 20) dX0_init_13 rfl rfl ?_
  refine AW.zi (n := 17) (t := 0) (N := 20) (j := 2) (ty := .int) dX0_init_15 rfl (fun _ => rfl) rfl (fun _ q => by cases q) ac_int (by decide) rfl (by decide) (by decide) (by decide) rfl rfl ?_
  refine AW.zp (n := 20) (j := 0) (cs' := [.inr (0, [.ref (a + 1), .ref (a + 2), .int 0]), .inl (0, 20, .inl (fun _ => 0)), .inl (0, 20, .inl (fun _ => 0))]) dX0_init_17 fp_X0_15 (fun _ => rfl) rfl (Nat.le_of_ble_eq_true rfl) (fun _ => ⟨rfl, rfl⟩) rfl rfl ?_
  refine AW.aload_n (n := 21) dX0_init_20 rfl rfl ?_
  refine AW.iconst (n := 22) (v := 0) dX0_init_21 rfl rfl ?_
  refine AW.zp (n := 25) (j := 0) (cs' := [.inr (0, [.ref (a + 1), .ref (a + 2), .int 0]), .inl (0, 20, .inl (fun _ => 0)), .inl (0, 20, .inl (fun _ => 0))]) dX0_init_22 fp_X0_18 (fun _ => rfl) rfl (Nat.le_of_ble_eq_true rfl) (fun _ => ⟨rfl, rfl⟩) rfl rfl ?_
  exact AW.ret dX0_init_25 rfl (by decide) (by decide) ⟨rfl, rfl⟩
set_option maxHeartbeats 4000000 in
set_option maxRecDepth 100000 in
theorem c_X7_init {h : Nat → aC} {a : Nat} : AC 1 1 240 mX7_init [.ref a] (zS h a [.inr (7, [.null, .int 0, .int 0, .int 0, .int 0, .int 0])]) (a_eq none (zS h a (xC7 a))) := by
  refine AC.of (L := [some (.ref a)]) (j := 0) (by decide) rfl (Nat.le_of_ble_eq_true rfl) ?_
  refine AW.aload_n (n := 1) dX7_init_0 rfl rfl ?_
  refine AW.objInit (cc := ⟨#[]⟩) (n := 4) dX7_init_1 lj_X7_3 oi_in oi_code (Nat.le_of_ble_eq_true rfl) (by decide) rfl ?_
  refine AW.aload_n (n := 5) dX7_init_4 rfl rfl ?_
  refine AW.sipush (n := 8) (v := 240) dX7_init_5 rfl rfl ?_
  refine AW.zi (n := 10) (t := 0) (N := 240) (j := 1) (ty := .int) dX7_init_8 rfl (fun _ => rfl) rfl (fun _ q => by cases q) ac_int (by decide) rfl (by decide) (by decide) (by decide) rfl rfl ?_
  refine AW.zp (n := 13) (j := 0) (cs' := [.inr (7, [.ref (a + 1), .int 0, .int 0, .int 0, .int 0, .int 0]), .inl (0, 240, .inl (fun _ => 0))]) dX7_init_10 fp_X7_9 (fun _ => rfl) rfl (Nat.le_of_ble_eq_true rfl) (fun _ => ⟨rfl, rfl⟩) rfl rfl ?_
  refine AW.aload_n (n := 14) dX7_init_13 rfl rfl ?_
  refine AW.iconst (n := 15) (v := 0) dX7_init_14 rfl rfl ?_
  refine AW.zp (n := 18) (j := 0) (cs' := [.inr (7, [.ref (a + 1), .int 0, .int 0, .int 0, .int 0, .int 0]), .inl (0, 240, .inl (fun _ => 0))]) dX7_init_15 fp_X7_15 (fun _ => rfl) rfl (Nat.le_of_ble_eq_true rfl) (fun _ => ⟨rfl, rfl⟩) rfl rfl ?_
  refine AW.aload_n (n := 19) dX7_init_18 rfl rfl ?_
  refine AW.iconst (n := 20) (v := 0) dX7_init_19 rfl rfl ?_
  refine AW.zp (n := 23) (j := 0) (cs' := [.inr (7, [.ref (a + 1), .int 0, .int 0, .int 0, .int 0, .int 0]), .inl (0, 240, .inl (fun _ => 0))]) dX7_init_20 fp_X7_19 (fun _ => rfl) rfl (Nat.le_of_ble_eq_true rfl) (fun _ => ⟨rfl, rfl⟩) rfl rfl ?_
  refine AW.aload_n (n := 24) dX7_init_23 rfl rfl ?_
  refine AW.iconst (n := 25) (v := -1) dX7_init_24 rfl rfl ?_
  refine AW.zp (n := 28) (j := 0) (cs' := [.inr (7, [.ref (a + 1), .int 0, .int 0, .int (-1), .int 0, .int 0]), .inl (0, 240, .inl (fun _ => 0))]) dX7_init_25 fp_X7_22 (fun _ => rfl) rfl (Nat.le_of_ble_eq_true rfl) (fun _ => ⟨rfl, rfl⟩) rfl rfl ?_
  refine AW.aload_n (n := 29) dX7_init_28 rfl rfl ?_
  refine AW.iconst (n := 30) (v := 0) dX7_init_29 rfl rfl ?_
  refine AW.zp (n := 33) (j := 0) (cs' := [.inr (7, [.ref (a + 1), .int 0, .int 0, .int (-1), .int 0, .int 0]), .inl (0, 240, .inl (fun _ => 0))]) dX7_init_30 fp_X7_25 (fun _ => rfl) rfl (Nat.le_of_ble_eq_true rfl) (fun _ => ⟨rfl, rfl⟩) rfl rfl ?_
  refine AW.aload_n (n := 34) dX7_init_33 rfl rfl ?_
  refine AW.iconst (n := 35) (v := 0) dX7_init_34 rfl rfl ?_
  refine AW.zp (n := 38) (j := 0) (cs' := [.inr (7, [.ref (a + 1), .int 0, .int 0, .int (-1), .int 0, .int 0]), .inl (0, 240, .inl (fun _ => 0))]) dX7_init_35 fp_X7_28 (fun _ => rfl) rfl (Nat.le_of_ble_eq_true rfl) (fun _ => ⟨rfl, rfl⟩) rfl rfl ?_
  exact AW.ret dX7_init_38 rfl (by decide) (by decide) ⟨rfl, rfl⟩
set_option maxHeartbeats 4000000 in
set_option maxRecDepth 100000 in
theorem c_X6_init {h : Nat → aC} {a : Nat} : AC 1 6 47 mX6_init [.ref a] (zS h a [.inr (6, [.int 0, .int 0, .int 0, .int 0, .int 0, .null, .null, .null, .null, .null, .null])]) (a_eq none (zS h a (xC6 a))) := by
  refine AC.of (L := [some (.ref a)]) (j := 0) (by decide) rfl (Nat.le_of_ble_eq_true rfl) ?_
  refine AW.aload_n (n := 1) dX6_init_0 rfl rfl ?_
  refine AW.objInit (cc := ⟨#[]⟩) (n := 4) dX6_init_1 lj_X6_3 oi_in oi_code (Nat.le_of_ble_eq_true rfl) (by decide) rfl ?_
  refine AW.aload_n (n := 5) dX6_init_4 rfl rfl ?_
  refine AW.iconst (n := 6) (v := 0) dX6_init_5 rfl rfl ?_
  refine AW.zp (n := 9) (j := 0) (cs' := [.inr (6, [.int 0, .int 0, .int 0, .int 0, .int 0, .null, .null, .null, .null, .null, .null])]) dX6_init_6 fp_X6_9 (fun _ => rfl) rfl (Nat.le_of_ble_eq_true rfl) (fun _ => ⟨rfl, rfl⟩) rfl rfl ?_
  refine AW.aload_n (n := 10) dX6_init_9 rfl rfl ?_
  refine AW.iconst (n := 11) (v := 0) dX6_init_10 rfl rfl ?_
  refine AW.zp (n := 14) (j := 0) (cs' := [.inr (6, [.int 0, .int 0, .int 0, .int 0, .int 0, .null, .null, .null, .null, .null, .null])]) dX6_init_11 fp_X6_15 (fun _ => rfl) rfl (Nat.le_of_ble_eq_true rfl) (fun _ => ⟨rfl, rfl⟩) rfl rfl ?_
  refine AW.aload_n (n := 15) dX6_init_14 rfl rfl ?_
  refine AW.iconst (n := 16) (v := 0) dX6_init_15 rfl rfl ?_
  refine AW.zp (n := 19) (j := 0) (cs' := [.inr (6, [.int 0, .int 0, .int 0, .int 0, .int 0, .null, .null, .null, .null, .null, .null])]) dX6_init_16 fp_X6_18 (fun _ => rfl) rfl (Nat.le_of_ble_eq_true rfl) (fun _ => ⟨rfl, rfl⟩) rfl rfl ?_
  refine AW.aload_n (n := 20) dX6_init_19 rfl rfl ?_
  refine AW.iconst (n := 21) (v := 0) dX6_init_20 rfl rfl ?_
  refine AW.zp (n := 24) (j := 0) (cs' := [.inr (6, [.int 0, .int 0, .int 0, .int 0, .int 0, .null, .null, .null, .null, .null, .null])]) dX6_init_21 fp_X6_21 (fun _ => rfl) rfl (Nat.le_of_ble_eq_true rfl) (fun _ => ⟨rfl, rfl⟩) rfl rfl ?_
  refine AW.aload_n (n := 25) dX6_init_24 rfl rfl ?_
  refine AW.iconst (n := 26) (v := 0) dX6_init_25 rfl rfl ?_
  refine AW.zp (n := 29) (j := 0) (cs' := [.inr (6, [.int 0, .int 0, .int 0, .int 0, .int 0, .null, .null, .null, .null, .null, .null])]) dX6_init_26 fp_X6_24 (fun _ => rfl) rfl (Nat.le_of_ble_eq_true rfl) (fun _ => ⟨rfl, rfl⟩) rfl rfl ?_
  refine AW.aload_n (n := 30) dX6_init_29 rfl rfl ?_
  refine AW.bipush (n := 32) (v := 7) dX6_init_30 rfl rfl ?_
  refine AW.zi (n := 34) (t := 0) (N := 7) (j := 1) (ty := .int) dX6_init_32 rfl (fun _ => rfl) rfl (fun _ q => by cases q) ac_int (by decide) rfl (by decide) (by decide) (by decide) rfl rfl ?_
  refine AW.zp (n := 37) (j := 0) (cs' := [.inr (6, [.int 0, .int 0, .int 0, .int 0, .int 0, .ref (a + 1), .null, .null, .null, .null, .null]), .inl (0, 7, .inl (fun _ => 0))]) dX6_init_34 fp_X6_27 (fun _ => rfl) rfl (Nat.le_of_ble_eq_true rfl) (fun _ => ⟨rfl, rfl⟩) rfl rfl ?_
  refine AW.aload_n (n := 38) dX6_init_37 rfl rfl ?_
  refine AW.bipush (n := 40) (v := 7) dX6_init_38 rfl rfl ?_
  refine AW.zi (n := 42) (t := 0) (N := 7) (j := 2) (ty := .int) dX6_init_40 rfl (fun _ => rfl) rfl (fun _ q => by cases q) ac_int (by decide) rfl (by decide) (by decide) (by decide) rfl rfl ?_
  refine AW.zp (n := 45) (j := 0) (cs' := [.inr (6, [.int 0, .int 0, .int 0, .int 0, .int 0, .ref (a + 1), .ref (a + 2), .null, .null, .null, .null]), .inl (0, 7, .inl (fun _ => 0)), .inl (0, 7, .inl (fun _ => 0))]) dX6_init_42 fp_X6_31 (fun _ => rfl) rfl (Nat.le_of_ble_eq_true rfl) (fun _ => ⟨rfl, rfl⟩) rfl rfl ?_
  refine AW.aload_n (n := 46) dX6_init_45 rfl rfl ?_
  refine AW.bipush (n := 48) (v := 7) dX6_init_46 rfl rfl ?_
  refine AW.zi (n := 50) (t := 0) (N := 7) (j := 3) (ty := .int) dX6_init_48 rfl (fun _ => rfl) rfl (fun _ q => by cases q) ac_int (by decide) rfl (by decide) (by decide) (by decide) rfl rfl ?_
  refine AW.zp (n := 53) (j := 0) (cs' := [.inr (6, [.int 0, .int 0, .int 0, .int 0, .int 0, .ref (a + 1), .ref (a + 2), .ref (a + 3), .null, .null, .null]), .inl (0, 7, .inl (fun _ => 0)), .inl (0, 7, .inl (fun _ => 0)), .inl (0, 7, .inl (fun _ => 0))]) dX6_init_50 fp_X6_34 (fun _ => rfl) rfl (Nat.le_of_ble_eq_true rfl) (fun _ => ⟨rfl, rfl⟩) rfl rfl ?_
  refine AW.aload_n (n := 54) dX6_init_53 rfl rfl ?_
  refine AW.bipush (n := 56) (v := 7) dX6_init_54 rfl rfl ?_
  refine AW.zi (n := 58) (t := 0) (N := 7) (j := 4) (ty := .int) dX6_init_56 rfl (fun _ => rfl) rfl (fun _ q => by cases q) ac_int (by decide) rfl (by decide) (by decide) (by decide) rfl rfl ?_
  refine AW.zp (n := 61) (j := 0) (cs' := [.inr (6, [.int 0, .int 0, .int 0, .int 0, .int 0, .ref (a + 1), .ref (a + 2), .ref (a + 3), .ref (a + 4), .null, .null]), .inl (0, 7, .inl (fun _ => 0)), .inl (0, 7, .inl (fun _ => 0)), .inl (0, 7, .inl (fun _ => 0)), .inl (0, 7, .inl (fun _ => 0))]) dX6_init_58 fp_X6_37 (fun _ => rfl) rfl (Nat.le_of_ble_eq_true rfl) (fun _ => ⟨rfl, rfl⟩) rfl rfl ?_
  refine AW.aload_n (n := 62) dX6_init_61 rfl rfl ?_
  refine AW.bipush (n := 64) (v := 7) dX6_init_62 rfl rfl ?_
  refine AW.zi (n := 66) (t := 0) (N := 7) (j := 5) (ty := .int) dX6_init_64 rfl (fun _ => rfl) rfl (fun _ q => by cases q) ac_int (by decide) rfl (by decide) (by decide) (by decide) rfl rfl ?_
  refine AW.zp (n := 69) (j := 0) (cs' := [.inr (6, [.int 0, .int 0, .int 0, .int 0, .int 0, .ref (a + 1), .ref (a + 2), .ref (a + 3), .ref (a + 4), .ref (a + 5), .null]), .inl (0, 7, .inl (fun _ => 0)), .inl (0, 7, .inl (fun _ => 0)), .inl (0, 7, .inl (fun _ => 0)), .inl (0, 7, .inl (fun _ => 0)), .inl (0, 7, .inl (fun _ => 0))]) dX6_init_66 fp_X6_40 (fun _ => rfl) rfl (Nat.le_of_ble_eq_true rfl) (fun _ => ⟨rfl, rfl⟩) rfl rfl ?_
  refine AW.aload_n (n := 70) dX6_init_69 rfl rfl ?_
  refine AW.bipush (n := 72) (v := 12) dX6_init_70 rfl rfl ?_
  refine AW.zi (n := 74) (t := 0) (N := 12) (j := 6) (ty := .int) dX6_init_72 rfl (fun _ => rfl) rfl (fun _ q => by cases q) ac_int (by decide) rfl (by decide) (by decide) (by decide) rfl rfl ?_
  refine AW.zp (n := 77) (j := 0) (cs' := [.inr (6, [.int 0, .int 0, .int 0, .int 0, .int 0, .ref (a + 1), .ref (a + 2), .ref (a + 3), .ref (a + 4), .ref (a + 5), .ref (a + 6)]), .inl (0, 7, .inl (fun _ => 0)), .inl (0, 7, .inl (fun _ => 0)), .inl (0, 7, .inl (fun _ => 0)), .inl (0, 7, .inl (fun _ => 0)), .inl (0, 7, .inl (fun _ => 0)), .inl (0, 12, .inl (fun _ => 0))]) dX6_init_74 fp_X6_43 (fun _ => rfl) rfl (Nat.le_of_ble_eq_true rfl) (fun _ => ⟨rfl, rfl⟩) rfl rfl ?_
  exact AW.ret dX6_init_77 rfl (by decide) (by decide) ⟨rfl, rfl⟩
set_option maxHeartbeats 4000000 in
set_option maxRecDepth 100000 in
theorem c_X8_init {h : Nat → aC} {a : Nat} : AC 2 4 26 mX8_init [.ref a] (zS h a [.inr (8, [.null, .null, .int 0, .int 0, .int 0, .int 0, .int 0, .int 0])]) (a_eq none (zS h a (xC8 a))) := by
  refine AC.of (L := [some (.ref a)]) (j := 0) (by decide) rfl (Nat.le_of_ble_eq_true rfl) ?_
  refine AW.aload_n (n := 1) dX8_init_0 rfl rfl ?_
  refine AW.objInit (cc := ⟨#[]⟩) (n := 4) dX8_init_1 lj_X8_3 oi_in oi_code (Nat.le_of_ble_eq_true rfl) (by decide) rfl ?_
  refine AW.aload_n (n := 5) dX8_init_4 rfl rfl ?_
  refine AW.zn (n := 8) (ci := 1) (q := (RX1, TX1, 5)) (fs := [.null, .null, .int 0, .int 0, .int 0]) (j := 1) dX8_init_5 rfl cl_X8_9 ins_X1 ini_X1 df_X1 rfl (by decide) (by decide) rfl rfl ?_
  refine AW.dup (n := 9) dX8_init_8 rfl rfl ?_
  refine AW.zc (n := 12) (Mc := mX1_init) (cs := [.inr (8, [.null, .null, .int 0, .int 0, .int 0, .int 0, .int 0, .int 0])]) (j := 1) (ds := xC1 (a + 1)) dX8_init_9 lk_X8_11 k_mX1_init rfl (fun H => c_X1_init) (Nat.le_of_ble_eq_true rfl) (by decide) (by decide) (by decide) rfl ?_
  refine AW.zp (n := 15) (j := 0) (cs' := .inr (8, [.ref (a + 1), .null, .int 0, .int 0, .int 0, .int 0, .int 0, .int 0]) :: (xC1 (a + 1))) dX8_init_12 fp_X8_12 (fun _ => rfl) rfl (Nat.le_of_ble_eq_true rfl) (fun _ => ⟨rfl, rfl⟩) rfl rfl ?_
  refine AW.aload_n (n := 16) dX8_init_15 rfl rfl ?_
  refine AW.bipush (n := 18) (v := 7) dX8_init_16 rfl rfl ?_
  refine AW.zi (n := 20) (t := 0) (N := 7) (j := 4) (ty := .int) dX8_init_18 rfl (fun _ => rfl) rfl (fun _ q => by cases q) ac_int (by decide) rfl (by decide) (by decide) (by decide) rfl rfl ?_
  refine AW.zp (n := 23) (j := 0) (cs' := .inr (8, [.ref (a + 1), .ref (a + 4), .int 0, .int 0, .int 0, .int 0, .int 0, .int 0]) :: (xC1 (a + 1) ++ [.inl (0, 7, .inl (fun _ => 0))])) dX8_init_20 fp_X8_18 (fun _ => rfl) rfl (Nat.le_of_ble_eq_true rfl) (fun _ => ⟨rfl, rfl⟩) rfl rfl ?_
  refine AW.aload_n (n := 24) dX8_init_23 rfl rfl ?_
  refine AW.iconst (n := 25) (v := 0) dX8_init_24 rfl rfl ?_
  refine AW.zp (n := 28) (j := 0) (cs' := .inr (8, [.ref (a + 1), .ref (a + 4), .int 0, .int 0, .int 0, .int 0, .int 0, .int 0]) :: (xC1 (a + 1) ++ [.inl (0, 7, .inl (fun _ => 0))])) dX8_init_25 fp_X8_22 (fun _ => rfl) rfl (Nat.le_of_ble_eq_true rfl) (fun _ => ⟨rfl, rfl⟩) rfl rfl ?_
  refine AW.aload_n (n := 29) dX8_init_28 rfl rfl ?_
  refine AW.iconst (n := 30) (v := 0) dX8_init_29 rfl rfl ?_
  refine AW.zp (n := 33) (j := 0) (cs' := .inr (8, [.ref (a + 1), .ref (a + 4), .int 0, .int 0, .int 0, .int 0, .int 0, .int 0]) :: (xC1 (a + 1) ++ [.inl (0, 7, .inl (fun _ => 0))])) dX8_init_30 fp_X8_26 (fun _ => rfl) rfl (Nat.le_of_ble_eq_true rfl) (fun _ => ⟨rfl, rfl⟩) rfl rfl ?_
  refine AW.aload_n (n := 34) dX8_init_33 rfl rfl ?_
  refine AW.iconst (n := 35) (v := 0) dX8_init_34 rfl rfl ?_
  refine AW.zp (n := 38) (j := 0) (cs' := .inr (8, [.ref (a + 1), .ref (a + 4), .int 0, .int 0, .int 0, .int 0, .int 0, .int 0]) :: (xC1 (a + 1) ++ [.inl (0, 7, .inl (fun _ => 0))])) dX8_init_35 fp_X8_29 (fun _ => rfl) rfl (Nat.le_of_ble_eq_true rfl) (fun _ => ⟨rfl, rfl⟩) rfl rfl ?_
  refine AW.aload_n (n := 39) dX8_init_38 rfl rfl ?_
  refine AW.iconst (n := 40) (v := 0) dX8_init_39 rfl rfl ?_
  refine AW.zp (n := 43) (j := 0) (cs' := .inr (8, [.ref (a + 1), .ref (a + 4), .int 0, .int 0, .int 0, .int 0, .int 0, .int 0]) :: (xC1 (a + 1) ++ [.inl (0, 7, .inl (fun _ => 0))])) dX8_init_40 fp_X8_32 (fun _ => rfl) rfl (Nat.le_of_ble_eq_true rfl) (fun _ => ⟨rfl, rfl⟩) rfl rfl ?_
  refine AW.aload_n (n := 44) dX8_init_43 rfl rfl ?_
  refine AW.iconst (n := 45) (v := 0) dX8_init_44 rfl rfl ?_
  refine AW.zp (n := 48) (j := 0) (cs' := .inr (8, [.ref (a + 1), .ref (a + 4), .int 0, .int 0, .int 0, .int 0, .int 0, .int 0]) :: (xC1 (a + 1) ++ [.inl (0, 7, .inl (fun _ => 0))])) dX8_init_45 fp_X8_35 (fun _ => rfl) rfl (Nat.le_of_ble_eq_true rfl) (fun _ => ⟨rfl, rfl⟩) rfl rfl ?_
  refine AW.aload_n (n := 49) dX8_init_48 rfl rfl ?_
  refine AW.iconst (n := 50) (v := 0) dX8_init_49 rfl rfl ?_
  refine AW.zp (n := 53) (j := 0) (cs' := .inr (8, [.ref (a + 1), .ref (a + 4), .int 0, .int 0, .int 0, .int 0, .int 0, .int 0]) :: (xC1 (a + 1) ++ [.inl (0, 7, .inl (fun _ => 0))])) dX8_init_50 fp_X8_38 (fun _ => rfl) rfl (Nat.le_of_ble_eq_true rfl) (fun _ => ⟨rfl, rfl⟩) rfl rfl ?_
  exact AW.ret dX8_init_53 rfl (by decide) (by decide) ⟨rfl, rfl⟩
set_option maxHeartbeats 4000000 in
set_option maxRecDepth 100000 in
theorem c_X2_init {h : Nat → aC} {a : Nat} : AC 2 3 19 mX2_init [.ref a] (zS h a [.inr (2, [.null, .int 0, .int 0])]) (a_eq none (zS h a (xC2 a))) := by
  refine AC.of (L := [some (.ref a)]) (j := 0) (by decide) rfl (Nat.le_of_ble_eq_true rfl) ?_
  refine AW.aload_n (n := 1) dX2_init_0 rfl rfl ?_
  refine AW.objInit (cc := ⟨#[]⟩) (n := 4) dX2_init_1 lj_X2_1 oi_in oi_code (Nat.le_of_ble_eq_true rfl) (by decide) rfl ?_
  refine AW.aload_n (n := 5) dX2_init_4 rfl rfl ?_
  refine AW.zn (n := 8) (ci := 1) (q := (RX1, TX1, 5)) (fs := [.null, .null, .int 0, .int 0, .int 0]) (j := 1) dX2_init_5 rfl cl_X2_7 ins_X1 ini_X1 df_X1 rfl (by decide) (by decide) rfl rfl ?_
  refine AW.dup (n := 9) dX2_init_8 rfl rfl ?_
  refine AW.zc (n := 12) (Mc := mX1_init) (cs := [.inr (2, [.null, .int 0, .int 0])]) (j := 1) (ds := xC1 (a + 1)) dX2_init_9 lk_X2_9 k_mX1_init rfl (fun H => c_X1_init) (Nat.le_of_ble_eq_true rfl) (by decide) (by decide) (by decide) rfl ?_
  refine AW.zp (n := 15) (j := 0) (cs' := .inr (2, [.ref (a + 1), .int 0, .int 0]) :: (xC1 (a + 1))) dX2_init_12 fp_X2_10 (fun _ => rfl) rfl (Nat.le_of_ble_eq_true rfl) (fun _ => ⟨rfl, rfl⟩) rfl rfl ?_
  refine AW.aload_n (n := 16) dX2_init_15 rfl rfl ?_
  refine AW.iconst (n := 17) (v := 0) dX2_init_16 rfl rfl ?_
  refine AW.zp (n := 20) (j := 0) (cs' := .inr (2, [.ref (a + 1), .int 0, .int 0]) :: (xC1 (a + 1))) dX2_init_17 fp_X2_16 (fun _ => rfl) rfl (Nat.le_of_ble_eq_true rfl) (fun _ => ⟨rfl, rfl⟩) rfl rfl ?_
  refine AW.aload_n (n := 21) dX2_init_20 rfl rfl ?_
  refine AW.iconst (n := 22) (v := 0) dX2_init_21 rfl rfl ?_
  refine AW.zp (n := 25) (j := 0) (cs' := .inr (2, [.ref (a + 1), .int 0, .int 0]) :: (xC1 (a + 1))) dX2_init_22 fp_X2_20 (fun _ => rfl) rfl (Nat.le_of_ble_eq_true rfl) (fun _ => ⟨rfl, rfl⟩) rfl rfl ?_
  exact AW.ret dX2_init_25 rfl (by decide) (by decide) ⟨rfl, rfl⟩
