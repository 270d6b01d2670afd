def dl (b : Nat) : Nat → List aC
  | 0 => []
  | i + 1 => dl b i ++ xC1 (b + 3 * i)
theorem dl_len (b : Nat) : ∀ i, (dl b i).length = 3 * i := by
  intro i
  induction i with
  | zero => rfl
  | succ i ih => rw [dl, List.length_append, ih]; show 3 * i + 3 = _; omega
def pf (b i : Nat) : Nat → Option Nat := fun j => if j < i then some (b + 3 * j) else none
theorem pf_s (b i : Nat) : va_up (pf b i) i (some (b + 3 * i)) = pf b (i + 1) := by
  funext j
  unfold va_up pf
  by_cases e : j = i
  · subst e; rw [if_pos rfl, if_pos (by omega)]
  · rw [if_neg e]
    by_cases e2 : j < i
    · rw [if_pos e2, if_pos (by omega)]
    · rw [if_neg e2, if_neg (by omega)]
def pPo (a : Nat) : aC := .inr (3, [.ref (a + 1), .int 0, .int 0])
def pPa (a i : Nat) : aC := .inl (2, 30, .inr (.inr (.inr (.inr (pf (a + 2) i)))))
def xC3 (a : Nat) : List aC := pPo a :: pPa a 30 :: dl (a + 2) 30
theorem xC3_len (a : Nat) : (xC3 a).length = 92 := by show (dl (a + 2) 30).length + 1 + 1 = 92; rw [dl_len]
theorem mid_at {X Y : List aC} {c : aC} {j : Nat} (h : X.length = j) : ((X ++ [c]) ++ Y)[j]? = some c := by
  subst h
  rw [List.append_assoc, List.getElem?_append_right (Nat.le_refl _), Nat.sub_self]; rfl
theorem mid_set {X Y : List aC} {c c' : aC} {j : Nat} (h : X.length = j) : ((X ++ [c]) ++ Y).set j c' = (X ++ [c']) ++ Y := by
  subst h
  rw [List.append_assoc, List.append_assoc, List.set_append_right _ _ (Nat.le_refl _), Nat.sub_self]; rfl
theorem end_at {X Y : List aC} {c : aC} {j : Nat} (h : X.length = j) : (X ++ (c :: Y))[j]? = some c := by
  subst h
  rw [List.getElem?_append_right (Nat.le_refl _), Nat.sub_self]; rfl
set_option maxHeartbeats 4000000 in
set_option maxRecDepth 100000 in
theorem l_X3_init {h : Nat → aC} {a : Nat} : ∀ (m i : Nat), 30 - i < m → i ≤ 30 → AW none 2 91 600 mX3_init (1 + 3 * i) (30 + 19 * i) 25 [some (.ref a), some (.int (nI i))] [] (zS h a (pPo a :: pPa a i :: dl (a + 2) i)) (a_eq none (zS h a (xC3 a))) := by
  intro m
  induction m with
  | zero => intro i hm; exact absurd hm (Nat.not_lt_zero _)
  | succ m ih =>
    intro i hm hi
    refine AW.iload_n (n := 26) dX3_init_25 rfl rfl ?_
    refine AW.bipush (n := 28) (v := 30) dX3_init_26 rfl rfl ?_
    refine AW.icmp_ge (n := 31) (t := 50) dX3_init_28 rfl rfl (fun h5 => ?_) (fun h5 => ?_)
    · have hi7 : i = 30 := by have := le_lit (b := 30) (x := nI i) rfl (by omega) (by omega) h5; omega
      subst hi7
      exact AW.ret dX3_init_50 rfl (by decide) (by decide) ⟨rfl, rfl⟩
    · have hi7 : i < 30 := nle_lit (b := 30) (x := nI i) rfl (by omega) (by omega) h5
      have hlen : (pPo a :: pPa a i :: dl (a + 2) i : List aC).length = 2 + 3 * i := by show (dl (a + 2) i).length + 1 + 1 = _; rw [dl_len]; omega
      have ea : a + (2 + 3 * i) = a + 2 + 3 * i := by omega
      refine AW.aload_n (n := 32) dX3_init_31 rfl rfl ?_
      refine AW.zg (n := 35) (j := 0) (v := .ref (a + 1)) dX3_init_32 fl_X3_11 rfl rfl rfl ?_
      refine AW.iload_n (n := 36) dX3_init_35 rfl rfl ?_
      refine AW.zn (n := 39) (ci := 1) (q := (RX1, TX1, 5)) (fs := [.null, .null, .int 0, .int 0, .int 0]) (j := 2 + 3 * i) dX3_init_36 rfl cl_X3_9 ins_X1 ini_X1 df_X1 rfl (by omega) (by show 30 + 19 * i + 5 ≤ 600; omega) rfl hlen ?_
      refine AW.dup (n := 40) dX3_init_39 rfl rfl ?_
      refine AW.zc (n := 43) (Mc := mX1_init) (cs := pPo a :: pPa a i :: dl (a + 2) i) (j := 2 + 3 * i) (ds := xC1 (a + (2 + 3 * i))) dX3_init_40 lk_X3_24 k_mX1_init hlen (fun H => c_X1_init) (Nat.le_of_ble_eq_true rfl) (by decide) (by omega) (by show 30 + 19 * i + 5 + 14 ≤ 600; omega) rfl ?_
      refine AW.zaa (n := 44) (j := 1) (b := 2 + 3 * i) (i := i) (ci := 1) (q := (RX1, TX1, 5)) (cs' := pPo a :: pPa a (i + 1) :: dl (a + 2) (i + 1)) dX3_init_43 rfl (end_at hlen) rfl (fun _ => rfl) hi7 (by decide) ?_ rfl ?_
      · rw [ea, pf_s]; rfl
      refine AW.iinc (n := 47) (v := nI (i + 1)) (L' := [some (.ref a), some (.int (nI (i + 1)))]) dX3_init_44 rfl (nI_1 i) (Nat.le_of_ble_eq_true rfl) rfl rfl rfl ?_
      refine AW.goto (t := 25) dX3_init_47 rfl ?_
      have q := ih (i + 1) (by omega) (by omega)
      rw [show 1 + 3 * (i + 1) = 1 + 3 * i + 1 + 2 by omega, show 30 + 19 * (i + 1) = 30 + 19 * i + 5 + 14 by omega] at q
      exact q
set_option maxHeartbeats 4000000 in
set_option maxRecDepth 100000 in
theorem c_X3_init {h : Nat → aC} {a : Nat} : AC 2 91 600 mX3_init [.ref a] (zS h a [.inr (3, [.null, .int 0, .int 0])]) (a_eq none (zS h a (xC3 a))) := by
  refine AC.of (L := [some (.ref a), none]) (j := 1) (by decide) rfl (Nat.le_of_ble_eq_true rfl) ?_
  refine AW.aload_n (n := 1) dX3_init_0 rfl rfl ?_
  refine AW.objInit (cc := ⟨#[]⟩) (n := 4) dX3_init_1 lj_X3_3 oi_in oi_code (Nat.le_of_ble_eq_true rfl) (by decide) rfl ?_
  refine AW.aload_n (n := 5) dX3_init_4 rfl rfl ?_
  refine AW.bipush (n := 7) (v := 30) dX3_init_5 rfl rfl ?_
  refine AW.zq (n := 10) (t := 2) (N := 30) (j := 1) dX3_init_7 cl_X3_9 (fun _ => rfl) (fun _ _ q => q.2.2.1) (by decide) rfl (by decide) (by decide) (by decide) rfl rfl ?_
  refine AW.zp (n := 13) (j := 0) (cs' := [.inr (3, [.ref (a + 1), .int 0, .int 0]), .inl (2, 30, .inr (.inr (.inr (.inr (fun _ => none)))))]) dX3_init_10 fp_X3_11 (fun _ => rfl) rfl (Nat.le_of_ble_eq_true rfl) (fun _ => ⟨rfl, rfl⟩) rfl rfl ?_
  refine AW.aload_n (n := 14) dX3_init_13 rfl rfl ?_
  refine AW.iconst (n := 15) (v := 0) dX3_init_14 rfl rfl ?_
  refine AW.zp (n := 18) (j := 0) (cs' := [.inr (3, [.ref (a + 1), .int 0, .int 0]), .inl (2, 30, .inr (.inr (.inr (.inr (fun _ => none)))))]) dX3_init_15 fp_X3_17 (fun _ => rfl) rfl (Nat.le_of_ble_eq_true rfl) (fun _ => ⟨rfl, rfl⟩) rfl rfl ?_
  refine AW.aload_n (n := 19) dX3_init_18 rfl rfl ?_
  refine AW.iconst (n := 20) (v := 0) dX3_init_19 rfl rfl ?_
  refine AW.zp (n := 23) (j := 0) (cs' := [.inr (3, [.ref (a + 1), .int 0, .int 0]), .inl (2, 30, .inr (.inr (.inr (.inr (fun _ => none)))))]) dX3_init_20 fp_X3_21 (fun _ => rfl) rfl (Nat.le_of_ble_eq_true rfl) (fun _ => ⟨rfl, rfl⟩) rfl rfl ?_
  refine AW.iconst (n := 24) (v := 0) dX3_init_23 rfl rfl ?_
  refine AW.istore_n (n := 25) (L' := [some (.ref a), some (.int (nI 0))]) dX3_init_24 (Nat.le_of_ble_eq_true rfl) rfl rfl rfl ?_
  exact l_X3_init 31 0 (by omega) (Nat.zero_le _)
def xC10 : List aC := [.inr (10, [.ref (136 + 1), .ref (136 + 2), .ref (136 + 3), .ref (136 + 4), .ref (136 + 5), .ref (136 + 6), .ref (136 + 7), .ref (136 + 8), .int 0, .int 0, .ref (136 + 9), .int 0, .int 0, .ref (136 + 10), .int 0, .int 0, .int 0, .int 0, .int (-1), .ref (136 + 11), .int 0, .int 0, .int 0, .ref (136 + 12), .ref (136 + 13), .ref (136 + 14), .int 0, .ref (136 + 15), .ref (136 + 16), .ref (136 + 17), .int 0]), .inl (0, 612, .inl (fun _ => 0)), .inl (1, 2, .inl (fun _ => 0)), .inl (0, 6, .inl (fun _ => 0)), .inl (0, 14, .inl (fun _ => 0)), .inl (0, 14, .inl (fun _ => 0)), .inl (0, 14, .inl (fun _ => 0)), .inl (0, 14, .inl (fun _ => 0)), .inl (0, 14, .inl (fun _ => 0)), .inl (0, 24, .inl (fun _ => 0)), .inl (0, 240, .inl (fun _ => 0)), .inl (0, 7, .inl (fun _ => 0)), .inl (0, 7, .inl (fun _ => 0)), .inl (0, 6, .inl (fun _ => 0)), .inl (1, 6, .inl (fun _ => 0)), .inl (0, 4, .inl (fun _ => 0)), .inl (0, 20, .inl (fun _ => 0)), .inl (0, 20, .inl (fun _ => 0))]
set_option maxHeartbeats 4000000 in
set_option maxRecDepth 100000 in
theorem c_X10_init {h : Nat → aC} : AC 1 17 1024 mX10_init [.ref 136] (zS h 136 [.inr (10, [.null, .null, .null, .null, .null, .null, .null, .null, .int 0, .int 0, .null, .int 0, .int 0, .null, .int 0, .int 0, .int 0, .int 0, .int 0, .null, .int 0, .int 0, .int 0, .null, .null, .null, .int 0, .null, .null, .null, .int 0])]) (a_eq none (zS h 136 xC10)) := by
  refine AC.of (L := [some (.ref 136)]) (j := 0) (by decide) rfl (Nat.le_of_ble_eq_true rfl) ?_
  refine AW.aload_n (n := 1) dX10_init_0 rfl rfl ?_
  refine AW.objInit (cc := ⟨#[]⟩) (n := 4) dX10_init_1 lj_X10_1 oi_in oi_code (Nat.le_of_ble_eq_true rfl) (by decide) rfl ?_
  refine AW.aload_n (n := 5) dX10_init_4 rfl rfl ?_
  refine AW.sipush (n := 8) (v := 612) dX10_init_5 rfl rfl ?_
  refine AW.zi (n := 10) (t := 0) (N := 612) (j := 1) (ty := .int) dX10_init_8 rfl (fun _ => rfl) rfl (fun _ q => by cases q) ac_int (by decide) rfl (by decide) (by decide) (by decide) rfl rfl ?_
  refine AW.zp (n := 13) (j := 0) (cs' := [.inr (10, [.ref (136 + 1), .null, .null, .null, .null, .null, .null, .null, .int 0, .int 0, .null, .int 0, .int 0, .null, .int 0, .int 0, .int 0, .int 0, .int 0, .null, .int 0, .int 0, .int 0, .null, .null, .null, .int 0, .null, .null, .null, .int 0]), .inl (0, 612, .inl (fun _ => 0))]) dX10_init_10 fp_X10_7 (fun _ => rfl) rfl (Nat.le_of_ble_eq_true rfl) (fun _ => ⟨rfl, rfl⟩) rfl rfl ?_
  refine AW.aload_n (n := 14) dX10_init_13 rfl rfl ?_
  refine AW.iconst (n := 15) (v := 2) dX10_init_14 rfl rfl ?_
  refine AW.zi (n := 17) (t := 1) (N := 2) (j := 2) (ty := .boolean) dX10_init_15 rfl (fun _ => rfl) rfl (fun _ q => by cases q) ac_boolean (by decide) rfl (by decide) (by decide) (by decide) rfl rfl ?_
  refine AW.zp (n := 20) (j := 0) (cs' := [.inr (10, [.ref (136 + 1), .ref (136 + 2), .null, .null, .null, .null, .null, .null, .int 0, .int 0, .null, .int 0, .int 0, .null, .int 0, .int 0, .int 0, .int 0, .int 0, .null, .int 0, .int 0, .int 0, .null, .null, .null, .int 0, .null, .null, .null, .int 0]), .inl (0, 612, .inl (fun _ => 0)), .inl (1, 2, .inl (fun _ => 0))]) dX10_init_17 fp_X10_13 (fun _ => rfl) rfl (Nat.le_of_ble_eq_true rfl) (fun _ => ⟨rfl, rfl⟩) rfl rfl ?_
  refine AW.aload_n (n := 21) dX10_init_20 rfl rfl ?_
  refine AW.bipush (n := 23) (v := 6) dX10_init_21 rfl rfl ?_
  refine AW.zi (n := 25) (t := 0) (N := 6) (j := 3) (ty := .int) dX10_init_23 rfl (fun _ => rfl) rfl (fun _ q => by cases q) ac_int (by decide) rfl (by decide) (by decide) (by decide) rfl rfl ?_
  refine AW.zp (n := 28) (j := 0) (cs' := [.inr (10, [.ref (136 + 1), .ref (136 + 2), .ref (136 + 3), .null, .null, .null, .null, .null, .int 0, .int 0, .null, .int 0, .int 0, .null, .int 0, .int 0, .int 0, .int 0, .int 0, .null, .int 0, .int 0, .int 0, .null, .null, .null, .int 0, .null, .null, .null, .int 0]), .inl (0, 612, .inl (fun _ => 0)), .inl (1, 2, .inl (fun _ => 0)), .inl (0, 6, .inl (fun _ => 0))]) dX10_init_25 fp_X10_17 (fun _ => rfl) rfl (Nat.le_of_ble_eq_true rfl) (fun _ => ⟨rfl, rfl⟩) rfl rfl ?_
  refine AW.aload_n (n := 29) dX10_init_28 rfl rfl ?_
  refine AW.bipush (n := 31) (v := 14) dX10_init_29 rfl rfl ?_
  refine AW.zi (n := 33) (t := 0) (N := 14) (j := 4) (ty := .int) dX10_init_31 rfl (fun _ => rfl) rfl (fun _ q => by cases q) ac_int (by decide) rfl (by decide) (by decide) (by decide) rfl rfl ?_
  refine AW.zp (n := 36) (j := 0) (cs' := [.inr (10, [.ref (136 + 1), .ref (136 + 2), .ref (136 + 3), .ref (136 + 4), .null, .null, .null, .null, .int 0, .int 0, .null, .int 0, .int 0, .null, .int 0, .int 0, .int 0, .int 0, .int 0, .null, .int 0, .int 0, .int 0, .null, .null, .null, .int 0, .null, .null, .null, .int 0]), .inl (0, 612, .inl (fun _ => 0)), .inl (1, 2, .inl (fun _ => 0)), .inl (0, 6, .inl (fun _ => 0)), .inl (0, 14, .inl (fun _ => 0))]) dX10_init_33 fp_X10_20 (fun _ => rfl) rfl (Nat.le_of_ble_eq_true rfl) (fun _ => ⟨rfl, rfl⟩) rfl rfl ?_
  refine AW.aload_n (n := 37) dX10_init_36 rfl rfl ?_
  refine AW.bipush (n := 39) (v := 14) dX10_init_37 rfl rfl ?_
  refine AW.zi (n := 41) (t := 0) (N := 14) (j := 5) (ty := .int) dX10_init_39 rfl (fun _ => rfl) rfl (fun _ q => by cases q) ac_int (by decide) rfl (by decide) (by decide) (by decide) rfl rfl ?_
  refine AW.zp (n := 44) (j := 0) (cs' := [.inr (10, [.ref (136 + 1), .ref (136 + 2), .ref (136 + 3), .ref (136 + 4), .ref (136 + 5), .null, .null, .null, .int 0, .int 0, .null, .int 0, .int 0, .null, .int 0, .int 0, .int 0, .int 0, .int 0, .null, .int 0, .int 0, .int 0, .null, .null, .null, .int 0, .null, .null, .null, .int 0]), .inl (0, 612, .inl (fun _ => 0)), .inl (1, 2, .inl (fun _ => 0)), .inl (0, 6, .inl (fun _ => 0)), .inl (0, 14, .inl (fun _ => 0)), .inl (0, 14, .inl (fun _ => 0))]) dX10_init_41 fp_X10_23 (fun _ => rfl) rfl (Nat.le_of_ble_eq_true rfl) (fun _ => ⟨rfl, rfl⟩) rfl rfl ?_
  refine AW.aload_n (n := 45) dX10_init_44 rfl rfl ?_
  refine AW.bipush (n := 47) (v := 14) dX10_init_45 rfl rfl ?_
  refine AW.zi (n := 49) (t := 0) (N := 14) (j := 6) (ty := .int) dX10_init_47 rfl (fun _ => rfl) rfl (fun _ q => by cases q) ac_int (by decide) rfl (by decide) (by decide) (by decide) rfl rfl ?_
  refine AW.zp (n := 52) (j := 0) (cs' := [.inr (10, [.ref (136 + 1), .ref (136 + 2), .ref (136 + 3), .ref (136 + 4), .ref (136 + 5), .ref (136 + 6), .null, .null, .int 0, .int 0, .null, .int 0, .int 0, .null, .int 0, .int 0, .int 0, .int 0, .int 0, .null, .int 0, .int 0, .int 0, .null, .null, .null, .int 0, .null, .null, .null, .int 0]), .inl (0, 612, .inl (fun _ => 0)), .inl (1, 2, .inl (fun _ => 0)), .inl (0, 6, .inl (fun _ => 0)), .inl (0, 14, .inl (fun _ => 0)), .inl (0, 14, .inl (fun _ => 0)), .inl (0, 14, .inl (fun _ => 0))]) dX10_init_49 fp_X10_26 (fun _ => rfl) rfl (Nat.le_of_ble_eq_true rfl) (fun _ => ⟨rfl, rfl⟩) rfl rfl ?_
  refine AW.aload_n (n := 53) dX10_init_52 rfl rfl ?_
  refine AW.bipush (n := 55) (v := 14) dX10_init_53 rfl rfl ?_
  refine AW.zi (n := 57) (t := 0) (N := 14) (j := 7) (ty := .int) dX10_init_55 rfl (fun _ => rfl) rfl (fun _ q => by cases q) ac_int (by decide) rfl (by decide) (by decide) (by decide) rfl rfl ?_
  refine AW.zp (n := 60) (j := 0) (cs' := [.inr (10, [.ref (136 + 1), .ref (136 + 2), .ref (136 + 3), .ref (136 + 4), .ref (136 + 5), .ref (136 + 6), .ref (136 + 7), .null, .int 0, .int 0, .null, .int 0, .int 0, .null, .int 0, .int 0, .int 0, .int 0, .int 0, .null, .int 0, .int 0, .int 0, .null, .null, .null, .int 0, .null, .null, .null, .int 0]), .inl (0, 612, .inl (fun _ => 0)), .inl (1, 2, .inl (fun _ => 0)), .inl (0, 6, .inl (fun _ => 0)), .inl (0, 14, .inl (fun _ => 0)), .inl (0, 14, .inl (fun _ => 0)), .inl (0, 14, .inl (fun _ => 0)), .inl (0, 14, .inl (fun _ => 0))]) dX10_init_57 fp_X10_29 (fun _ => rfl) rfl (Nat.le_of_ble_eq_true rfl) (fun _ => ⟨rfl, rfl⟩) rfl rfl ?_
  refine AW.aload_n (n := 61) dX10_init_60 rfl rfl ?_
  refine AW.bipush (n := 63) (v := 14) dX10_init_61 rfl rfl ?_
  refine AW.zi (n := 65) (t := 0) (N := 14) (j := 8) (ty := .int) dX10_init_63 rfl (fun _ => rfl) rfl (fun _ q => by cases q) ac_int (by decide) rfl (by decide) (by decide) (by decide) rfl rfl ?_
  refine AW.zp (n := 68) (j := 0) (cs' := [.inr (10, [.ref (136 + 1), .ref (136 + 2), .ref (136 + 3), .ref (136 + 4), .ref (136 + 5), .ref (136 + 6), .ref (136 + 7), .ref (136 + 8), .int 0, .int 0, .null, .int 0, .int 0, .null, .int 0, .int 0, .int 0, .int 0, .int 0, .null, .int 0, .int 0, .int 0, .null, .null, .null, .int 0, .null, .null, .null, .int 0]), .inl (0, 612, .inl (fun _ => 0)), .inl (1, 2, .inl (fun _ => 0)), .inl (0, 6, .inl (fun _ => 0)), .inl (0, 14, .inl (fun _ => 0)), .inl (0, 14, .inl (fun _ => 0)), .inl (0, 14, .inl (fun _ => 0)), .inl (0, 14, .inl (fun _ => 0)), .inl (0, 14, .inl (fun _ => 0))]) dX10_init_65 fp_X10_32 (fun _ => rfl) rfl (Nat.le_of_ble_eq_true rfl) (fun _ => ⟨rfl, rfl⟩) rfl rfl ?_
  refine AW.aload_n (n := 69) dX10_init_68 rfl rfl ?_
  refine AW.bipush (n := 71) (v := 24) dX10_init_69 rfl rfl ?_
  refine AW.zi (n := 73) (t := 0) (N := 24) (j := 9) (ty := .int) dX10_init_71 rfl (fun _ => rfl) rfl (fun _ q => by cases q) ac_int (by decide) rfl (by decide) (by decide) (by decide) rfl rfl ?_
  refine AW.zp (n := 76) (j := 0) (cs' := [.inr (10, [.ref (136 + 1), .ref (136 + 2), .ref (136 + 3), .ref (136 + 4), .ref (136 + 5), .ref (136 + 6), .ref (136 + 7), .ref (136 + 8), .int 0, .int 0, .ref (136 + 9), .int 0, .int 0, .null, .int 0, .int 0, .int 0, .int 0, .int 0, .null, .int 0, .int 0, .int 0, .null, .null, .null, .int 0, .null, .null, .null, .int 0]), .inl (0, 612, .inl (fun _ => 0)), .inl (1, 2, .inl (fun _ => 0)), .inl (0, 6, .inl (fun _ => 0)), .inl (0, 14, .inl (fun _ => 0)), .inl (0, 14, .inl (fun _ => 0)), .inl (0, 14, .inl (fun _ => 0)), .inl (0, 14, .inl (fun _ => 0)), .inl (0, 14, .inl (fun _ => 0)), .inl (0, 24, .inl (fun _ => 0))]) dX10_init_73 fp_X10_35 (fun _ => rfl) rfl (Nat.le_of_ble_eq_true rfl) (fun _ => ⟨rfl, rfl⟩) rfl rfl ?_
  refine AW.aload_n (n := 77) dX10_init_76 rfl rfl ?_
  refine AW.sipush (n := 80) (v := 240) dX10_init_77 rfl rfl ?_
  refine AW.zi (n := 82) (t := 0) (N := 240) (j := 10) (ty := .int) dX10_init_80 rfl (fun _ => rfl) rfl (fun _ q => by cases q) ac_int (by decide) rfl (by decide) (by decide) (by decide) rfl rfl ?_
  refine AW.zp (n := 85) (j := 0) (cs' := [.inr (10, [.ref (136 + 1), .ref (136 + 2), .ref (136 + 3), .ref (136 + 4), .ref (136 + 5), .ref (136 + 6), .ref (136 + 7), .ref (136 + 8), .int 0, .int 0, .ref (136 + 9), .int 0, .int 0, .ref (136 + 10), .int 0, .int 0, .int 0, .int 0, .int 0, .null, .int 0, .int 0, .int 0, .null, .null, .null, .int 0, .null, .null, .null, .int 0]), .inl (0, 612, .inl (fun _ => 0)), .inl (1, 2, .inl (fun _ => 0)), .inl (0, 6, .inl (fun _ => 0)), .inl (0, 14, .inl (fun _ => 0)), .inl (0, 14, .inl (fun _ => 0)), .inl (0, 14, .inl (fun _ => 0)), .inl (0, 14, .inl (fun _ => 0)), .inl (0, 14, .inl (fun _ => 0)), .inl (0, 24, .inl (fun _ => 0)), .inl (0, 240, .inl (fun _ => 0))]) dX10_init_82 fp_X10_38 (fun _ => rfl) rfl (Nat.le_of_ble_eq_true rfl) (fun _ => ⟨rfl, rfl⟩) rfl rfl ?_
  refine AW.aload_n (n := 86) dX10_init_85 rfl rfl ?_
  refine AW.iconst (n := 87) (v := -1) dX10_init_86 rfl rfl ?_
  refine AW.zp (n := 90) (j := 0) (cs' := [.inr (10, [.ref (136 + 1), .ref (136 + 2), .ref (136 + 3), .ref (136 + 4), .ref (136 + 5), .ref (136 + 6), .ref (136 + 7), .ref (136 + 8), .int 0, .int 0, .ref (136 + 9), .int 0, .int 0, .ref (136 + 10), .int 0, .int 0, .int 0, .int 0, .int (-1), .null, .int 0, .int 0, .int 0, .null, .null, .null, .int 0, .null, .null, .null, .int 0]), .inl (0, 612, .inl (fun _ => 0)), .inl (1, 2, .inl (fun _ => 0)), .inl (0, 6, .inl (fun _ => 0)), .inl (0, 14, .inl (fun _ => 0)), .inl (0, 14, .inl (fun _ => 0)), .inl (0, 14, .inl (fun _ => 0)), .inl (0, 14, .inl (fun _ => 0)), .inl (0, 14, .inl (fun _ => 0)), .inl (0, 24, .inl (fun _ => 0)), .inl (0, 240, .inl (fun _ => 0))]) dX10_init_87 fp_X10_41 (fun _ => rfl) rfl (Nat.le_of_ble_eq_true rfl) (fun _ => ⟨rfl, rfl⟩) rfl rfl ?_
  refine AW.aload_n (n := 91) dX10_init_90 rfl rfl ?_
  refine AW.bipush (n := 93) (v := 7) dX10_init_91 rfl rfl ?_
  refine AW.zi (n := 95) (t := 0) (N := 7) (j := 11) (ty := .int) dX10_init_93 rfl (fun _ => rfl) rfl (fun _ q => by cases q) ac_int (by decide) rfl (by decide) (by decide) (by decide) rfl rfl ?_
  refine AW.zp (n := 98) (j := 0) (cs' := [.inr (10, [.ref (136 + 1), .ref (136 + 2), .ref (136 + 3), .ref (136 + 4), .ref (136 + 5), .ref (136 + 6), .ref (136 + 7), .ref (136 + 8), .int 0, .int 0, .ref (136 + 9), .int 0, .int 0, .ref (136 + 10), .int 0, .int 0, .int 0, .int 0, .int (-1), .ref (136 + 11), .int 0, .int 0, .int 0, .null, .null, .null, .int 0, .null, .null, .null, .int 0]), .inl (0, 612, .inl (fun _ => 0)), .inl (1, 2, .inl (fun _ => 0)), .inl (0, 6, .inl (fun _ => 0)), .inl (0, 14, .inl (fun _ => 0)), .inl (0, 14, .inl (fun _ => 0)), .inl (0, 14, .inl (fun _ => 0)), .inl (0, 14, .inl (fun _ => 0)), .inl (0, 14, .inl (fun _ => 0)), .inl (0, 24, .inl (fun _ => 0)), .inl (0, 240, .inl (fun _ => 0)), .inl (0, 7, .inl (fun _ => 0))]) dX10_init_95 fp_X10_45 (fun _ => rfl) rfl (Nat.le_of_ble_eq_true rfl) (fun _ => ⟨rfl, rfl⟩) rfl rfl ?_
  refine AW.aload_n (n := 99) dX10_init_98 rfl rfl ?_
  refine AW.bipush (n := 101) (v := 7) dX10_init_99 rfl rfl ?_
  refine AW.zi (n := 103) (t := 0) (N := 7) (j := 12) (ty := .int) dX10_init_101 rfl (fun _ => rfl) rfl (fun _ q => by cases q) ac_int (by decide) rfl (by decide) (by decide) (by decide) rfl rfl ?_
  refine AW.zp (n := 106) (j := 0) (cs' := [.inr (10, [.ref (136 + 1), .ref (136 + 2), .ref (136 + 3), .ref (136 + 4), .ref (136 + 5), .ref (136 + 6), .ref (136 + 7), .ref (136 + 8), .int 0, .int 0, .ref (136 + 9), .int 0, .int 0, .ref (136 + 10), .int 0, .int 0, .int 0, .int 0, .int (-1), .ref (136 + 11), .int 0, .int 0, .int 0, .ref (136 + 12), .null, .null, .int 0, .null, .null, .null, .int 0]), .inl (0, 612, .inl (fun _ => 0)), .inl (1, 2, .inl (fun _ => 0)), .inl (0, 6, .inl (fun _ => 0)), .inl (0, 14, .inl (fun _ => 0)), .inl (0, 14, .inl (fun _ => 0)), .inl (0, 14, .inl (fun _ => 0)), .inl (0, 14, .inl (fun _ => 0)), .inl (0, 14, .inl (fun _ => 0)), .inl (0, 24, .inl (fun _ => 0)), .inl (0, 240, .inl (fun _ => 0)), .inl (0, 7, .inl (fun _ => 0)), .inl (0, 7, .inl (fun _ => 0))]) dX10_init_103 fp_X10_48 (fun _ => rfl) rfl (Nat.le_of_ble_eq_true rfl) (fun _ => ⟨rfl, rfl⟩) rfl rfl ?_
  refine AW.aload_n (n := 107) dX10_init_106 rfl rfl ?_
  refine AW.bipush (n := 109) (v := 6) dX10_init_107 rfl rfl ?_
  refine AW.zi (n := 111) (t := 0) (N := 6) (j := 13) (ty := .int) dX10_init_109 rfl (fun _ => rfl) rfl (fun _ q => by cases q) ac_int (by decide) rfl (by decide) (by decide) (by decide) rfl rfl ?_
  refine AW.zp (n := 114) (j := 0) (cs' := [.inr (10, [.ref (136 + 1), .ref (136 + 2), .ref (136 + 3), .ref (136 + 4), .ref (136 + 5), .ref (136 + 6), .ref (136 + 7), .ref (136 + 8), .int 0, .int 0, .ref (136 + 9), .int 0, .int 0, .ref (136 + 10), .int 0, .int 0, .int 0, .int 0, .int (-1), .ref (136 + 11), .int 0, .int 0, .int 0, .ref (136 + 12), .ref (136 + 13), .null, .int 0, .null, .null, .null, .int 0]), .inl (0, 612, .inl (fun _ => 0)), .inl (1, 2, .inl (fun _ => 0)), .inl (0, 6, .inl (fun _ => 0)), .inl (0, 14, .inl (fun _ => 0)), .inl (0, 14, .inl (fun _ => 0)), .inl (0, 14, .inl (fun _ => 0)), .inl (0, 14, .inl (fun _ => 0)), .inl (0, 14, .inl (fun _ => 0)), .inl (0, 24, .inl (fun _ => 0)), .inl (0, 240, .inl (fun _ => 0)), .inl (0, 7, .inl (fun _ => 0)), .inl (0, 7, .inl (fun _ => 0)), .inl (0, 6, .inl (fun _ => 0))]) dX10_init_111 fp_X10_51 (fun _ => rfl) rfl (Nat.le_of_ble_eq_true rfl) (fun _ => ⟨rfl, rfl⟩) rfl rfl ?_
  refine AW.aload_n (n := 115) dX10_init_114 rfl rfl ?_
  refine AW.bipush (n := 117) (v := 6) dX10_init_115 rfl rfl ?_
  refine AW.zi (n := 119) (t := 1) (N := 6) (j := 14) (ty := .boolean) dX10_init_117 rfl (fun _ => rfl) rfl (fun _ q => by cases q) ac_boolean (by decide) rfl (by decide) (by decide) (by decide) rfl rfl ?_
  refine AW.zp (n := 122) (j := 0) (cs' := [.inr (10, [.ref (136 + 1), .ref (136 + 2), .ref (136 + 3), .ref (136 + 4), .ref (136 + 5), .ref (136 + 6), .ref (136 + 7), .ref (136 + 8), .int 0, .int 0, .ref (136 + 9), .int 0, .int 0, .ref (136 + 10), .int 0, .int 0, .int 0, .int 0, .int (-1), .ref (136 + 11), .int 0, .int 0, .int 0, .ref (136 + 12), .ref (136 + 13), .ref (136 + 14), .int 0, .null, .null, .null, .int 0]), .inl (0, 612, .inl (fun _ => 0)), .inl (1, 2, .inl (fun _ => 0)), .inl (0, 6, .inl (fun _ => 0)), .inl (0, 14, .inl (fun _ => 0)), .inl (0, 14, .inl (fun _ => 0)), .inl (0, 14, .inl (fun _ => 0)), .inl (0, 14, .inl (fun _ => 0)), .inl (0, 14, .inl (fun _ => 0)), .inl (0, 24, .inl (fun _ => 0)), .inl (0, 240, .inl (fun _ => 0)), .inl (0, 7, .inl (fun _ => 0)), .inl (0, 7, .inl (fun _ => 0)), .inl (0, 6, .inl (fun _ => 0)), .inl (1, 6, .inl (fun _ => 0))]) dX10_init_119 fp_X10_54 (fun _ => rfl) rfl (Nat.le_of_ble_eq_true rfl) (fun _ => ⟨rfl, rfl⟩) rfl rfl ?_
  refine AW.aload_n (n := 123) dX10_init_122 rfl rfl ?_
  refine AW.iconst (n := 124) (v := 4) dX10_init_123 rfl rfl ?_
  refine AW.zi (n := 126) (t := 0) (N := 4) (j := 15) (ty := .int) dX10_init_124 rfl (fun _ => rfl) rfl (fun _ q => by cases q) ac_int (by decide) rfl (by decide) (by decide) (by decide) rfl rfl ?_
  refine AW.zp (n := 129) (j := 0) (cs' := [.inr (10, [.ref (136 + 1), .ref (136 + 2), .ref (136 + 3), .ref (136 + 4), .ref (136 + 5), .ref (136 + 6), .ref (136 + 7), .ref (136 + 8), .int 0, .int 0, .ref (136 + 9), .int 0, .int 0, .ref (136 + 10), .int 0, .int 0, .int 0, .int 0, .int (-1), .ref (136 + 11), .int 0, .int 0, .int 0, .ref (136 + 12), .ref (136 + 13), .ref (136 + 14), .int 0, .ref (136 + 15), .null, .null, .int 0]), .inl (0, 612, .inl (fun _ => 0)), .inl (1, 2, .inl (fun _ => 0)), .inl (0, 6, .inl (fun _ => 0)), .inl (0, 14, .inl (fun _ => 0)), .inl (0, 14, .inl (fun _ => 0)), .inl (0, 14, .inl (fun _ => 0)), .inl (0, 14, .inl (fun _ => 0)), .inl (0, 14, .inl (fun _ => 0)), .inl (0, 24, .inl (fun _ => 0)), .inl (0, 240, .inl (fun _ => 0)), .inl (0, 7, .inl (fun _ => 0)), .inl (0, 7, .inl (fun _ => 0)), .inl (0, 6, .inl (fun _ => 0)), .inl (1, 6, .inl (fun _ => 0)), .inl (0, 4, .inl (fun _ => 0))]) dX10_init_126 fp_X10_57 (fun _ => rfl) rfl (Nat.le_of_ble_eq_true rfl) (fun _ => ⟨rfl, rfl⟩) rfl rfl ?_
  refine AW.aload_n (n := 130) dX10_init_129 rfl rfl ?_
  refine AW.bipush (n := 132) (v := 20) dX10_init_130 rfl rfl ?_
  refine AW.zi (n := 134) (t := 0) (N := 20) (j := 16) (ty := .int) dX10_init_132 rfl (fun _ => rfl) rfl (fun _ q => by cases q) ac_int (by decide) rfl (by decide) (by decide) (by decide) rfl rfl ?_
  refine AW.zp (n := 137) (j := 0) (cs' := [.inr (10, [.ref (136 + 1), .ref (136 + 2), .ref (136 + 3), .ref (136 + 4), .ref (136 + 5), .ref (136 + 6), .ref (136 + 7), .ref (136 + 8), .int 0, .int 0, .ref (136 + 9), .int 0, .int 0, .ref (136 + 10), .int 0, .int 0, .int 0, .int 0, .int (-1), .ref (136 + 11), .int 0, .int 0, .int 0, .ref (136 + 12), .ref (136 + 13), .ref (136 + 14), .int 0, .ref (136 + 15), .ref (136 + 16), .null, .int 0]), .inl (0, 612, .inl (fun _ => 0)), .inl (1, 2, .inl (fun _ => 0)), .inl (0, 6, .inl (fun _ => 0)), .inl (0, 14, .inl (fun _ => 0)), .inl (0, 14, .inl (fun _ => 0)), .inl (0, 14, .inl (fun _ => 0)), .inl (0, 14, .inl (fun _ => 0)), .inl (0, 14, .inl (fun _ => 0)), .inl (0, 24, .inl (fun _ => 0)), .inl (0, 240, .inl (fun _ => 0)), .inl (0, 7, .inl (fun _ => 0)), .inl (0, 7, .inl (fun _ => 0)), .inl (0, 6, .inl (fun _ => 0)), .inl (1, 6, .inl (fun _ => 0)), .inl (0, 4, .inl (fun _ => 0)), .inl (0, 20, .inl (fun _ => 0))]) dX10_init_134 fp_X10_60 (fun _ => rfl) rfl (Nat.le_of_ble_eq_true rfl) (fun _ => ⟨rfl, rfl⟩) rfl rfl ?_
  refine AW.aload_n (n := 138) dX10_init_137 rfl rfl ?_
  refine AW.bipush (n := 140) (v := 20) dX10_init_138 rfl rfl ?_
  refine AW.zi (n := 142) (t := 0) (N := 20) (j := 17) (ty := .int) dX10_init_140 rfl (fun _ => rfl) rfl (fun _ q => by cases q) ac_int (by decide) rfl (by decide) (by decide) (by decide) rfl rfl ?_
  refine AW.zp (n := 145) (j := 0) (cs' := [.inr (10, [.ref (136 + 1), .ref (136 + 2), .ref (136 + 3), .ref (136 + 4), .ref (136 + 5), .ref (136 + 6), .ref (136 + 7), .ref (136 + 8), .int 0, .int 0, .ref (136 + 9), .int 0, .int 0, .ref (136 + 10), .int 0, .int 0, .int 0, .int 0, .int (-1), .ref (136 + 11), .int 0, .int 0, .int 0, .ref (136 + 12), .ref (136 + 13), .ref (136 + 14), .int 0, .ref (136 + 15), .ref (136 + 16), .ref (136 + 17), .int 0]), .inl (0, 612, .inl (fun _ => 0)), .inl (1, 2, .inl (fun _ => 0)), .inl (0, 6, .inl (fun _ => 0)), .inl (0, 14, .inl (fun _ => 0)), .inl (0, 14, .inl (fun _ => 0)), .inl (0, 14, .inl (fun _ => 0)), .inl (0, 14, .inl (fun _ => 0)), .inl (0, 14, .inl (fun _ => 0)), .inl (0, 24, .inl (fun _ => 0)), .inl (0, 240, .inl (fun _ => 0)), .inl (0, 7, .inl (fun _ => 0)), .inl (0, 7, .inl (fun _ => 0)), .inl (0, 6, .inl (fun _ => 0)), .inl (1, 6, .inl (fun _ => 0)), .inl (0, 4, .inl (fun _ => 0)), .inl (0, 20, .inl (fun _ => 0)), .inl (0, 20, .inl (fun _ => 0))]) dX10_init_142 fp_X10_63 (fun _ => rfl) rfl (Nat.le_of_ble_eq_true rfl) (fun _ => ⟨rfl, rfl⟩) rfl rfl ?_
  exact AW.ret dX10_init_145 rfl (by decide) (by decide) ⟨rfl, rfl⟩
