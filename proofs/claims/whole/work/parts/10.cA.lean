def sWithin (v lo hi : Int32) : Bool := !decide (v < lo) && !decide (hi < v)
def sHas (n s : Int32) : Bool := !decide (s < 0) && !decide (n ≤ s)
def sRings (turn haste : Int32) : Bool := !sWithin haste 1 3 || !decide (turn - turn / (5 - haste) * (5 - haste) = 0)
def sDinOf (dins : Int32) (f : Nat → Int32) (hour : Int32) : Int32 := if hour < 0 then 0 else if 1 ≤ dins then f (hour - hour / dins * dins).toNatClampNeg else 0
def sBit (x s : Int32) : Bool := !decide ((x >>> (s &&& 31)) &&& 1 = 0)
def sIsIn (n : Int32) (f : Nat → Int32) (s hour : Int32) : Bool := sHas n s && sWithin hour 0 11 && sBit (f s.toNatClampNeg) hour
def sMeets (μ : Me) (a : Nat) (s second : Int32) (rings : Bool) (taken : Int32) : Int32 :=
  if sHas (μ a 3) s then
    if rings && sIsIn (μ a 3) (μ (a + 2)) s (second / 3600) && !decide (μ (a + 3) s.toNatClampNeg ≤ sDinOf (μ a 4) (μ (a + 6)) (second / 3600)) then 2
    else if sIsIn (μ a 3) (μ (a + 2)) (μ (a + 4) s.toNatClampNeg) (second / 3600) && !decide (μ (a + 5) s.toNatClampNeg ≤ taken) then 3 else 4
  else 4
def sDoor (μ : Me) (a : Nat) (rings : Bool) (becomes : Int32) : Int32 := (if rings then μ a 0 else 0) + (if becomes = 2 then 0 else μ a 2)
def sAbs (x : Int32) : Int32 := if 0 ≤ x then x else 0 - x
def sBetw (μ : Me) (a : Nat) (x y : Int32) : Int32 := sAbs (x - y) * μ a 1
/-- the numbers of a street are such that its rows hold them -/
def sOk (μ : Me) (a n dn : Nat) : Prop := μ a 3 = nI n ∧ n ≤ 7 ∧ μ a 4 = nI dn ∧ dn ≤ 12
theorem sHas_j {x s : Int32} {n : Nat} (hn : x = nI n) (h7 : n ≤ 7) (h : sHas x s = true) : ∃ j : Nat, j < n ∧ s = nI j := by
  subst hn
  simp only [sHas, Bool.and_eq_true, Bool.not_eq_true', decide_eq_false_iff_not] at h
  rcases pk_ix s (n := n) (by omega) with q | q | q
  · exact absurd q h.1
  · exact absurd q h.2
  · exact q
theorem sHas_nI {n j : Nat} (h7 : n ≤ 7) (hj : j < 2147483648) : sHas (nI n) (nI j) = decide (j < n) := by
  by_cases h : j < n
  · simp [sHas, nI_pos hj, nI_ge h (by omega : n < 2 ^ 31), h]
  · simp [sHas, nI_le (Nat.le_of_not_lt h) hj, h]
theorem cl_nI {j : Nat} (h : j < 2147483648) : (nI j).toNatClampNeg = j := nI_clamp h
theorem din_j {hour d : Int32} {dn : Nat} (hd : d = nI dn) (h12 : dn ≤ 12) (h1 : ¬ hour < 0) (h2 : (1 : Int32) ≤ d) : ∃ j : Nat, j < dn ∧ hour - hour / d * d = nI j := by
  subst hd
  obtain ⟨h, hh, rfl⟩ := nI_of h1
  have hpos : 0 < dn := by
    rcases Nat.eq_zero_or_pos dn with q | q
    · subst q; exact absurd h2 (by decide)
    · exact q
  refine ⟨h % dn, Nat.mod_lt _ hpos, ?_⟩
  exact pk_rem hh hpos (by omega)
def sCounts (x : Int32) : Bool := decide (x = 1) || decide (x = 4)
theorem AW.mabsS {scr : Option (Nat × (Nat → Int32))} {k mc ms : Nat} {M : aM} {c0 s0 pc n : Nat} {L : List (Option Value)} {st : List Value} {σ : aS} {P : Option Value → aS → Prop} {idx : Nat} {x : Int32} (hd : decode M.2.1 pc = .ok (.invokestatic idx, 3)) (hl : Cond.methodLink M.1.cls idx Lib.Math.abs.name ∈ gT) (h2 : Cond.static Lib.Math.abs.name ∈ gT) (h3 : Cond.initialized "java/lang/Math" ∈ gT) (h4 : Cond.code Lib.Math.abs.name Lib.Math.abs.code 1 (some .int) ∈ gT) (hrs : st.length ≤ 4) (hk : 1 ≤ k) (hc0 : c0 ≤ mc) (hs0 : s0 ≤ ms) (hn : pc + 3 = n) (h : AW scr k mc ms M c0 s0 n L (.int (sAbs x) :: st) σ P) : AW scr k mc ms M c0 s0 pc L (.int x :: st) σ P := AW.mabs hd hl h2 h3 h4 hrs hk hc0 hs0 hn h
theorem i1_lt (x : Int32) : x < 1 ↔ ¬ 1 ≤ x := Int32.not_le.symm
theorem ra_ne {h : Int32} (q : sWithin h 1 3 = true) : ¬ (5 - h = 0) := by
  simp only [sWithin, Bool.and_eq_true, Bool.not_eq_true', decide_eq_false_iff_not] at q
  intro e
  have e5 : h = 5 := by
    have := congrArg (fun x => x + h) e
    simpa using this.symm
  subst e5
  exact absurd (by decide) q.2
theorem dn_ne {d : Int32} (q : (1 : Int32) ≤ d) : ¬ d = 0 := by rintro rfl; exact absurd q (by decide)
set_option maxHeartbeats 4000000 in
set_option maxRecDepth 100000 in
theorem c_X9_within {σ : aS} {v lo hi : Int32}  : AC 0 0 0 mX9_within [.int v, .int lo, .int hi] σ (a_eq (some (.int (b2i (sWithin v lo hi)))) σ) := by
  refine AC.of (L := [some (.int v), some (.int lo), some (.int hi)]) (j := 0) (by decide) rfl (Nat.le_of_ble_eq_true rfl) ?_
  refine AW.iload_n (n := 1) dX9_within_0 rfl rfl ?_
  refine AW.iload_n (n := 2) dX9_within_1 rfl rfl ?_
  refine AW.icmp_lt (n := 5) (t := 14) dX9_within_2 rfl rfl (fun h2 => ?_) (fun h2 => ?_)
  · refine AW.iconst (n := 15) (v := 0) dX9_within_14 rfl rfl ?_
    refine AW.iret dX9_within_15 rfl rfl (Nat.zero_le _) (Nat.zero_le _) ?_
    exact ⟨by simp [sWithin, b2i, h2], rfl⟩
  · refine AW.iload_n (n := 6) dX9_within_5 rfl rfl ?_
    refine AW.iload_n (n := 7) dX9_within_6 rfl rfl ?_
    refine AW.icmp_gt (n := 10) (t := 14) dX9_within_7 rfl rfl (fun h7 => ?_) (fun h7 => ?_)
    · refine AW.iconst (n := 15) (v := 0) dX9_within_14 rfl rfl ?_
      refine AW.iret dX9_within_15 rfl rfl (Nat.zero_le _) (Nat.zero_le _) ?_
      exact ⟨by simp [sWithin, b2i, h2, h7], rfl⟩
    · refine AW.iconst (n := 11) (v := 1) dX9_within_10 rfl rfl ?_
      refine AW.goto (t := 15) dX9_within_11 rfl ?_
      refine AW.iret dX9_within_15 rfl rfl (Nat.zero_le _) (Nat.zero_le _) ?_
      exact ⟨by simp [sWithin, b2i, h2, h7], rfl⟩
set_option maxHeartbeats 4000000 in
set_option maxRecDepth 100000 in
theorem c_X9_ringsAt {σ : aS} {t h : Int32}  : AC 1 0 0 mX9_ringsAt [.int t, .int h] σ (a_eq (some (.int (b2i (sRings t h)))) σ) := by
  refine AC.of (L := [some (.int t), some (.int h)]) (j := 0) (by decide) rfl (Nat.le_of_ble_eq_true rfl) ?_
  refine AW.iload_n (n := 1) dX9_ringsAt_0 rfl rfl ?_
  refine AW.iconst (n := 2) (v := 1) dX9_ringsAt_1 rfl rfl ?_
  refine AW.iconst (n := 3) (v := 3) dX9_ringsAt_2 rfl rfl ?_
  refine AW.es3i (Mc := mX9_within) (n := 6) dX9_ringsAt_3 lk_X9_79 k_mX9_within (c_X9_within) (Nat.le_of_ble_eq_true rfl) (by decide) (Nat.zero_le _) (Nat.zero_le _) rfl ?_
  refine AW.bif_eq (n := 9) (t := 17) dX9_ringsAt_6 rfl rfl (fun h6 => ?_) (fun h6 => ?_)
  · refine AW.iconst (n := 18) (v := 1) dX9_ringsAt_17 rfl rfl ?_
    refine AW.goto (t := 22) dX9_ringsAt_18 rfl ?_
    refine AW.iret dX9_ringsAt_22 rfl rfl (Nat.zero_le _) (Nat.zero_le _) ?_
    exact ⟨by simp [sRings, b2i, h6], rfl⟩
  · refine AW.iload_n (n := 10) dX9_ringsAt_9 rfl rfl ?_
    refine AW.iconst (n := 11) (v := 5) dX9_ringsAt_10 rfl rfl ?_
    refine AW.iload_n (n := 12) dX9_ringsAt_11 rfl rfl ?_
    refine AW.isub (n := 13) dX9_ringsAt_12 rfl ?_
    refine AW.irem (n := 14) dX9_ringsAt_13 (ra_ne h6) rfl ?_
    refine AW.if_eq (n := 17) (t := 21) dX9_ringsAt_14 rfl rfl (fun h14 => ?_) (fun h14 => ?_)
    · refine AW.iconst (n := 22) (v := 0) dX9_ringsAt_21 rfl rfl ?_
      refine AW.iret dX9_ringsAt_22 rfl rfl (Nat.zero_le _) (Nat.zero_le _) ?_
      exact ⟨by simp [sRings, b2i, h6, h14], rfl⟩
    · refine AW.iconst (n := 18) (v := 1) dX9_ringsAt_17 rfl rfl ?_
      refine AW.goto (t := 22) dX9_ringsAt_18 rfl ?_
      refine AW.iret dX9_ringsAt_22 rfl rfl (Nat.zero_le _) (Nat.zero_le _) ?_
      exact ⟨by simp [sRings, b2i, h6, h14], rfl⟩
set_option maxHeartbeats 4000000 in
set_option maxRecDepth 100000 in
theorem c_X6_has {μ : Me} {e : Nat × (Nat → aC)} {a : Nat} {s : Int32} (ha : sS a) : AC 0 0 0 mX6_has [.ref a, .int s] (wS μ e) (a_eq (some (.int (b2i (sHas (μ a 3) s)))) (wS μ e)) := by
  refine AC.of (L := [some (.ref a), some (.int s)]) (j := 0) (by decide) rfl (Nat.le_of_ble_eq_true rfl) ?_
  refine AW.iload_n (n := 1) dX6_has_0 rfl rfl ?_
  refine AW.if_lt (n := 4) (t := 16) dX6_has_1 rfl rfl (fun h1 => ?_) (fun h1 => ?_)
  · refine AW.iconst (n := 17) (v := 0) dX6_has_16 rfl rfl ?_
    refine AW.iret dX6_has_17 rfl rfl (Nat.zero_le _) (Nat.zero_le _) ?_
    exact ⟨by simp [sHas, b2i, h1], rfl⟩
  · refine AW.iload_n (n := 5) dX6_has_4 rfl rfl ?_
    refine AW.aload_n (n := 6) dX6_has_5 rfl rfl ?_
    refine AW.gi (n := 9) dX6_has_6 fl_X6_21 ha.1 rfl rfl ?_
    refine AW.icmp_ge (n := 12) (t := 16) dX6_has_9 rfl rfl (fun h9 => ?_) (fun h9 => ?_)
    · refine AW.iconst (n := 17) (v := 0) dX6_has_16 rfl rfl ?_
      refine AW.iret dX6_has_17 rfl rfl (Nat.zero_le _) (Nat.zero_le _) ?_
      exact ⟨by simp [sHas, b2i, h1, h9], rfl⟩
    · refine AW.iconst (n := 13) (v := 1) dX6_has_12 rfl rfl ?_
      refine AW.goto (t := 17) dX6_has_13 rfl ?_
      refine AW.iret dX6_has_17 rfl rfl (Nat.zero_le _) (Nat.zero_le _) ?_
      exact ⟨by simp [sHas, b2i, h1, h9], rfl⟩
set_option maxHeartbeats 4000000 in
set_option maxRecDepth 100000 in
theorem c_X6_dinOf {μ : Me} {e : Nat × (Nat → aC)} {a dn : Nat} {hour : Int32} (ha : sS a) (hd : μ a 4 = nI dn) (h12 : dn ≤ 12) : AC 0 0 0 mX6_dinOf [.ref a, .int hour] (wS μ e) (a_eq (some (.int (sDinOf (μ a 4) (μ (a + 6)) hour))) (wS μ e)) := by
  refine AC.of (L := [some (.ref a), some (.int hour)]) (j := 0) (by decide) rfl (Nat.le_of_ble_eq_true rfl) ?_
  refine AW.iload_n (n := 1) dX6_dinOf_0 rfl rfl ?_
  refine AW.if_lt (n := 4) (t := 12) dX6_dinOf_1 rfl rfl (fun h1 => ?_) (fun h1 => ?_)
  · refine AW.iconst (n := 13) (v := 0) dX6_dinOf_12 rfl rfl ?_
    refine AW.goto (t := 27) dX6_dinOf_13 rfl ?_
    refine AW.iret dX6_dinOf_27 rfl rfl (Nat.zero_le _) (Nat.zero_le _) ?_
    exact ⟨by simp [sDinOf, h1], rfl⟩
  · refine AW.aload_n (n := 5) dX6_dinOf_4 rfl rfl ?_
    refine AW.gi (n := 8) dX6_dinOf_5 fl_X6_24 ha.1 rfl rfl ?_
    refine AW.iconst (n := 9) (v := 1) dX6_dinOf_8 rfl rfl ?_
    refine AW.icmp_ge (n := 12) (t := 16) dX6_dinOf_9 rfl rfl (fun h9 => ?_) (fun h9 => ?_)
    · refine AW.aload_n (n := 17) dX6_dinOf_16 rfl rfl ?_
      refine AW.gr (n := 20) dX6_dinOf_17 fl_X6_43 ha.1 rfl rfl ?_
      refine AW.iload_n (n := 21) dX6_dinOf_20 rfl rfl ?_
      refine AW.aload_n (n := 22) dX6_dinOf_21 rfl rfl ?_
      refine AW.gi (n := 25) dX6_dinOf_22 fl_X6_24 ha.1 rfl rfl ?_
      refine AW.irem (n := 26) dX6_dinOf_25 (dn_ne h9) rfl ?_
      obtain ⟨j, hj, hjj⟩ := din_j hd h12 h1 h9
      refine AW.ia (n := 27) j dX6_dinOf_26 ha.2.2.2.2.2.2 hjj (by omega) (by decide) rfl ?_
      refine AW.iret dX6_dinOf_27 rfl rfl (Nat.zero_le _) (Nat.zero_le _) ?_
      exact ⟨by rw [sDinOf, if_neg h1, if_pos h9, hjj, cl_nI (show j < 2147483648 by omega)], rfl⟩
    · refine AW.iconst (n := 13) (v := 0) dX6_dinOf_12 rfl rfl ?_
      refine AW.goto (t := 27) dX6_dinOf_13 rfl ?_
      refine AW.iret dX6_dinOf_27 rfl rfl (Nat.zero_le _) (Nat.zero_le _) ?_
      exact ⟨by simp [sDinOf, h1, h9], rfl⟩
set_option maxHeartbeats 4000000 in
set_option maxRecDepth 100000 in
theorem c_X6_isIn {μ : Me} {e : Nat × (Nat → aC)} {a n : Nat} {s hour : Int32} (ha : sS a) (hn : μ a 3 = nI n) (h7 : n ≤ 7) : AC 1 0 0 mX6_isIn [.ref a, .int s, .int hour] (wS μ e) (a_eq (some (.int (b2i (sIsIn (μ a 3) (μ (a + 2)) s hour)))) (wS μ e)) := by
  refine AC.of (L := [some (.ref a), some (.int s), some (.int hour)]) (j := 0) (by decide) rfl (Nat.le_of_ble_eq_true rfl) ?_
  refine AW.aload_n (n := 1) dX6_isIn_0 rfl rfl ?_
  refine AW.iload_n (n := 2) dX6_isIn_1 rfl rfl ?_
  refine AW.ev1i (Mc := mX6_has) (n := 5) dX6_isIn_2 lk_X6_52 k_mX6_has ha.1 rfl rfl (c_X6_has ha) (Nat.le_of_ble_eq_true rfl) (by decide) (Nat.zero_le _) (Nat.zero_le _) rfl ?_
  refine AW.bif_eq (n := 8) (t := 35) dX6_isIn_5 rfl rfl (fun h5 => ?_) (fun h5 => ?_)
  · refine AW.iconst (n := 36) (v := 0) dX6_isIn_35 rfl rfl ?_
    refine AW.iret dX6_isIn_36 rfl rfl (Nat.zero_le _) (Nat.zero_le _) ?_
    exact ⟨by simp [sIsIn, sBit, b2i, h5], rfl⟩
  · refine AW.iload_n (n := 9) dX6_isIn_8 rfl rfl ?_
    refine AW.iconst (n := 10) (v := 0) dX6_isIn_9 rfl rfl ?_
    refine AW.bipush (n := 12) (v := 11) dX6_isIn_10 rfl rfl ?_
    refine AW.es3i (Mc := mX9_within) (n := 15) dX6_isIn_12 lk_X6_56 k_mX9_within (c_X9_within) (Nat.le_of_ble_eq_true rfl) (by decide) (Nat.zero_le _) (Nat.zero_le _) rfl ?_
    refine AW.bif_eq (n := 18) (t := 35) dX6_isIn_15 rfl rfl (fun h15 => ?_) (fun h15 => ?_)
    · refine AW.iconst (n := 36) (v := 0) dX6_isIn_35 rfl rfl ?_
      refine AW.iret dX6_isIn_36 rfl rfl (Nat.zero_le _) (Nat.zero_le _) ?_
      exact ⟨by simp [sIsIn, sBit, b2i, h5, h15], rfl⟩
    · obtain ⟨j, hj, rfl⟩ := sHas_j hn h7 h5
      have hjc := cl_nI (show j < 2147483648 by omega)
      refine AW.aload_n (n := 19) dX6_isIn_18 rfl rfl ?_
      refine AW.gr (n := 22) dX6_isIn_19 fl_X6_31 ha.1 rfl rfl ?_
      refine AW.iload_n (n := 23) dX6_isIn_22 rfl rfl ?_
      refine AW.ia (n := 24) j dX6_isIn_23 ha.2.2.1 rfl (by omega) (by decide) rfl ?_
      refine AW.iload_n (n := 25) dX6_isIn_24 rfl rfl ?_
      refine AW.ishr (n := 26) dX6_isIn_25 rfl ?_
      refine AW.iconst (n := 27) (v := 1) dX6_isIn_26 rfl rfl ?_
      refine AW.iand (n := 28) dX6_isIn_27 rfl ?_
      refine AW.if_eq (n := 31) (t := 35) dX6_isIn_28 rfl rfl (fun h28 => ?_) (fun h28 => ?_)
      · refine AW.iconst (n := 36) (v := 0) dX6_isIn_35 rfl rfl ?_
        refine AW.iret dX6_isIn_36 rfl rfl (Nat.zero_le _) (Nat.zero_le _) ?_
        exact ⟨by simp [sIsIn, sBit, b2i, h5, h15, h28, hjc], rfl⟩
      · refine AW.iconst (n := 32) (v := 1) dX6_isIn_31 rfl rfl ?_
        refine AW.goto (t := 36) dX6_isIn_32 rfl ?_
        refine AW.iret dX6_isIn_36 rfl rfl (Nat.zero_le _) (Nat.zero_le _) ?_
        exact ⟨by simp [sIsIn, sBit, b2i, h5, h15, h28, hjc], rfl⟩
set_option maxHeartbeats 4000000 in
set_option maxRecDepth 100000 in
theorem c_X6_secondsAtDoor {μ : Me} {e : Nat × (Nat → aC)} {a : Nat} {rg : Bool} {bc : Int32} (ha : sS a) : AC 0 0 0 mX6_secondsAtDoor [.ref a, .int (b2i rg), .int bc] (wS μ e) (a_eq (some (.int (sDoor μ a rg bc))) (wS μ e)) := by
  refine AC.of (L := [some (.ref a), some (.int (b2i rg)), some (.int bc)]) (j := 0) (by decide) rfl (Nat.le_of_ble_eq_true rfl) ?_
  refine AW.iload_n (n := 1) dX6_secondsAtDoor_0 rfl rfl ?_
  refine AW.bif_eq (n := 4) (t := 11) dX6_secondsAtDoor_1 rfl rfl (fun h1 => ?_) (fun h1 => ?_)
  · refine AW.iconst (n := 12) (v := 0) dX6_secondsAtDoor_11 rfl rfl ?_
    refine AW.iload_n (n := 13) dX6_secondsAtDoor_12 rfl rfl ?_
    refine AW.iconst (n := 14) (v := 2) dX6_secondsAtDoor_13 rfl rfl ?_
    refine AW.icmp_ne (n := 17) (t := 21) dX6_secondsAtDoor_14 rfl rfl (fun h14 => ?_) (fun h14 => ?_)
    · refine AW.aload_n (n := 22) dX6_secondsAtDoor_21 rfl rfl ?_
      refine AW.gi (n := 25) dX6_secondsAtDoor_22 fl_X6_18 ha.1 rfl rfl ?_
      refine AW.iadd (n := 26) dX6_secondsAtDoor_25 rfl ?_
      refine AW.iret dX6_secondsAtDoor_26 rfl rfl (Nat.zero_le _) (Nat.zero_le _) ?_
      exact ⟨by simp [sDoor, h1, h14], rfl⟩
    · refine AW.iconst (n := 18) (v := 0) dX6_secondsAtDoor_17 rfl rfl ?_
      refine AW.goto (t := 25) dX6_secondsAtDoor_18 rfl ?_
      refine AW.iadd (n := 26) dX6_secondsAtDoor_25 rfl ?_
      refine AW.iret dX6_secondsAtDoor_26 rfl rfl (Nat.zero_le _) (Nat.zero_le _) ?_
      exact ⟨by simp [sDoor, h1, h14], rfl⟩
  · refine AW.aload_n (n := 5) dX6_secondsAtDoor_4 rfl rfl ?_
    refine AW.gi (n := 8) dX6_secondsAtDoor_5 fl_X6_9 ha.1 rfl rfl ?_
    refine AW.goto (t := 12) dX6_secondsAtDoor_8 rfl ?_
    refine AW.iload_n (n := 13) dX6_secondsAtDoor_12 rfl rfl ?_
    refine AW.iconst (n := 14) (v := 2) dX6_secondsAtDoor_13 rfl rfl ?_
    refine AW.icmp_ne (n := 17) (t := 21) dX6_secondsAtDoor_14 rfl rfl (fun h14 => ?_) (fun h14 => ?_)
    · refine AW.aload_n (n := 22) dX6_secondsAtDoor_21 rfl rfl ?_
      refine AW.gi (n := 25) dX6_secondsAtDoor_22 fl_X6_18 ha.1 rfl rfl ?_
      refine AW.iadd (n := 26) dX6_secondsAtDoor_25 rfl ?_
      refine AW.iret dX6_secondsAtDoor_26 rfl rfl (Nat.zero_le _) (Nat.zero_le _) ?_
      exact ⟨by simp [sDoor, h1, h14], rfl⟩
    · refine AW.iconst (n := 18) (v := 0) dX6_secondsAtDoor_17 rfl rfl ?_
      refine AW.goto (t := 25) dX6_secondsAtDoor_18 rfl ?_
      refine AW.iadd (n := 26) dX6_secondsAtDoor_25 rfl ?_
      refine AW.iret dX6_secondsAtDoor_26 rfl rfl (Nat.zero_le _) (Nat.zero_le _) ?_
      exact ⟨by simp [sDoor, h1, h14], rfl⟩
set_option maxHeartbeats 4000000 in
set_option maxRecDepth 100000 in
theorem c_X6_secondsBetween {μ : Me} {e : Nat × (Nat → aC)} {a : Nat} {x y : Int32} (ha : sS a) : AC 1 0 0 mX6_secondsBetween [.ref a, .int x, .int y] (wS μ e) (a_eq (some (.int (sBetw μ a x y))) (wS μ e)) := by
  refine AC.of (L := [some (.ref a), some (.int x), some (.int y)]) (j := 0) (by decide) rfl (Nat.le_of_ble_eq_true rfl) ?_
  refine AW.iload_n (n := 1) dX6_secondsBetween_0 rfl rfl ?_
  refine AW.iload_n (n := 2) dX6_secondsBetween_1 rfl rfl ?_
  refine AW.isub (n := 3) dX6_secondsBetween_2 rfl ?_
  refine AW.mabsS (n := 6) dX6_secondsBetween_3 lj_X6_68 jm_abs_s jm_i jm_abs_c (Nat.le_of_ble_eq_true rfl) (by decide) (Nat.zero_le _) (Nat.zero_le _) rfl ?_
  refine AW.aload_n (n := 7) dX6_secondsBetween_6 rfl rfl ?_
  refine AW.gi (n := 10) dX6_secondsBetween_7 fl_X6_15 ha.1 rfl rfl ?_
  refine AW.imul (n := 11) dX6_secondsBetween_10 rfl ?_
  refine AW.iret dX6_secondsBetween_11 rfl rfl (Nat.zero_le _) (Nat.zero_le _) ?_
  exact ⟨rfl, rfl⟩
set_option maxHeartbeats 4000000 in
set_option maxRecDepth 100000 in
theorem c_X6_meets {μ : Me} {e : Nat × (Nat → aC)} {a n dn : Nat} {s sec tk : Int32} {rg : Bool} (ha : sS a) (ho : sOk μ a n dn) : AC 2 0 0 mX6_meets [.ref a, .int s, .int sec, .int (b2i rg), .int tk] (wS μ e) (a_eq (some (.int (sMeets μ a s sec rg tk))) (wS μ e)) := by
  refine AC.of (L := [some (.ref a), some (.int s), some (.int sec), some (.int (b2i rg)), some (.int tk), none]) (j := 1) (by decide) rfl (Nat.le_of_ble_eq_true rfl) ?_
  refine AW.aload_n (n := 1) dX6_meets_0 rfl rfl ?_
  refine AW.iload_n (n := 2) dX6_meets_1 rfl rfl ?_
  refine AW.ev1i (Mc := mX6_has) (n := 5) dX6_meets_2 lk_X6_52 k_mX6_has ha.1 rfl rfl (c_X6_has ha) (Nat.le_of_ble_eq_true rfl) (by decide) (Nat.zero_le _) (Nat.zero_le _) rfl ?_
  refine AW.bif_ne (n := 8) (t := 10) dX6_meets_5 rfl rfl (fun h5 => ?_) (fun h5 => ?_)
  · obtain ⟨j, hj, rfl⟩ := sHas_j ho.1 ho.2.1 h5
    have hjc := cl_nI (show j < 2147483648 by have := ho.2.1; omega)
    have h7 := ho.2.1
    refine AW.iload_n (n := 11) dX6_meets_10 rfl rfl ?_
    refine AW.sipush (n := 14) (v := 3600) dX6_meets_11 rfl rfl ?_
    refine AW.idiv (n := 15) dX6_meets_14 (by decide) rfl ?_
    refine AW.ist5 (n := 17) dX6_meets_15 (Nat.le_of_ble_eq_true rfl) rfl rfl ?_
    refine AW.iload_n (n := 18) dX6_meets_17 rfl rfl ?_
    refine AW.bif_eq (n := 21) (t := 48) dX6_meets_18 rfl rfl (fun h18 => ?_) (fun h18 => ?_)
    · refine AW.aload_n (n := 49) dX6_meets_48 rfl rfl ?_
      refine AW.aload_n (n := 50) dX6_meets_49 rfl rfl ?_
      refine AW.gr (n := 53) dX6_meets_50 fl_X6_37 ha.1 rfl rfl ?_
      refine AW.iload_n (n := 54) dX6_meets_53 rfl rfl ?_
      refine AW.ia (n := 55) j dX6_meets_54 ha.2.2.2.2.1 rfl (by omega) (by decide) rfl ?_
      refine AW.iload (n := 57) dX6_meets_55 rfl rfl ?_
      refine AW.ev2i (Mc := mX6_isIn) (n := 60) dX6_meets_57 lk_X6_60 k_mX6_isIn ha.1 rfl rfl (c_X6_isIn ha ho.1 ho.2.1) (Nat.le_of_ble_eq_true rfl) (by decide) (Nat.zero_le _) (Nat.zero_le _) rfl ?_
      refine AW.bif_eq (n := 63) (t := 78) dX6_meets_60 rfl rfl (fun h60 => ?_) (fun h60 => ?_)
      · refine AW.iconst (n := 79) (v := 4) dX6_meets_78 rfl rfl ?_
        refine AW.iret dX6_meets_79 rfl rfl (Nat.zero_le _) (Nat.zero_le _) ?_
        exact ⟨by simp [sMeets, h5, h18, h60, hjc], rfl⟩
      · refine AW.iload (n := 65) dX6_meets_63 rfl rfl ?_
        refine AW.aload_n (n := 66) dX6_meets_65 rfl rfl ?_
        refine AW.gr (n := 69) dX6_meets_66 fl_X6_40 ha.1 rfl rfl ?_
        refine AW.iload_n (n := 70) dX6_meets_69 rfl rfl ?_
        refine AW.ia (n := 71) j dX6_meets_70 ha.2.2.2.2.2.1 rfl (by omega) (by decide) rfl ?_
        refine AW.icmp_ge (n := 74) (t := 78) dX6_meets_71 rfl rfl (fun h71 => ?_) (fun h71 => ?_)
        · refine AW.iconst (n := 79) (v := 4) dX6_meets_78 rfl rfl ?_
          refine AW.iret dX6_meets_79 rfl rfl (Nat.zero_le _) (Nat.zero_le _) ?_
          exact ⟨by simp [sMeets, h5, h18, h60, h71, hjc], rfl⟩
        · refine AW.iconst (n := 75) (v := 3) dX6_meets_74 rfl rfl ?_
          refine AW.goto (t := 79) dX6_meets_75 rfl ?_
          refine AW.iret dX6_meets_79 rfl rfl (Nat.zero_le _) (Nat.zero_le _) ?_
          exact ⟨by simp [sMeets, h5, h18, h60, h71, hjc], rfl⟩
    · refine AW.aload_n (n := 22) dX6_meets_21 rfl rfl ?_
      refine AW.iload_n (n := 23) dX6_meets_22 rfl rfl ?_
      refine AW.iload (n := 25) dX6_meets_23 rfl rfl ?_
      refine AW.ev2i (Mc := mX6_isIn) (n := 28) dX6_meets_25 lk_X6_60 k_mX6_isIn ha.1 rfl rfl (c_X6_isIn ha ho.1 ho.2.1) (Nat.le_of_ble_eq_true rfl) (by decide) (Nat.zero_le _) (Nat.zero_le _) rfl ?_
      refine AW.bif_eq (n := 31) (t := 48) dX6_meets_28 rfl rfl (fun h28 => ?_) (fun h28 => ?_)
      · refine AW.aload_n (n := 49) dX6_meets_48 rfl rfl ?_
        refine AW.aload_n (n := 50) dX6_meets_49 rfl rfl ?_
        refine AW.gr (n := 53) dX6_meets_50 fl_X6_37 ha.1 rfl rfl ?_
        refine AW.iload_n (n := 54) dX6_meets_53 rfl rfl ?_
        refine AW.ia (n := 55) j dX6_meets_54 ha.2.2.2.2.1 rfl (by omega) (by decide) rfl ?_
        refine AW.iload (n := 57) dX6_meets_55 rfl rfl ?_
        refine AW.ev2i (Mc := mX6_isIn) (n := 60) dX6_meets_57 lk_X6_60 k_mX6_isIn ha.1 rfl rfl (c_X6_isIn ha ho.1 ho.2.1) (Nat.le_of_ble_eq_true rfl) (by decide) (Nat.zero_le _) (Nat.zero_le _) rfl ?_
        refine AW.bif_eq (n := 63) (t := 78) dX6_meets_60 rfl rfl (fun h60 => ?_) (fun h60 => ?_)
        · refine AW.iconst (n := 79) (v := 4) dX6_meets_78 rfl rfl ?_
          refine AW.iret dX6_meets_79 rfl rfl (Nat.zero_le _) (Nat.zero_le _) ?_
          exact ⟨by simp [sMeets, h5, h18, h28, h60, hjc], rfl⟩
        · refine AW.iload (n := 65) dX6_meets_63 rfl rfl ?_
          refine AW.aload_n (n := 66) dX6_meets_65 rfl rfl ?_
          refine AW.gr (n := 69) dX6_meets_66 fl_X6_40 ha.1 rfl rfl ?_
          refine AW.iload_n (n := 70) dX6_meets_69 rfl rfl ?_
          refine AW.ia (n := 71) j dX6_meets_70 ha.2.2.2.2.2.1 rfl (by omega) (by decide) rfl ?_
          refine AW.icmp_ge (n := 74) (t := 78) dX6_meets_71 rfl rfl (fun h71 => ?_) (fun h71 => ?_)
          · refine AW.iconst (n := 79) (v := 4) dX6_meets_78 rfl rfl ?_
            refine AW.iret dX6_meets_79 rfl rfl (Nat.zero_le _) (Nat.zero_le _) ?_
            exact ⟨by simp [sMeets, h5, h18, h28, h60, h71, hjc], rfl⟩
          · refine AW.iconst (n := 75) (v := 3) dX6_meets_74 rfl rfl ?_
            refine AW.goto (t := 79) dX6_meets_75 rfl ?_
            refine AW.iret dX6_meets_79 rfl rfl (Nat.zero_le _) (Nat.zero_le _) ?_
            exact ⟨by simp [sMeets, h5, h18, h28, h60, h71, hjc], rfl⟩
      · refine AW.aload_n (n := 32) dX6_meets_31 rfl rfl ?_
        refine AW.iload (n := 34) dX6_meets_32 rfl rfl ?_
        refine AW.ev1i (Mc := mX6_dinOf) (n := 37) dX6_meets_34 lk_X6_64 k_mX6_dinOf ha.1 rfl rfl (c_X6_dinOf ha ho.2.2.1 ho.2.2.2) (Nat.le_of_ble_eq_true rfl) (by decide) (Nat.zero_le _) (Nat.zero_le _) rfl ?_
        refine AW.aload_n (n := 38) dX6_meets_37 rfl rfl ?_
        refine AW.gr (n := 41) dX6_meets_38 fl_X6_34 ha.1 rfl rfl ?_
        refine AW.iload_n (n := 42) dX6_meets_41 rfl rfl ?_
        refine AW.ia (n := 43) j dX6_meets_42 ha.2.2.2.1 rfl (by omega) (by decide) rfl ?_
        refine AW.icmp_ge (n := 46) (t := 48) dX6_meets_43 rfl rfl (fun h43 => ?_) (fun h43 => ?_)
        · refine AW.aload_n (n := 49) dX6_meets_48 rfl rfl ?_
          refine AW.aload_n (n := 50) dX6_meets_49 rfl rfl ?_
          refine AW.gr (n := 53) dX6_meets_50 fl_X6_37 ha.1 rfl rfl ?_
          refine AW.iload_n (n := 54) dX6_meets_53 rfl rfl ?_
          refine AW.ia (n := 55) j dX6_meets_54 ha.2.2.2.2.1 rfl (by omega) (by decide) rfl ?_
          refine AW.iload (n := 57) dX6_meets_55 rfl rfl ?_
          refine AW.ev2i (Mc := mX6_isIn) (n := 60) dX6_meets_57 lk_X6_60 k_mX6_isIn ha.1 rfl rfl (c_X6_isIn ha ho.1 ho.2.1) (Nat.le_of_ble_eq_true rfl) (by decide) (Nat.zero_le _) (Nat.zero_le _) rfl ?_
          refine AW.bif_eq (n := 63) (t := 78) dX6_meets_60 rfl rfl (fun h60 => ?_) (fun h60 => ?_)
          · refine AW.iconst (n := 79) (v := 4) dX6_meets_78 rfl rfl ?_
            refine AW.iret dX6_meets_79 rfl rfl (Nat.zero_le _) (Nat.zero_le _) ?_
            exact ⟨by simp [sMeets, h5, h18, h28, h43, h60, hjc], rfl⟩
          · refine AW.iload (n := 65) dX6_meets_63 rfl rfl ?_
            refine AW.aload_n (n := 66) dX6_meets_65 rfl rfl ?_
            refine AW.gr (n := 69) dX6_meets_66 fl_X6_40 ha.1 rfl rfl ?_
            refine AW.iload_n (n := 70) dX6_meets_69 rfl rfl ?_
            refine AW.ia (n := 71) j dX6_meets_70 ha.2.2.2.2.2.1 rfl (by omega) (by decide) rfl ?_
            refine AW.icmp_ge (n := 74) (t := 78) dX6_meets_71 rfl rfl (fun h71 => ?_) (fun h71 => ?_)
            · refine AW.iconst (n := 79) (v := 4) dX6_meets_78 rfl rfl ?_
              refine AW.iret dX6_meets_79 rfl rfl (Nat.zero_le _) (Nat.zero_le _) ?_
              exact ⟨by simp [sMeets, h5, h18, h28, h43, h60, h71, hjc], rfl⟩
            · refine AW.iconst (n := 75) (v := 3) dX6_meets_74 rfl rfl ?_
              refine AW.goto (t := 79) dX6_meets_75 rfl ?_
              refine AW.iret dX6_meets_79 rfl rfl (Nat.zero_le _) (Nat.zero_le _) ?_
              exact ⟨by simp [sMeets, h5, h18, h28, h43, h60, h71, hjc], rfl⟩
        · refine AW.iconst (n := 47) (v := 2) dX6_meets_46 rfl rfl ?_
          refine AW.iret dX6_meets_47 rfl rfl (Nat.zero_le _) (Nat.zero_le _) ?_
          exact ⟨by simp [sMeets, h5, h18, h28, h43, hjc], rfl⟩
  · refine AW.iconst (n := 9) (v := 4) dX6_meets_8 rfl rfl ?_
    refine AW.iret dX6_meets_9 rfl rfl (Nat.zero_le _) (Nat.zero_le _) ?_
    exact ⟨by simp [sMeets, h5], rfl⟩
set_option maxHeartbeats 4000000 in
set_option maxRecDepth 100000 in
theorem c_X1_counts {μ : Me} {e : Nat × (Nat → aC)} {a j : Nat} (ha : sD a) (hj : j < 7) : AC 0 0 0 mX1_counts [.ref a, .int (nI j)] (wS μ e) (a_eq (some (.int (b2i (sCounts (μ (a + 1) j))))) (wS μ e)) := by
  refine AC.of (L := [some (.ref a), some (.int (nI j))]) (j := 0) (by decide) rfl (Nat.le_of_ble_eq_true rfl) ?_
  refine AW.aload_n (n := 1) dX1_counts_0 rfl rfl ?_
  refine AW.gr (n := 4) dX1_counts_1 fl_X1_9 ha.1 rfl rfl ?_
  refine AW.iload_n (n := 5) dX1_counts_4 rfl rfl ?_
  refine AW.ia (n := 6) _ dX1_counts_5 ha.2.1 rfl (by omega) (by decide) rfl ?_
  refine AW.iconst (n := 7) (v := 1) dX1_counts_6 rfl rfl ?_
  refine AW.icmp_eq (n := 10) (t := 20) dX1_counts_7 rfl rfl (fun h7 => ?_) (fun h7 => ?_)
  · refine AW.iconst (n := 21) (v := 1) dX1_counts_20 rfl rfl ?_
    refine AW.goto (t := 25) dX1_counts_21 rfl ?_
    refine AW.iret dX1_counts_25 rfl rfl (Nat.zero_le _) (Nat.zero_le _) ?_
    exact ⟨by simp [sCounts, b2i, h7], rfl⟩
  · refine AW.aload_n (n := 11) dX1_counts_10 rfl rfl ?_
    refine AW.gr (n := 14) dX1_counts_11 fl_X1_9 ha.1 rfl rfl ?_
    refine AW.iload_n (n := 15) dX1_counts_14 rfl rfl ?_
    refine AW.ia (n := 16) _ dX1_counts_15 ha.2.1 rfl (by omega) (by decide) rfl ?_
    refine AW.iconst (n := 17) (v := 4) dX1_counts_16 rfl rfl ?_
    refine AW.icmp_ne (n := 20) (t := 24) dX1_counts_17 rfl rfl (fun h17 => ?_) (fun h17 => ?_)
    · refine AW.iconst (n := 25) (v := 0) dX1_counts_24 rfl rfl ?_
      refine AW.iret dX1_counts_25 rfl rfl (Nat.zero_le _) (Nat.zero_le _) ?_
      exact ⟨by simp [sCounts, b2i, h7, h17], rfl⟩
    · refine AW.iconst (n := 21) (v := 1) dX1_counts_20 rfl rfl ?_
      refine AW.goto (t := 25) dX1_counts_21 rfl ?_
      refine AW.iret dX1_counts_25 rfl rfl (Nat.zero_le _) (Nat.zero_le _) ?_
      exact ⟨by simp [sCounts, b2i, h7, h17], rfl⟩
