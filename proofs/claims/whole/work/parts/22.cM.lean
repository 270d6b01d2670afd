def sFl (hs op sz wy hd bk : Int32) : List Value := [.ref 10, .ref 17, .int hs, .int op, .int sz, .int wy, .int hd, .int bk]
def sE (e : Nat × (Nat → aC)) (fs : List Value) : Nat × (Nat → aC) := (e.1 + 1, a_up e.2 (154 + e.1) (.inr (4, fs)))
theorem sk_ge {a : Nat} (h : 154 ≤ a) : sk a = none := by
  cases q : sk a with
  | none => rfl
  | some s => exact absurd (sk_lt q) (by omega)
theorem wd_sE (μ : Me) (e : Nat × (Nat → aC)) (fs : List Value) : wd μ (sE e fs).2 (154 + e.1) = .inr (4, fs) := by
  unfold wd
  rw [sk_ge (by omega)]
  simp [sE, a_up]
theorem wS_push (μ : Me) (e : Nat × (Nat → aC)) (fs : List Value) : ((wS μ e).1 + 1, a_up (wS μ e).2 (wS μ e).1 (.inr (4, fs))) = wS μ (sE e fs) := by
  unfold wS sE
  refine Prod.ext (by show 154 + e.1 + 1 = 154 + (e.1 + 1); omega) ?_
  funext i
  show a_up (wd μ e.2) (154 + e.1) _ i = wd μ _ i
  unfold a_up
  by_cases hi : i = 154 + e.1
  · subst hi
    unfold wd
    rw [sk_ge (by omega)]
    try simp
  · rw [if_neg hi]
    unfold wd
    cases sk i with
    | none => simp [hi]
    | some s => rfl
theorem wS_set (μ : Me) (e : Nat × (Nat → aC)) (fs fs' : List Value) : ((wS μ (sE e fs)).1, a_up (wS μ (sE e fs)).2 (154 + e.1) (.inr (4, fs'))) = wS μ (sE e fs') := by
  unfold wS sE
  refine Prod.ext rfl ?_
  funext i
  show a_up (wd μ _) (154 + e.1) _ i = wd μ _ i
  unfold a_up
  by_cases hi : i = 154 + e.1
  · subst hi
    unfold wd
    rw [sk_ge (by omega)]
    try simp
  · rw [if_neg hi]
    unfold wd
    cases sk i with
    | none => simp [hi]
    | some s => rfl
theorem sE_lt (μ : Me) (e : Nat × (Nat → aC)) (fs : List Value) : 154 + e.1 < (wS μ (sE e fs)).1 := by show 154 + e.1 < 154 + (e.1 + 1); omega
section SeR
variable {scr : Option (Nat × (Nat → Int32))} {k mc ms : Nat} {M : aM} {c0 s0 pc n : Nat} {L : List (Option Value)} {st rest : List Value} {σ1 : aS} {μ : Me} {e : Nat × (Nat → aC)} {fs : List Value} {P : Option Value → aS → Prop}
theorem AW.sg {idx j : Nat} {v : Value} (hd : decode M.2.1 pc = .ok (.getfield idx, 3)) (hf : a_fl M.1.cls idx 4 j) (hv : fs[j]? = some v) (hn : pc + 3 = n) (h : AW scr k mc ms M c0 s0 n L (v :: st) (wS μ (sE e fs)) P) : AW scr k mc ms M c0 s0 pc L (.ref (154 + e.1) :: st) (wS μ (sE e fs)) P :=
  AW.getf0 hd hf (sE_lt μ e fs) (wd_sE μ e fs) hv hn h
theorem AW.sp {idx j : Nat} {v : Value} {ty : FieldType} {fin : Bool} (hd : decode M.2.1 pc = .ok (.putfield idx, 3)) (hf : a_fp M.1.cls idx 4 j ty fin) (hfi : fin = true → M.1.name = "<init>") (hj : j < fs.length) (hv : ∀ G : aG, narrow ty (a_v G v) = a_v G v ∧ fits ty (a_v G v) = true) (hn : pc + 3 = n) (h : AW scr k mc ms M c0 s0 n L st (wS μ (sE e (fs.set j v))) P) : AW scr k mc ms M c0 s0 pc L (v :: .ref (154 + e.1) :: st) (wS μ (sE e fs)) P := by
  refine AW.put0 hd hf hfi (sE_lt μ e fs) (wd_sE μ e fs) hj hv hn ?_
  rw [wS_set]
  exact h
theorem AW.cS0i {idx kc : Nat} {Mc : aM} {x : Int32} (hd : decode M.2.1 pc = .ok (.invokevirtual idx, 3)) (hl : a_lk M.1.cls idx Mc.1) (hcb : a_cv Mc 0) (hM : AC kc 0 0 Mc [.ref (154 + e.1)] (wS μ (sE e fs)) (a_eq (some (.int x)) σ1)) (hrs : rest.length ≤ 4) (hk : kc + 1 ≤ k) (hc0 : c0 ≤ mc) (hs0 : s0 ≤ ms) (hn : pc + 3 = n) (h : AW scr k mc ms M c0 s0 n L (.int x :: rest) σ1 P) (hcls : RX4 = Mc.1.cls := by rfl) : AW scr k mc ms M c0 s0 pc L (.ref (154 + e.1) :: rest) (wS μ (sE e fs)) P := AW.callv0 hd hl hcb hM rfl rfl hrs hk hc0 hs0 (sE_lt μ e fs) (wd_sE μ e fs) (ci := 4) (q := (RX4, TX4, 8)) rfl hcls hn (fun r σ2 hp => by obtain ⟨rfl, rfl⟩ := hp; exact h)
theorem AW.cS0v {idx kc : Nat} {Mc : aM} (hd : decode M.2.1 pc = .ok (.invokevirtual idx, 3)) (hl : a_lk M.1.cls idx Mc.1) (hcb : a_cv Mc 0) (hM : AC kc 0 0 Mc [.ref (154 + e.1)] (wS μ (sE e fs)) (a_eq none σ1)) (hrs : rest.length ≤ 4) (hk : kc + 1 ≤ k) (hc0 : c0 ≤ mc) (hs0 : s0 ≤ ms) (hn : pc + 3 = n) (h : AW scr k mc ms M c0 s0 n L (rest) σ1 P) (hcls : RX4 = Mc.1.cls := by rfl) : AW scr k mc ms M c0 s0 pc L (.ref (154 + e.1) :: rest) (wS μ (sE e fs)) P := AW.callv0 hd hl hcb hM rfl rfl hrs hk hc0 hs0 (sE_lt μ e fs) (wd_sE μ e fs) (ci := 4) (q := (RX4, TX4, 8)) rfl hcls hn (fun r σ2 hp => by obtain ⟨rfl, rfl⟩ := hp; exact h)
theorem AW.cS2i {idx kc : Nat} {Mc : aM} {v0 v1 : Value} {x : Int32} (hd : decode M.2.1 pc = .ok (.invokevirtual idx, 3)) (hl : a_lk M.1.cls idx Mc.1) (hcb : a_cv Mc 2) (hM : AC kc 0 0 Mc [.ref (154 + e.1), v0, v1] (wS μ (sE e fs)) (a_eq (some (.int x)) σ1)) (hrs : rest.length ≤ 4) (hk : kc + 1 ≤ k) (hc0 : c0 ≤ mc) (hs0 : s0 ≤ ms) (hn : pc + 3 = n) (h : AW scr k mc ms M c0 s0 n L (.int x :: rest) σ1 P) (hcls : RX4 = Mc.1.cls := by rfl) : AW scr k mc ms M c0 s0 pc L (v1 :: v0 :: .ref (154 + e.1) :: rest) (wS μ (sE e fs)) P := AW.callv0 hd hl hcb hM rfl rfl hrs hk hc0 hs0 (sE_lt μ e fs) (wd_sE μ e fs) (ci := 4) (q := (RX4, TX4, 8)) rfl hcls hn (fun r σ2 hp => by obtain ⟨rfl, rfl⟩ := hp; exact h)
theorem AW.cS2v {idx kc : Nat} {Mc : aM} {v0 v1 : Value} (hd : decode M.2.1 pc = .ok (.invokevirtual idx, 3)) (hl : a_lk M.1.cls idx Mc.1) (hcb : a_cv Mc 2) (hM : AC kc 0 0 Mc [.ref (154 + e.1), v0, v1] (wS μ (sE e fs)) (a_eq none σ1)) (hrs : rest.length ≤ 4) (hk : kc + 1 ≤ k) (hc0 : c0 ≤ mc) (hs0 : s0 ≤ ms) (hn : pc + 3 = n) (h : AW scr k mc ms M c0 s0 n L (rest) σ1 P) (hcls : RX4 = Mc.1.cls := by rfl) : AW scr k mc ms M c0 s0 pc L (v1 :: v0 :: .ref (154 + e.1) :: rest) (wS μ (sE e fs)) P := AW.callv0 hd hl hcb hM rfl rfl hrs hk hc0 hs0 (sE_lt μ e fs) (wd_sE μ e fs) (ci := 4) (q := (RX4, TX4, 8)) rfl hcls hn (fun r σ2 hp => by obtain ⟨rfl, rfl⟩ := hp; exact h)
theorem AW.cS3i {idx kc : Nat} {Mc : aM} {v0 v1 v2 : Value} {x : Int32} (hd : decode M.2.1 pc = .ok (.invokevirtual idx, 3)) (hl : a_lk M.1.cls idx Mc.1) (hcb : a_cv Mc 3) (hM : AC kc 0 0 Mc [.ref (154 + e.1), v0, v1, v2] (wS μ (sE e fs)) (a_eq (some (.int x)) σ1)) (hrs : rest.length ≤ 4) (hk : kc + 1 ≤ k) (hc0 : c0 ≤ mc) (hs0 : s0 ≤ ms) (hn : pc + 3 = n) (h : AW scr k mc ms M c0 s0 n L (.int x :: rest) σ1 P) (hcls : RX4 = Mc.1.cls := by rfl) : AW scr k mc ms M c0 s0 pc L (v2 :: v1 :: v0 :: .ref (154 + e.1) :: rest) (wS μ (sE e fs)) P := AW.callv0 hd hl hcb hM rfl rfl hrs hk hc0 hs0 (sE_lt μ e fs) (wd_sE μ e fs) (ci := 4) (q := (RX4, TX4, 8)) rfl hcls hn (fun r σ2 hp => by obtain ⟨rfl, rfl⟩ := hp; exact h)
theorem AW.cS3v {idx kc : Nat} {Mc : aM} {v0 v1 v2 : Value} (hd : decode M.2.1 pc = .ok (.invokevirtual idx, 3)) (hl : a_lk M.1.cls idx Mc.1) (hcb : a_cv Mc 3) (hM : AC kc 0 0 Mc [.ref (154 + e.1), v0, v1, v2] (wS μ (sE e fs)) (a_eq none σ1)) (hrs : rest.length ≤ 4) (hk : kc + 1 ≤ k) (hc0 : c0 ≤ mc) (hs0 : s0 ≤ ms) (hn : pc + 3 = n) (h : AW scr k mc ms M c0 s0 n L (rest) σ1 P) (hcls : RX4 = Mc.1.cls := by rfl) : AW scr k mc ms M c0 s0 pc L (v2 :: v1 :: v0 :: .ref (154 + e.1) :: rest) (wS μ (sE e fs)) P := AW.callv0 hd hl hcb hM rfl rfl hrs hk hc0 hs0 (sE_lt μ e fs) (wd_sE μ e fs) (ci := 4) (q := (RX4, TX4, 8)) rfl hcls hn (fun r σ2 hp => by obtain ⟨rfl, rfl⟩ := hp; exact h)
end SeR
theorem sBit_t {x s : Int32} (h : ¬ (x >>> (s &&& 31)) &&& 1 = 0) : sBit x s = true := by unfold sBit; rw [decide_eq_false h]; rfl
theorem sBit_f {x s : Int32} (h : (x >>> (s &&& 31)) &&& 1 = 0) : sBit x s = false := by unfold sBit; rw [decide_eq_true h]; rfl
def sBeat (hd bk mo so : Int32) : Bool := decide (hd < mo) || (decide (mo = hd) && !decide (bk ≤ so))
abbrev sB3 : Type := Int32 × Int32 × Int32
def sFold (F : Nat → sB3 → sB3) : Nat → sB3 → sB3
  | 0, B => B
  | s + 1, B => F s (sFold F s B)
def sTh (μ : Me) (yd sc : Int32) (s : Nat) : Int32 := sc + sBetw μ 10 yd (μ 11 s)
def sBec (μ : Me) (hs : Int32) (dp : Nat) (yd sc : Int32) (s : Nat) : Int32 := sMeets μ 10 (nI s) (sTh μ yd sc s) (sRings (nI (dp + 1)) hs) (μ 19 s)
def sGone (μ : Me) (hs : Int32) (dp : Nat) (yd sc : Int32) (s : Nat) : Int32 := sTh μ yd sc s + sDoor μ 10 (sRings (nI (dp + 1)) hs) (sBec μ hs dp yd sc s)
def sGot (μ : Me) (hs : Int32) (dp : Nat) (yd sc gv : Int32) (s : Nat) : Int32 := if sBec μ hs dp yd sc s = 2 then gv + 1 else gv
def sF (μ : Me) (hs op : Int32) (X : Int32 → Int32 → Int32 → Int32 → Int32 → sB3 → sB3) (dp : Nat) (used yd sc gv rw : Int32) : Nat → sB3 → sB3 := fun s B =>
  if sBit (op &&& (used ^^^ (-1))) (nI s) then X (used ||| ((1 : Int32) <<< (nI s &&& 31))) (μ 11 s) (sGone μ hs dp yd sc s) (sGot μ hs dp yd sc gv s) (rw * 10 + nI s + 1) B else B
def sExt (μ : Me) (n : Nat) (hs op sz : Int32) : Nat → Nat → Int32 → Int32 → Int32 → Int32 → Int32 → sB3 → sB3
  | 0, _, _, _, _, _, _, B => B
  | r + 1, dp, used, yd, sc, gv, rw, B =>
    if sBeat B.2.1 B.2.2 (gv + sz - nI dp) (sc + sBetw μ 10 yd 0) then
      (if sz ≤ nI dp then (rw, gv, sc + sBetw μ 10 yd 0) else if nI dp < 7 then
        sFold (sF μ hs op (fun used' yd' sc' gv' rw' B' => sExt μ n hs op sz r (dp + 1) used' yd' sc' gv' rw' B') dp used yd sc gv rw) n B
        else (rw, gv, sc + sBetw μ 10 yd 0))
    else B
def sOpen (μ : Me) (n : Nat) : Int32 := sWhich (μ 18) 1 n ||| sWhich (μ 18) 4 n
def sSeek (μ : Me) (n : Nat) (h : Int32) : sB3 := if sBC (sOpen μ n) ≤ 0 then (-1, -1, -1) else sExt μ n h (sOpen μ n) (sBC (sOpen μ n)) 8 0 0 0 0 0 0 (-1, -1, -1)
def oBest (μ : Me) (n : Nat) (h w : Int32) : Int32 := if sWithin h 0 3 then (if sWithin w 0 2 then (if w = 0 then (sSeek μ n h).1 else if w = 1 then (sSeek μ n h).2.1 else (sSeek μ n h).2.2) else -1000000002) else -1000000002
set_option maxHeartbeats 4000000 in
set_option maxRecDepth 100000 in
theorem c_X4_canBeat {μ : Me} {e : Nat × (Nat → aC)} {hs op sz wy hd bk mo so : Int32}  : AC 0 0 0 mX4_canBeat [.ref (154 + e.1), .int mo, .int so] (wS μ (sE e (sFl hs op sz wy hd bk))) (a_eq (some (.int (b2i (sBeat hd bk mo so)))) (wS μ (sE e (sFl hs op sz wy hd bk)))) := by
  refine AC.of (L := [some (.ref (154 + e.1)), some (.int mo), some (.int so)]) (j := 0) (by decide) rfl (Nat.le_of_ble_eq_true rfl) ?_
  refine AW.iload_n (n := 1) dX4_canBeat_0 rfl rfl ?_
  refine AW.aload_n (n := 2) dX4_canBeat_1 rfl rfl ?_
  refine AW.sg (n := 5) dX4_canBeat_2 fl_X4_15 rfl rfl ?_
  refine AW.icmp_gt (n := 8) (t := 24) dX4_canBeat_5 rfl rfl (fun h5 => ?_) (fun h5 => ?_)
  · refine AW.iconst (n := 25) (v := 1) dX4_canBeat_24 rfl rfl ?_
    refine AW.goto (t := 29) dX4_canBeat_25 rfl ?_
    refine AW.iret dX4_canBeat_29 rfl rfl (Nat.zero_le _) (Nat.zero_le _) ?_
    exact ⟨by simp [sBeat, b2i, h5], rfl⟩
  · refine AW.iload_n (n := 9) dX4_canBeat_8 rfl rfl ?_
    refine AW.aload_n (n := 10) dX4_canBeat_9 rfl rfl ?_
    refine AW.sg (n := 13) dX4_canBeat_10 fl_X4_15 rfl rfl ?_
    refine AW.icmp_ne (n := 16) (t := 28) dX4_canBeat_13 rfl rfl (fun h13 => ?_) (fun h13 => ?_)
    · refine AW.iconst (n := 29) (v := 0) dX4_canBeat_28 rfl rfl ?_
      refine AW.iret dX4_canBeat_29 rfl rfl (Nat.zero_le _) (Nat.zero_le _) ?_
      exact ⟨by simp [sBeat, b2i, h5, h13], rfl⟩
    · refine AW.iload_n (n := 17) dX4_canBeat_16 rfl rfl ?_
      refine AW.aload_n (n := 18) dX4_canBeat_17 rfl rfl ?_
      refine AW.sg (n := 21) dX4_canBeat_18 fl_X4_18 rfl rfl ?_
      refine AW.icmp_ge (n := 24) (t := 28) dX4_canBeat_21 rfl rfl (fun h21 => ?_) (fun h21 => ?_)
      · refine AW.iconst (n := 29) (v := 0) dX4_canBeat_28 rfl rfl ?_
        refine AW.iret dX4_canBeat_29 rfl rfl (Nat.zero_le _) (Nat.zero_le _) ?_
        exact ⟨by simp [sBeat, b2i, h5, h13, h21], rfl⟩
      · refine AW.iconst (n := 25) (v := 1) dX4_canBeat_24 rfl rfl ?_
        refine AW.goto (t := 29) dX4_canBeat_25 rfl ?_
        refine AW.iret dX4_canBeat_29 rfl rfl (Nat.zero_le _) (Nat.zero_le _) ?_
        exact ⟨by simp [sBeat, b2i, h5, h13, h21], rfl⟩
set_option maxHeartbeats 4000000 in
set_option maxRecDepth 100000 in
theorem c_X4_settle {μ : Me} {e : Nat × (Nat → aC)} {hs op sz wy hd bk a b c : Int32}  : AC 0 0 0 mX4_settle [.ref (154 + e.1), .int a, .int b, .int c] (wS μ (sE e (sFl hs op sz wy hd bk))) (a_eq none (wS μ (sE e (sFl hs op sz a b c)))) := by
  refine AC.of (L := [some (.ref (154 + e.1)), some (.int a), some (.int b), some (.int c)]) (j := 0) (by decide) rfl (Nat.le_of_ble_eq_true rfl) ?_
  refine AW.aload_n (n := 1) dX4_settle_0 rfl rfl ?_
  refine AW.iload_n (n := 2) dX4_settle_1 rfl rfl ?_
  refine AW.sp (n := 5) dX4_settle_2 fp_X4_9 (fun q => by cases q) (Nat.le_of_ble_eq_true rfl) (fun _ => ⟨rfl, rfl⟩) rfl ?_
  refine AW.aload_n (n := 6) dX4_settle_5 rfl rfl ?_
  refine AW.iload_n (n := 7) dX4_settle_6 rfl rfl ?_
  refine AW.sp (n := 10) dX4_settle_7 fp_X4_15 (fun q => by cases q) (Nat.le_of_ble_eq_true rfl) (fun _ => ⟨rfl, rfl⟩) rfl ?_
  refine AW.aload_n (n := 11) dX4_settle_10 rfl rfl ?_
  refine AW.iload_n (n := 12) dX4_settle_11 rfl rfl ?_
  refine AW.sp (n := 15) dX4_settle_12 fp_X4_18 (fun q => by cases q) (Nat.le_of_ble_eq_true rfl) (fun _ => ⟨rfl, rfl⟩) rfl ?_
  refine AW.ret dX4_settle_15 rfl (Nat.zero_le _) (Nat.zero_le _) ?_
  exact ⟨rfl, rfl⟩
set_option maxHeartbeats 4000000 in
set_option maxRecDepth 100000 in
theorem c_X4_init {μ : Me} {e : Nat × (Nat → aC)} {n : Nat} {h : Int32} (hn : μ 10 3 = nI n) (h7 : n ≤ 7) : AC 2 0 0 mX4_init [.ref (154 + e.1), .ref 10, .ref 17, .int h] (wS μ (sE e [.null, .null, .int 0, .int 0, .int 0, .int 0, .int 0, .int 0])) (a_eq none (wS μ (sE e (sFl h (sOpen μ n) (sBC (sOpen μ n)) (-1) (-1) (-1))))) := by
  refine AC.of (L := [some (.ref (154 + e.1)), some (.ref 10), some (.ref 17), some (.int h)]) (j := 0) (by decide) rfl (Nat.le_of_ble_eq_true rfl) ?_
  refine AW.aload_n (n := 1) dX4_init_0 rfl rfl ?_
  refine AW.objInit (cc := ⟨#[]⟩) (n := 4) dX4_init_1 lj_X4_3 oi_in oi_code (Nat.le_of_ble_eq_true rfl) (by decide) rfl ?_
  refine AW.aload_n (n := 5) dX4_init_4 rfl rfl ?_
  refine AW.iconst (n := 6) (v := -1) dX4_init_5 rfl rfl ?_
  refine AW.sp (n := 9) dX4_init_6 fp_X4_9 (fun _ => rfl) (Nat.le_of_ble_eq_true rfl) (fun _ => ⟨rfl, rfl⟩) rfl ?_
  refine AW.aload_n (n := 10) dX4_init_9 rfl rfl ?_
  refine AW.iconst (n := 11) (v := -1) dX4_init_10 rfl rfl ?_
  refine AW.sp (n := 14) dX4_init_11 fp_X4_15 (fun _ => rfl) (Nat.le_of_ble_eq_true rfl) (fun _ => ⟨rfl, rfl⟩) rfl ?_
  refine AW.aload_n (n := 15) dX4_init_14 rfl rfl ?_
  refine AW.iconst (n := 16) (v := -1) dX4_init_15 rfl rfl ?_
  refine AW.sp (n := 19) dX4_init_16 fp_X4_18 (fun _ => rfl) (Nat.le_of_ble_eq_true rfl) (fun _ => ⟨rfl, rfl⟩) rfl ?_
  refine AW.aload_n (n := 20) dX4_init_19 rfl rfl ?_
  refine AW.aload_n (n := 21) dX4_init_20 rfl rfl ?_
  refine AW.sp (n := 24) dX4_init_21 fp_X4_21 (fun _ => rfl) (Nat.le_of_ble_eq_true rfl) (fun _ => ⟨rfl, rfl⟩) rfl ?_
  refine AW.aload_n (n := 25) dX4_init_24 rfl rfl ?_
  refine AW.aload_n (n := 26) dX4_init_25 rfl rfl ?_
  refine AW.sp (n := 29) dX4_init_26 fp_X4_25 (fun _ => rfl) (Nat.le_of_ble_eq_true rfl) (fun _ => ⟨rfl, rfl⟩) rfl ?_
  refine AW.aload_n (n := 30) dX4_init_29 rfl rfl ?_
  refine AW.iload_n (n := 31) dX4_init_30 rfl rfl ?_
  refine AW.sp (n := 34) dX4_init_31 fp_X4_29 (fun _ => rfl) (Nat.le_of_ble_eq_true rfl) (fun _ => ⟨rfl, rfl⟩) rfl ?_
  refine AW.aload_n (n := 35) dX4_init_34 rfl rfl ?_
  refine AW.aload_n (n := 36) dX4_init_35 rfl rfl ?_
  refine AW.iconst (n := 37) (v := 1) dX4_init_36 rfl rfl ?_
  refine AW.aload_n (n := 38) dX4_init_37 rfl rfl ?_
  refine AW.gi (n := 41) dX4_init_38 fl_X4_32 s_10 rfl rfl ?_
  rw [hn]
  refine AW.ev2i (Mc := mX1_which) (n := 44) dX4_init_41 lk_X4_37 k_mX1_which s_17 rfl rfl (c_X1_which (a := 17) (n := n) sD_17 h7) (Nat.le_of_ble_eq_true rfl) (by decide) (Nat.zero_le _) (Nat.zero_le _) rfl ?_
  refine AW.aload_n (n := 45) dX4_init_44 rfl rfl ?_
  refine AW.iconst (n := 46) (v := 4) dX4_init_45 rfl rfl ?_
  refine AW.aload_n (n := 47) dX4_init_46 rfl rfl ?_
  refine AW.gi (n := 50) dX4_init_47 fl_X4_32 s_10 rfl rfl ?_
  rw [hn]
  refine AW.ev2i (Mc := mX1_which) (n := 53) dX4_init_50 lk_X4_37 k_mX1_which s_17 rfl rfl (c_X1_which (a := 17) (n := n) sD_17 h7) (Nat.le_of_ble_eq_true rfl) (by decide) (Nat.zero_le _) (Nat.zero_le _) rfl ?_
  refine AW.ior (n := 54) dX4_init_53 rfl ?_
  refine AW.sp (n := 57) dX4_init_54 fp_X4_43 (fun _ => rfl) (Nat.le_of_ble_eq_true rfl) (fun _ => ⟨rfl, rfl⟩) rfl ?_
  refine AW.aload_n (n := 58) dX4_init_57 rfl rfl ?_
  refine AW.aload_n (n := 59) dX4_init_58 rfl rfl ?_
  refine AW.sg (n := 62) dX4_init_59 fl_X4_43 rfl rfl ?_
  refine AW.es1i (Mc := mJ6_bitCount_0f7a4) (n := 65) dX4_init_62 lk_X4_46 k_mJ6_bitCount_0f7a4 (c_J6_bitCount_0f7a4) (Nat.le_of_ble_eq_true rfl) (by decide) (Nat.zero_le _) (Nat.zero_le _) rfl ?_
  refine AW.sp (n := 68) dX4_init_65 fp_X4_52 (fun _ => rfl) (Nat.le_of_ble_eq_true rfl) (fun _ => ⟨rfl, rfl⟩) rfl ?_
  refine AW.ret dX4_init_68 rfl (Nat.zero_le _) (Nat.zero_le _) ?_
  exact ⟨rfl, rfl⟩
set_option maxHeartbeats 4000000 in
set_option maxRecDepth 100000 in
theorem l_X4_extend {μ : Me} {e : Nat × (Nat → aC)} {n dn r dp : Nat} {hs op sz used yd sc gv rw so : Int32} {B : sB3} (ho : sOk μ 10 n dn) (hdp : dp ≤ 7)
    (IH : ∀ (used yd sc gv rw : Int32) (B : sB3), AC (r + 3) 0 0 mX4_extend [.ref (154 + e.1), .int (nI (dp + 1)), .int used, .int yd, .int sc, .int gv, .int rw] (wS μ (sE e (sFl hs op sz B.1 B.2.1 B.2.2))) (a_eq none (wS μ (sE e (sFl hs op sz (sExt μ n hs op sz (r + 1) (dp + 1) used yd sc gv rw B).1 (sExt μ n hs op sz (r + 1) (dp + 1) used yd sc gv rw B).2.1 (sExt μ n hs op sz (r + 1) (dp + 1) used yd sc gv rw B).2.2))))) :
    ∀ (m s : Nat) (L10 L11 L12 L13 L14 : Option Value), n - s < m → s ≤ n → AW none (r + 4) 0 0 mX4_extend 0 0 73 [some (.ref (154 + e.1)), some (.int (nI dp)), some (.int used), some (.int yd), some (.int sc), some (.int gv), some (.int rw), some (.int so), some (.int (b2i (sRings (nI (dp + 1)) hs))), some (.int (nI s)), L10, L11, L12, L13, L14] [] (wS μ (sE e (sFl hs op sz (sFold (sF μ hs op (fun used' yd' sc' gv' rw' B' => sExt μ n hs op sz (r + 1) (dp + 1) used' yd' sc' gv' rw' B') dp used yd sc gv rw) s B).1 (sFold (sF μ hs op (fun used' yd' sc' gv' rw' B' => sExt μ n hs op sz (r + 1) (dp + 1) used' yd' sc' gv' rw' B') dp used yd sc gv rw) s B).2.1 (sFold (sF μ hs op (fun used' yd' sc' gv' rw' B' => sExt μ n hs op sz (r + 1) (dp + 1) used' yd' sc' gv' rw' B') dp used yd sc gv rw) s B).2.2))) (a_eq none (wS μ (sE e (sFl hs op sz (sFold (sF μ hs op (fun used' yd' sc' gv' rw' B' => sExt μ n hs op sz (r + 1) (dp + 1) used' yd' sc' gv' rw' B') dp used yd sc gv rw) n B).1 (sFold (sF μ hs op (fun used' yd' sc' gv' rw' B' => sExt μ n hs op sz (r + 1) (dp + 1) used' yd' sc' gv' rw' B') dp used yd sc gv rw) n B).2.1 (sFold (sF μ hs op (fun used' yd' sc' gv' rw' B' => sExt μ n hs op sz (r + 1) (dp + 1) used' yd' sc' gv' rw' B') dp used yd sc gv rw) n B).2.2)))) := by
  have h7 := ho.2.1
  intro m
  induction m with
  | zero => intro s L10 L11 L12 L13 L14 hm; exact absurd hm (Nat.not_lt_zero _)
  | succ m ih =>
    intro s L10 L11 L12 L13 L14 hm hc
    generalize hF : (sF μ hs op (fun used' yd' sc' gv' rw' B' => sExt μ n hs op sz (r + 1) (dp + 1) used' yd' sc' gv' rw' B') dp used yd sc gv rw) = F at ih ⊢
    refine AW.iload (n := 75) dX4_extend_73 rfl rfl ?_
    refine AW.aload_n (n := 76) dX4_extend_75 rfl rfl ?_
    refine AW.sg (n := 79) dX4_extend_76 fl_X4_21 rfl rfl ?_
    refine AW.gi (n := 82) dX4_extend_79 fl_X4_32 s_10 rfl rfl ?_
    refine AW.icmp_ge (n := 85) (t := 224) dX4_extend_82 rfl rfl (fun h82 => ?_) (fun h82 => ?_)
    · have hi : n ≤ s := le_lit (b := n) (x := nI s) rfl (by omega) (by omega) (by rw [← ho.1]; exact h82)
      have he : s = n := by omega
      subst he
      refine AW.ret dX4_extend_224 rfl (Nat.zero_le _) (Nat.zero_le _) ?_
      exact ⟨rfl, rfl⟩
    · have hi : s < n := nle_lit (b := n) (x := nI s) rfl (by omega) (by omega) (by rw [← ho.1]; exact h82)
      refine AW.aload_n (n := 86) dX4_extend_85 rfl rfl ?_
      refine AW.sg (n := 89) dX4_extend_86 fl_X4_43 rfl rfl ?_
      refine AW.iload_n (n := 90) dX4_extend_89 rfl rfl ?_
      refine AW.iconst (n := 91) (v := -1) dX4_extend_90 rfl rfl ?_
      refine AW.ixor (n := 92) dX4_extend_91 rfl ?_
      refine AW.iand (n := 93) dX4_extend_92 rfl ?_
      refine AW.iload (n := 95) dX4_extend_93 rfl rfl ?_
      refine AW.ishr (n := 96) dX4_extend_95 rfl ?_
      refine AW.iconst (n := 97) (v := 1) dX4_extend_96 rfl rfl ?_
      refine AW.iand (n := 98) dX4_extend_97 rfl ?_
      refine AW.if_ne (n := 101) (t := 104) dX4_extend_98 rfl rfl (fun h98 => ?_) (fun h98 => ?_)
      · refine AW.aload_n (n := 105) dX4_extend_104 rfl rfl ?_
        refine AW.sg (n := 108) dX4_extend_105 fl_X4_21 rfl rfl ?_
        refine AW.gr (n := 111) dX4_extend_108 fl_X4_73 s_10 rfl rfl ?_
        refine AW.iload (n := 113) dX4_extend_111 rfl rfl ?_
        refine AW.ia (n := 114) s dX4_extend_113 s_11 rfl (by omega) (by decide) rfl ?_
        refine AW.ist10 (n := 116) dX4_extend_114 (Nat.le_of_ble_eq_true rfl) rfl rfl ?_
        refine AW.iload (n := 118) dX4_extend_116 rfl rfl ?_
        refine AW.aload_n (n := 119) dX4_extend_118 rfl rfl ?_
        refine AW.sg (n := 122) dX4_extend_119 fl_X4_21 rfl rfl ?_
        refine AW.iload_n (n := 123) dX4_extend_122 rfl rfl ?_
        refine AW.iload (n := 125) dX4_extend_123 rfl rfl ?_
        refine AW.ev2i (Mc := mX6_secondsBetween) (n := 128) dX4_extend_125 lk_X4_59 k_mX6_secondsBetween s_10 rfl rfl (c_X6_secondsBetween sS_10) (Nat.le_of_ble_eq_true rfl) (by omega) (Nat.zero_le _) (Nat.zero_le _) rfl ?_
        refine AW.iadd (n := 129) dX4_extend_128 rfl ?_
        refine AW.ist11 (n := 131) dX4_extend_129 (Nat.le_of_ble_eq_true rfl) rfl rfl ?_
        refine AW.aload_n (n := 132) dX4_extend_131 rfl rfl ?_
        refine AW.sg (n := 135) dX4_extend_132 fl_X4_21 rfl rfl ?_
        refine AW.iload (n := 137) dX4_extend_135 rfl rfl ?_
        refine AW.iload (n := 139) dX4_extend_137 rfl rfl ?_
        refine AW.iload (n := 141) dX4_extend_139 rfl rfl ?_
        refine AW.aload_n (n := 142) dX4_extend_141 rfl rfl ?_
        refine AW.sg (n := 145) dX4_extend_142 fl_X4_25 rfl rfl ?_
        refine AW.gr (n := 148) dX4_extend_145 fl_X4_77 s_17 rfl rfl ?_
        refine AW.iload (n := 150) dX4_extend_148 rfl rfl ?_
        refine AW.ia (n := 151) s dX4_extend_150 s_19 rfl (by omega) (by decide) rfl ?_
        refine AW.ev4i (Mc := mX6_meets) (n := 154) dX4_extend_151 lk_X4_80 k_mX6_meets s_10 rfl rfl (c_X6_meets sS_10 ho) (Nat.le_of_ble_eq_true rfl) (by omega) (Nat.zero_le _) (Nat.zero_le _) rfl ?_
        refine AW.ist12 (n := 156) dX4_extend_154 (Nat.le_of_ble_eq_true rfl) rfl rfl ?_
        refine AW.iload (n := 158) dX4_extend_156 rfl rfl ?_
        refine AW.aload_n (n := 159) dX4_extend_158 rfl rfl ?_
        refine AW.sg (n := 162) dX4_extend_159 fl_X4_21 rfl rfl ?_
        refine AW.iload (n := 164) dX4_extend_162 rfl rfl ?_
        refine AW.iload (n := 166) dX4_extend_164 rfl rfl ?_
        refine AW.ev2i (Mc := mX6_secondsAtDoor) (n := 169) dX4_extend_166 lk_X4_84 k_mX6_secondsAtDoor s_10 rfl rfl (c_X6_secondsAtDoor sS_10) (Nat.le_of_ble_eq_true rfl) (by omega) (Nat.zero_le _) (Nat.zero_le _) rfl ?_
        refine AW.iadd (n := 170) dX4_extend_169 rfl ?_
        refine AW.ist13 (n := 172) dX4_extend_170 (Nat.le_of_ble_eq_true rfl) rfl rfl ?_
        refine AW.iload (n := 174) dX4_extend_172 rfl rfl ?_
        refine AW.iconst (n := 175) (v := 2) dX4_extend_174 rfl rfl ?_
        refine AW.icmp_ne (n := 178) (t := 185) dX4_extend_175 rfl rfl (fun h175 => ?_) (fun h175 => ?_)
        · refine AW.iload (n := 187) dX4_extend_185 rfl rfl ?_
          refine AW.ist14 (n := 189) dX4_extend_187 (Nat.le_of_ble_eq_true rfl) rfl rfl ?_
          refine AW.aload_n (n := 190) dX4_extend_189 rfl rfl ?_
          refine AW.iload_n (n := 191) dX4_extend_190 rfl rfl ?_
          refine AW.iconst (n := 192) (v := 1) dX4_extend_191 rfl rfl ?_
          refine AW.iadd (n := 193) dX4_extend_192 rfl ?_
          rw [nI_1 dp]
          refine AW.iload_n (n := 194) dX4_extend_193 rfl rfl ?_
          refine AW.iconst (n := 195) (v := 1) dX4_extend_194 rfl rfl ?_
          refine AW.iload (n := 197) dX4_extend_195 rfl rfl ?_
          refine AW.ishl (n := 198) dX4_extend_197 rfl ?_
          refine AW.ior (n := 199) dX4_extend_198 rfl ?_
          refine AW.iload (n := 201) dX4_extend_199 rfl rfl ?_
          refine AW.iload (n := 203) dX4_extend_201 rfl rfl ?_
          refine AW.iload (n := 205) dX4_extend_203 rfl rfl ?_
          refine AW.iload (n := 207) dX4_extend_205 rfl rfl ?_
          refine AW.bipush (n := 209) (v := 10) dX4_extend_207 rfl rfl ?_
          refine AW.imul (n := 210) dX4_extend_209 rfl ?_
          refine AW.iload (n := 212) dX4_extend_210 rfl rfl ?_
          refine AW.iadd (n := 213) dX4_extend_212 rfl ?_
          refine AW.iconst (n := 214) (v := 1) dX4_extend_213 rfl rfl ?_
          refine AW.iadd (n := 215) dX4_extend_214 rfl ?_
          refine AW.es7v (Mc := mX4_extend) (n := 218) dX4_extend_215 lk_X4_55 k_mX4_extend (IH _ _ _ _ _ _) (Nat.le_of_ble_eq_true rfl) (by omega) (Nat.zero_le _) (Nat.zero_le _) rfl ?_
          refine AW.inc9 (n := 221) (1) dX4_extend_218 rfl (Nat.le_of_ble_eq_true rfl) rfl rfl ?_
          refine AW.goto (t := 73) dX4_extend_221 rfl ?_
          rw [nI_1]
          have e8 : ∀ X : sB3, F s X = sExt μ n hs op sz (r + 1) (dp + 1) (used ||| ((1 : Int32) <<< (nI s &&& 31))) (μ 11 s) (sGone μ hs dp yd sc s) (gv) (rw * 10 + nI s + 1) X := by
            intro X
            rw [← hF]
            unfold sF
            rw [if_pos (sBit_t h98), show sGot μ hs dp yd sc gv s = gv from if_neg h175]
          have e9 : sFold F (s + 1) B = sExt μ n hs op sz (r + 1) (dp + 1) (used ||| ((1 : Int32) <<< (nI s &&& 31))) (μ 11 s) (sGone μ hs dp yd sc s) (gv) (rw * 10 + nI s + 1) (sFold F s B) := by
            rw [sFold, e8]
          have h9 := fun L10 L11 L12 L13 L14 => ih (s + 1) L10 L11 L12 L13 L14 (by omega) (by omega)
          rw [e9] at h9
          exact h9 _ _ _ _ _
        · refine AW.iload (n := 180) dX4_extend_178 rfl rfl ?_
          refine AW.iconst (n := 181) (v := 1) dX4_extend_180 rfl rfl ?_
          refine AW.iadd (n := 182) dX4_extend_181 rfl ?_
          refine AW.goto (t := 187) dX4_extend_182 rfl ?_
          refine AW.ist14 (n := 189) dX4_extend_187 (Nat.le_of_ble_eq_true rfl) rfl rfl ?_
          refine AW.aload_n (n := 190) dX4_extend_189 rfl rfl ?_
          refine AW.iload_n (n := 191) dX4_extend_190 rfl rfl ?_
          refine AW.iconst (n := 192) (v := 1) dX4_extend_191 rfl rfl ?_
          refine AW.iadd (n := 193) dX4_extend_192 rfl ?_
          rw [nI_1 dp]
          refine AW.iload_n (n := 194) dX4_extend_193 rfl rfl ?_
          refine AW.iconst (n := 195) (v := 1) dX4_extend_194 rfl rfl ?_
          refine AW.iload (n := 197) dX4_extend_195 rfl rfl ?_
          refine AW.ishl (n := 198) dX4_extend_197 rfl ?_
          refine AW.ior (n := 199) dX4_extend_198 rfl ?_
          refine AW.iload (n := 201) dX4_extend_199 rfl rfl ?_
          refine AW.iload (n := 203) dX4_extend_201 rfl rfl ?_
          refine AW.iload (n := 205) dX4_extend_203 rfl rfl ?_
          refine AW.iload (n := 207) dX4_extend_205 rfl rfl ?_
          refine AW.bipush (n := 209) (v := 10) dX4_extend_207 rfl rfl ?_
          refine AW.imul (n := 210) dX4_extend_209 rfl ?_
          refine AW.iload (n := 212) dX4_extend_210 rfl rfl ?_
          refine AW.iadd (n := 213) dX4_extend_212 rfl ?_
          refine AW.iconst (n := 214) (v := 1) dX4_extend_213 rfl rfl ?_
          refine AW.iadd (n := 215) dX4_extend_214 rfl ?_
          refine AW.es7v (Mc := mX4_extend) (n := 218) dX4_extend_215 lk_X4_55 k_mX4_extend (IH _ _ _ _ _ _) (Nat.le_of_ble_eq_true rfl) (by omega) (Nat.zero_le _) (Nat.zero_le _) rfl ?_
          refine AW.inc9 (n := 221) (1) dX4_extend_218 rfl (Nat.le_of_ble_eq_true rfl) rfl rfl ?_
          refine AW.goto (t := 73) dX4_extend_221 rfl ?_
          rw [nI_1]
          have e8 : ∀ X : sB3, F s X = sExt μ n hs op sz (r + 1) (dp + 1) (used ||| ((1 : Int32) <<< (nI s &&& 31))) (μ 11 s) (sGone μ hs dp yd sc s) (gv + 1) (rw * 10 + nI s + 1) X := by
            intro X
            rw [← hF]
            unfold sF
            rw [if_pos (sBit_t h98), show sGot μ hs dp yd sc gv s = gv + 1 from if_pos h175]
          have e9 : sFold F (s + 1) B = sExt μ n hs op sz (r + 1) (dp + 1) (used ||| ((1 : Int32) <<< (nI s &&& 31))) (μ 11 s) (sGone μ hs dp yd sc s) (gv + 1) (rw * 10 + nI s + 1) (sFold F s B) := by
            rw [sFold, e8]
          have h9 := fun L10 L11 L12 L13 L14 => ih (s + 1) L10 L11 L12 L13 L14 (by omega) (by omega)
          rw [e9] at h9
          exact h9 _ _ _ _ _
      · refine AW.goto (t := 218) dX4_extend_101 rfl ?_
        refine AW.inc9 (n := 221) (1) dX4_extend_218 rfl (Nat.le_of_ble_eq_true rfl) rfl rfl ?_
        refine AW.goto (t := 73) dX4_extend_221 rfl ?_
        rw [nI_1]
        have e9 : sFold F (s + 1) B = sFold F s B := by
          rw [sFold, ← hF]; exact if_neg (by rw [sBit_f h98]; decide)
        have h9 := fun L10 L11 L12 L13 L14 => ih (s + 1) L10 L11 L12 L13 L14 (by omega) (by omega)
        rw [e9] at h9
        exact h9 _ _ _ _ _
set_option maxHeartbeats 4000000 in
set_option maxRecDepth 100000 in
theorem c_X4_extend {μ : Me} {e : Nat × (Nat → aC)} {n dn : Nat} {hs op sz : Int32} (ho : sOk μ 10 n dn) : ∀ (r dp : Nat) (used yd sc gv rw : Int32) (B : sB3), dp + r = 7 → AC (r + 3) 0 0 mX4_extend [.ref (154 + e.1), .int (nI dp), .int used, .int yd, .int sc, .int gv, .int rw] (wS μ (sE e (sFl hs op sz B.1 B.2.1 B.2.2))) (a_eq none (wS μ (sE e (sFl hs op sz (sExt μ n hs op sz (r + 1) dp used yd sc gv rw B).1 (sExt μ n hs op sz (r + 1) dp used yd sc gv rw B).2.1 (sExt μ n hs op sz (r + 1) dp used yd sc gv rw B).2.2)))) := by
  have h7 := ho.2.1
  intro r
  induction r with
  | zero =>
    intro dp used yd sc gv rw B hr
    have hdp : dp = 7 := by omega
    subst hdp
    refine AC.of (L := [some (.ref (154 + e.1)), some (.int (nI 7)), some (.int used), some (.int yd), some (.int sc), some (.int gv), some (.int rw), none, none, none, none, none, none, none, none]) (j := 8) (by decide) rfl (Nat.le_of_ble_eq_true rfl) ?_
    refine AW.iload (n := 2) dX4_extend_0 rfl rfl ?_
    refine AW.aload_n (n := 3) dX4_extend_2 rfl rfl ?_
    refine AW.sg (n := 6) dX4_extend_3 fl_X4_21 rfl rfl ?_
    refine AW.iload_n (n := 7) dX4_extend_6 rfl rfl ?_
    refine AW.iconst (n := 8) (v := 0) dX4_extend_7 rfl rfl ?_
    refine AW.ev2i (Mc := mX6_secondsBetween) (n := 11) dX4_extend_8 lk_X4_59 k_mX6_secondsBetween s_10 rfl rfl (c_X6_secondsBetween sS_10) (Nat.le_of_ble_eq_true rfl) (by omega) (Nat.zero_le _) (Nat.zero_le _) rfl ?_
    refine AW.iadd (n := 12) dX4_extend_11 rfl ?_
    refine AW.ist7 (n := 14) dX4_extend_12 (Nat.le_of_ble_eq_true rfl) rfl rfl ?_
    refine AW.aload_n (n := 15) dX4_extend_14 rfl rfl ?_
    refine AW.iload (n := 17) dX4_extend_15 rfl rfl ?_
    refine AW.aload_n (n := 18) dX4_extend_17 rfl rfl ?_
    refine AW.sg (n := 21) dX4_extend_18 fl_X4_52 rfl rfl ?_
    refine AW.iadd (n := 22) dX4_extend_21 rfl ?_
    refine AW.iload_n (n := 23) dX4_extend_22 rfl rfl ?_
    refine AW.isub (n := 24) dX4_extend_23 rfl ?_
    refine AW.iload (n := 26) dX4_extend_24 rfl rfl ?_
    refine AW.cS2i (Mc := mX4_canBeat) (n := 29) dX4_extend_26 lk_X4_62 k_mX4_canBeat (c_X4_canBeat) (Nat.le_of_ble_eq_true rfl) (by omega) (Nat.zero_le _) (Nat.zero_le _) rfl ?_
    refine AW.bif_ne (n := 32) (t := 33) dX4_extend_29 rfl rfl (fun h29 => ?_) (fun h29 => ?_)
    · refine AW.iload_n (n := 34) dX4_extend_33 rfl rfl ?_
      refine AW.aload_n (n := 35) dX4_extend_34 rfl rfl ?_
      refine AW.sg (n := 38) dX4_extend_35 fl_X4_52 rfl rfl ?_
      refine AW.icmp_ge (n := 41) (t := 47) dX4_extend_38 rfl rfl (fun h38 => ?_) (fun h38 => ?_)
      · refine AW.aload_n (n := 48) dX4_extend_47 rfl rfl ?_
        refine AW.iload (n := 50) dX4_extend_48 rfl rfl ?_
        refine AW.iload (n := 52) dX4_extend_50 rfl rfl ?_
        refine AW.iload (n := 54) dX4_extend_52 rfl rfl ?_
        refine AW.cS3v (Mc := mX4_settle) (n := 57) dX4_extend_54 lk_X4_66 k_mX4_settle (c_X4_settle) (Nat.le_of_ble_eq_true rfl) (by omega) (Nat.zero_le _) (Nat.zero_le _) rfl ?_
        refine AW.ret dX4_extend_57 rfl (Nat.zero_le _) (Nat.zero_le _) ?_
        exact ⟨rfl, by rw [sExt, if_pos h29, if_pos h38]⟩
      · refine AW.iload_n (n := 42) dX4_extend_41 rfl rfl ?_
        refine AW.bipush (n := 44) (v := 7) dX4_extend_42 rfl rfl ?_
        refine AW.icmp_lt (n := 47) (t := 58) dX4_extend_44 rfl rfl (fun h44 => ?_) (fun h44 => ?_)
        · exact absurd h44 (by decide)
        · refine AW.aload_n (n := 48) dX4_extend_47 rfl rfl ?_
          refine AW.iload (n := 50) dX4_extend_48 rfl rfl ?_
          refine AW.iload (n := 52) dX4_extend_50 rfl rfl ?_
          refine AW.iload (n := 54) dX4_extend_52 rfl rfl ?_
          refine AW.cS3v (Mc := mX4_settle) (n := 57) dX4_extend_54 lk_X4_66 k_mX4_settle (c_X4_settle) (Nat.le_of_ble_eq_true rfl) (by omega) (Nat.zero_le _) (Nat.zero_le _) rfl ?_
          refine AW.ret dX4_extend_57 rfl (Nat.zero_le _) (Nat.zero_le _) ?_
          exact ⟨rfl, by rw [sExt, if_pos h29, if_neg h38, if_neg h44]⟩
    · refine AW.ret dX4_extend_32 rfl (Nat.zero_le _) (Nat.zero_le _) ?_
      exact ⟨rfl, by rw [sExt, if_neg (by rw [h29]; decide)]⟩
  | succ r ih =>
    intro dp used yd sc gv rw B hr
    refine AC.of (L := [some (.ref (154 + e.1)), some (.int (nI dp)), some (.int used), some (.int yd), some (.int sc), some (.int gv), some (.int rw), none, none, none, none, none, none, none, none]) (j := 8) (by decide) rfl (Nat.le_of_ble_eq_true rfl) ?_
    refine AW.iload (n := 2) dX4_extend_0 rfl rfl ?_
    refine AW.aload_n (n := 3) dX4_extend_2 rfl rfl ?_
    refine AW.sg (n := 6) dX4_extend_3 fl_X4_21 rfl rfl ?_
    refine AW.iload_n (n := 7) dX4_extend_6 rfl rfl ?_
    refine AW.iconst (n := 8) (v := 0) dX4_extend_7 rfl rfl ?_
    refine AW.ev2i (Mc := mX6_secondsBetween) (n := 11) dX4_extend_8 lk_X4_59 k_mX6_secondsBetween s_10 rfl rfl (c_X6_secondsBetween sS_10) (Nat.le_of_ble_eq_true rfl) (by omega) (Nat.zero_le _) (Nat.zero_le _) rfl ?_
    refine AW.iadd (n := 12) dX4_extend_11 rfl ?_
    refine AW.ist7 (n := 14) dX4_extend_12 (Nat.le_of_ble_eq_true rfl) rfl rfl ?_
    refine AW.aload_n (n := 15) dX4_extend_14 rfl rfl ?_
    refine AW.iload (n := 17) dX4_extend_15 rfl rfl ?_
    refine AW.aload_n (n := 18) dX4_extend_17 rfl rfl ?_
    refine AW.sg (n := 21) dX4_extend_18 fl_X4_52 rfl rfl ?_
    refine AW.iadd (n := 22) dX4_extend_21 rfl ?_
    refine AW.iload_n (n := 23) dX4_extend_22 rfl rfl ?_
    refine AW.isub (n := 24) dX4_extend_23 rfl ?_
    refine AW.iload (n := 26) dX4_extend_24 rfl rfl ?_
    refine AW.cS2i (Mc := mX4_canBeat) (n := 29) dX4_extend_26 lk_X4_62 k_mX4_canBeat (c_X4_canBeat) (Nat.le_of_ble_eq_true rfl) (by omega) (Nat.zero_le _) (Nat.zero_le _) rfl ?_
    refine AW.bif_ne (n := 32) (t := 33) dX4_extend_29 rfl rfl (fun h29 => ?_) (fun h29 => ?_)
    · refine AW.iload_n (n := 34) dX4_extend_33 rfl rfl ?_
      refine AW.aload_n (n := 35) dX4_extend_34 rfl rfl ?_
      refine AW.sg (n := 38) dX4_extend_35 fl_X4_52 rfl rfl ?_
      refine AW.icmp_ge (n := 41) (t := 47) dX4_extend_38 rfl rfl (fun h38 => ?_) (fun h38 => ?_)
      · refine AW.aload_n (n := 48) dX4_extend_47 rfl rfl ?_
        refine AW.iload (n := 50) dX4_extend_48 rfl rfl ?_
        refine AW.iload (n := 52) dX4_extend_50 rfl rfl ?_
        refine AW.iload (n := 54) dX4_extend_52 rfl rfl ?_
        refine AW.cS3v (Mc := mX4_settle) (n := 57) dX4_extend_54 lk_X4_66 k_mX4_settle (c_X4_settle) (Nat.le_of_ble_eq_true rfl) (by omega) (Nat.zero_le _) (Nat.zero_le _) rfl ?_
        refine AW.ret dX4_extend_57 rfl (Nat.zero_le _) (Nat.zero_le _) ?_
        exact ⟨rfl, by rw [sExt, if_pos h29, if_pos h38]⟩
      · refine AW.iload_n (n := 42) dX4_extend_41 rfl rfl ?_
        refine AW.bipush (n := 44) (v := 7) dX4_extend_42 rfl rfl ?_
        refine AW.icmp_lt (n := 47) (t := 58) dX4_extend_44 rfl rfl (fun h44 => ?_) (fun h44 => ?_)
        · refine AW.iload_n (n := 59) dX4_extend_58 rfl rfl ?_
          refine AW.iconst (n := 60) (v := 1) dX4_extend_59 rfl rfl ?_
          refine AW.iadd (n := 61) dX4_extend_60 rfl ?_
          refine AW.aload_n (n := 62) dX4_extend_61 rfl rfl ?_
          refine AW.sg (n := 65) dX4_extend_62 fl_X4_29 rfl rfl ?_
          rw [nI_1]
          refine AW.es2i (Mc := mX9_ringsAt) (n := 68) dX4_extend_65 lk_X4_70 k_mX9_ringsAt (c_X9_ringsAt) (Nat.le_of_ble_eq_true rfl) (by omega) (Nat.zero_le _) (Nat.zero_le _) rfl ?_
          refine AW.ist8 (n := 70) dX4_extend_68 (Nat.le_of_ble_eq_true rfl) rfl rfl ?_
          refine AW.iconst (n := 71) (v := 0) dX4_extend_70 rfl rfl ?_
          refine AW.ist9 (n := 73) dX4_extend_71 (Nat.le_of_ble_eq_true rfl) rfl rfl ?_
          rw [sExt, if_pos h29, if_neg h38, if_pos h44]
          exact l_X4_extend ho (by omega) (fun used yd sc gv rw B => ih (dp + 1) used yd sc gv rw B (by omega)) (n + 1) 0 _ _ _ _ _ (by omega) (Nat.zero_le _)
        · refine AW.aload_n (n := 48) dX4_extend_47 rfl rfl ?_
          refine AW.iload (n := 50) dX4_extend_48 rfl rfl ?_
          refine AW.iload (n := 52) dX4_extend_50 rfl rfl ?_
          refine AW.iload (n := 54) dX4_extend_52 rfl rfl ?_
          refine AW.cS3v (Mc := mX4_settle) (n := 57) dX4_extend_54 lk_X4_66 k_mX4_settle (c_X4_settle) (Nat.le_of_ble_eq_true rfl) (by omega) (Nat.zero_le _) (Nat.zero_le _) rfl ?_
          refine AW.ret dX4_extend_57 rfl (Nat.zero_le _) (Nat.zero_le _) ?_
          exact ⟨rfl, by rw [sExt, if_pos h29, if_neg h38, if_neg h44]⟩
    · refine AW.ret dX4_extend_32 rfl (Nat.zero_le _) (Nat.zero_le _) ?_
      exact ⟨rfl, by rw [sExt, if_neg (by rw [h29]; decide)]⟩
