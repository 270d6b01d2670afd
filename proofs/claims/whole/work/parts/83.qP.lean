def R_law : String := "WeWereInLaw"
def lw_P (b : Addr) (xs : List Int32) (args : Array Value) (s : State) : Prop := args = #[.ref b] ∧ s.IntsAt b xs ∧ xs.length ≤ 320 ∧ (Jvm.Cond.and given_1 narrow_1).before args s = true
def lw_Q (_ : Array Value) (s : State) (o : Outcome) (t : State) : Prop := o = .returned (some (.int 1)) ∧ Framed s o t [] 600000 7302250
def lw_Z (below : List Frame) (a : Array Value) (s : State) : State → Prop := fun t => ∃ o, t.status = .running ∧ Ended t below o ∧ lw_Q a s o t
/-- the law's own end, with 1 on the stack, nothing written that was there before, its room as the claim has it -/
theorem lw_ret {p : Program} {l : Launch} {e : Env} {s : State} {m : MethodId} {below : List Frame} {meth : Method} {c : Code} {b : Nat} (hx : p.tables.exec = Jvm.exec) (hb : c.code = code) (hr : meth.sig.returnType = ret) (hlocks : meth.locks = false) {pc : Nat} {H : Heap} {ls : Array Slot} (hdg : decode code pc = .ok (.ireturn, 1)) : W p l e room_1 s m #[Value.ref b] below meth c H [] 600000 7302250 (lw_Z below #[Value.ref b] s) (F0 m pc ls [.int 1]) := by
  intro T hT X
  obtain ⟨fs, hret, hrun, hended, hW, hframe⟩ := X.leave (v := some (.int 1)) (hlocks := hlocks) (fun h => by rw [hr] at h; cases h)
  have hmeth' : T.vm.method? m = some meth := X.method'
  refine ⟨T.setFrames fs, ?_, .returned (some (.int 1)), hrun, hended, rfl, ⟨_, rfl⟩, hW, hframe⟩
  jvm_step X.here [X.here.top, hx, hb, hdg, hmeth', hr, ret, narrow_b1]
  (try refine ⟨rfl, ?_⟩); (try refine ⟨rfl, ?_⟩)
  first | (intro acts; rw [hret _ acts rfl rfl rfl]) | rw [hret _ _ rfl rfl rfl]
  exact Steps.refl _
/-- what holds at the law's entry: the machine, the code, the tables' words (any of lw_tbl by 'hts w (by decide +kernel)'), the script of L ints xs at the cell b, what the Statement gives of the start (any of its parts by flat_of_before) -/
def lw_At (p : Program) (s : State) (m : MethodId) (meth : Method) (c : Code) (b L : Nat) (xs : Nat → Int32) : Prop :=
  p.tables.exec = Jvm.exec ∧ c.code = code ∧ meth.sig.returnType = ret ∧ c.maxLocals = 4 ∧ s.vm.findClass R_law = some m.cls ∧ (∀ w ∈ lw_tbl, w.before #[Value.ref b] s = true) ∧ va_X b L xs s s.heap ∧ b < s.heap.size ∧ meth.locks = false ∧ (Jvm.Cond.and given_1 narrow_1).before #[Value.ref b] s = true ∧ meth.name = "law"
set_option maxHeartbeats 4000000 in
set_option maxRecDepth 100000 in
theorem law_start {q : Nat × (Nat → Int32)} (hq : q.1 ≤ 320) {h : Nat → aC} : AW (some q) 20 600000 7302250 mL_law 0 0 0 [some (.retAddr 0), none, none, none] [] (zS h 0 []) lP := by
  refine AW.zn (n := 3) (ci := 9) (q := (RX9, TX9, 12)) (fs := [.null, .null, .null, .null, .null, .null, .null, .null, .null, .null, .null, .int 0]) (j := 0) dL_law_0 rfl cl_L_7 ins_X9 ini_X9 df_X9 rfl (by decide) (by decide) rfl rfl ?_
  refine AW.dup (n := 4) dL_law_3 rfl rfl ?_
  refine AW.zc (n := 7) (Mc := mX9_init) (cs := []) (j := 0) (ds := xC9) dL_law_4 lk_L_9 k_mX9_init rfl (fun H => c_X9_init) (Nat.le_of_ble_eq_true rfl) (by decide) (by decide) (by decide) rfl ?_
  refine AW.astore_n (n := 8) (x := 0) (L' := [some (.retAddr 0), some (.ref 0), none, none]) dL_law_7 (Nat.le_of_ble_eq_true rfl) rfl rfl rfl ?_
  refine AW.zn (n := 11) (ci := 10) (q := (RX10, TX10, 31)) (fs := [.null, .null, .null, .null, .null, .null, .null, .null, .int 0, .int 0, .null, .int 0, .int 0, .null, .int 0, .int 0, .int 0, .int 0, .int 0, .null, .int 0, .int 0, .int 0, .null, .null, .null, .int 0, .null, .null, .null, .int 0]) (j := 136) dL_law_8 rfl cl_L_10 ins_X10 ini_X10 df_X10 rfl (by decide) (by decide) rfl xC9_len ?_
  refine AW.dup (n := 12) dL_law_11 rfl rfl ?_
  refine AW.zc (n := 15) (Mc := mX10_init) (j := 136) (ds := xC10) dL_law_12 lk_L_12 k_mX10_init xC9_len (fun H => c_X10_init) (Nat.le_of_ble_eq_true rfl) (by decide) (by decide) (by decide) rfl ?_
  refine AW.astore_n (n := 16) (x := 136) (L' := [some (.retAddr 0), some (.ref 0), some (.ref 136), none]) dL_law_15 (Nat.le_of_ble_eq_true rfl) rfl rfl rfl ?_
  refine AW.iconst (n := 17) (v := 0) dL_law_16 rfl rfl ?_
  refine AW.istore_n (n := 18) (L' := lL 0) dL_law_17 (Nat.le_of_ble_eq_true rfl) rfl rfl rfl ?_
  refine start_w ?_
  exact law_loop hq 321 0 _ _ 0 0 μz _ (by omega) (Nat.zero_le _) (by decide) (by decide) Rel.start
theorem known_cl {s : State} {args : Array Value} (hts : ∀ w ∈ gT, w.before args s = true) : ∃ (dC : Nat → ClassId) (dI : Nat → Nat → Nat), ∀ (k : Nat) (q : vw_C), vwCl[k]? = some q → u_Kn s q.1 q.2.1 q.2.2 (dC k) (dI k) := by
  have h1 : ∀ (k : Nat) (q : vw_C), vwCl[k]? = some q → (Cond.instantiable q.1 q.2.2) ∈ gT := by
    intro k q hq
    match k, hq with
    | 0, hq => cases hq; exact ins_X0
    | 1, hq => cases hq; exact ins_X1
    | 2, hq => cases hq; exact ins_X2
    | 3, hq => cases hq; exact ins_X3
    | 4, hq => cases hq; exact ins_X4
    | 5, hq => cases hq; exact ins_X5
    | 6, hq => cases hq; exact ins_X6
    | 7, hq => cases hq; exact ins_X7
    | 8, hq => cases hq; exact ins_X8
    | 9, hq => cases hq; exact ins_X9
    | 10, hq => cases hq; exact ins_X10
    | k + 11, hq => simp [vwCl] at hq
  have h2 : ∀ k : Nat, ∃ z : ClassId × (Nat → Nat), ∀ q : vw_C, vwCl[k]? = some q → u_Kn s q.1 q.2.1 q.2.2 z.1 z.2 := by
    intro k
    cases e : vwCl[k]? with
    | none =>
      obtain ⟨cC, iS, -⟩ := u_known (C := RX0) (T := TX0) (N := 3) (n := 3) hts (a_clT 0 _ rfl).choose_spec.2.2 (hts _ ins_X0)
      exact ⟨(cC, iS), fun q hq => by cases hq⟩
    | some q =>
      obtain ⟨ty0, -, -, hin⟩ := a_clT k q e
      obtain ⟨cC, iS, hk⟩ := u_known (C := q.1) (T := q.2.1) (N := q.2.2) (n := q.2.2) hts hin (hts _ (h1 k q e))
      exact ⟨(cC, iS), fun q' hq' => by cases hq'; exact hk⟩
  obtain ⟨F, hF⟩ := Classical.axiomOfChoice h2
  exact ⟨fun k => (F k).1, fun k => (F k).2, fun k q hq => hF k q hq⟩
theorem known_ar {s : State} {args : Array Value} {ty : FieldType} (h : (Cond.arrayClass ty).before args s = true) : ∃ c : ClassId, ArrOfT s c ty ∧ s.vm.findClass ("[" ++ ty.toString) = some c := by
  obtain ⟨c, k, comp, h1, h2, h3⟩ := Cond.arrayClass_spec h
  exact ⟨c, fun n z => ⟨fun k h => (by cases h), k, h2, comp, h3⟩, h1⟩
theorem known_ao {s : State} {args : Array Value} {C : String} (h : (Cond.arrayOver (.object C)).before args s = true) : ∃ c : ClassId, ArrOfT s c (.object C) ∧ va_RA s c (.object C) := by
  obtain ⟨comp, c, k, h1, -, h3, h4, h5⟩ := Cond.arrayOver_spec h
  exact ⟨c, fun n z => ⟨fun k h => (by cases h), k, h3, comp, h4⟩, k, comp, h3, h4, h1, h5⟩
theorem ao_D : Cond.arrayOver (.object "WeWereIn$Days") ∈ lw_tbl := by decide +kernel
theorem ao_I : Cond.arrayOver (.object "WeWereIn$Image") ∈ lw_tbl := by decide +kernel
set_option maxHeartbeats 4000000 in
set_option maxRecDepth 100000 in
theorem whole_start {p : Program} {e : Env} {s : State} {m : MethodId} {below : List Frame} {meth : Method} {c : Code} (l : Launch) {b L : Nat} {xs : Nat → Int32} (hL : L ≤ 320) (C0 : lw_At p s m meth c b L xs) : W p l e room_1 s m #[Value.ref b] below meth c s.heap [] 0 0 (lw_Z below #[Value.ref b] s) (entryFrame m ([Value.ref b] : List Value).toArray 4) := by
  obtain ⟨hx, hb, hr, hml, hown, hts, hX, hbl, hlocks, hgv, hnm⟩ := id C0
  have hg : ∀ w ∈ gT, w.before #[Value.ref b] s = true := fun w hw => hts w (List.mem_filter.mp hw).1
  obtain ⟨dC, dI, hKc⟩ := known_cl hg
  obtain ⟨cI, i1, i2⟩ := known_ar (hg _ ac_int)
  obtain ⟨cZ, z1, z2⟩ := known_ar (hg _ ac_boolean)
  obtain ⟨cD, d1, d2⟩ := known_ao (hts _ ao_D)
  obtain ⟨cM, m1, m2⟩ := known_ao (hts _ ao_I)
  have hN : ∀ w ∈ nT, va_Nw w s := by
    intro w hw
    have h2 := (List.mem_filter.mp hw).2
    have h3 := hts w (List.mem_filter.mp hw).1
    cases w <;> first | (simp [a_isN] at h2; done) | exact va_Nw.of rfl h3
  have hl := lv_entry ([.ref b]) (n := 4) (Nat.le_of_ble_eq_true rfl)
  rw [lg_entry_eq]
  generalize (lg_sl ([.ref b]) ++ List.replicate (4 - (lg_sl ([.ref b])).length) Slot.unset).toArray = ls at hl ⊢
  have hK : a_Kn ((dC, dI), (fun k => match k with | 0 => cI | 1 => cZ | 2 => cD | _ => cM), s.heap.size, b) s := by
    refine ⟨⟨hKc, fun k q hq => ?_⟩, hN, va_AO.of (hts _ ao_D), va_AO.of (hts _ ao_I)⟩
    match k, hq with
    | 0, hq => cases hq; exact ⟨i1, i2⟩
    | 1, hq => cases hq; exact ⟨z1, z2⟩
    | 2, hq => cases hq; exact ⟨d1, d2⟩
    | 3, hq => cases hq; exact ⟨m1, m2⟩
    | k + 4, hq => simp [a_tys] at hq
  have hgo := law_start (q := (L, xs)) hL (h := fun _ => .inr (0, []))
  refine hgo p l e room_1 s m #[Value.ref b] below meth c s.heap [] _ ls ((dC, dI), (fun k => match k with | 0 => cI | 1 => cZ | 2 => cD | _ => cM), s.heap.size, b) ⟨hx, hb, hml, hown, hg, hK, hnm, ⟨by decide, by decide, by decide, by decide⟩, Nat.le_refl _, fun q hq => ?_⟩ ⟨rfl, fun k q hq => by simp [a_ws, zS] at hq⟩ va_S.rf (a_L_ent (av := [.retAddr 0]) (j := 3) rfl hl) ?_
  · cases hq
    exact ⟨hX, hbl⟩
  · intro r σ' H' locs' c1 s1 pc' ls' hP hR' hS' hc1 hs1 hrt
    have hP : r = some (.int 1) := hP
    subst hP
    obtain ⟨hd, -⟩ := hrt
    refine va_forget (fun q h => hS'.2.2 q h) ?_
    refine W.widen hc1 hs1 ?_
    exact lw_ret hx hb hr hlocks hd
