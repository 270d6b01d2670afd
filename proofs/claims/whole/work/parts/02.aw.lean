
abbrev aC : Type := (Nat × vp_A) ⊕ (Nat × List Value)
abbrev aS : Type := Nat × (Nat → aC)
abbrev aG : Type := va_G × (Nat → ClassId) × Nat × Nat
abbrev aM : Type := MethodName × ByteArray × Nat × Option FieldType
def a_v (G : aG) (v : Value) : Value := match v with
  | .ref n => .ref (G.2.2.1 + n)
  | .retAddr _ => .ref G.2.2.2
  | .int x => .int x
  | .long x => .long x
  | .float x => .float x
  | .double x => .double x
  | .null => .null
theorem a_v_cat (G : aG) (v : Value) : (a_v G v).category = v.category := by cases v <;> rfl
def a_st (G : aG) (l : List Value) : List Value := l.map (a_v G)
def a_f (G : aG) (f : Nat → Option Nat) : Nat → Option Nat := fun j => (f j).map (fun n => G.2.2.1 + n)
def a_arr (G : aG) (a : vp_A) : vp_A := match a.2 with
  | .inr (.inr (.inr (.inr f))) => (a.1, .inr (.inr (.inr (.inr (a_f G f)))))
  | .inl f => (a.1, .inl f)
  | .inr (.inl f) => (a.1, .inr (.inl f))
  | .inr (.inr (.inl f)) => (a.1, .inr (.inr (.inl f)))
  | .inr (.inr (.inr (.inl f))) => (a.1, .inr (.inr (.inr (.inl f))))
def a_E (G : aG) (c : aC) : va_E := match c with
  | .inl a => .inl (G.2.1 a.1, a_arr G a.2)
  | .inr o => .inr (o.1, o.2.map (a_v G))
def a_ws (G : aG) (σ : aS) : va_W := (List.range σ.1).map (fun i => (G.2.2.1 + i, a_E G (σ.2 i)))
def a_up (h : Nat → aC) (i : Nat) (c : aC) : Nat → aC := fun j => if j = i then c else h j
theorem a_ws_get (G : aG) (σ : aS) {i : Nat} (h : i < σ.1) : (a_ws G σ)[i]? = some (G.2.2.1 + i, a_E G (σ.2 i)) := by
  simp [a_ws, h]
theorem a_ws_inv {G : aG} {σ : aS} {i : Nat} {q : Nat × va_E} (h : (a_ws G σ)[i]? = some q) : i < σ.1 ∧ q = (G.2.2.1 + i, a_E G (σ.2 i)) := by
  have hi : i < σ.1 := by
    have := (List.getElem?_eq_some_iff.mp h).1
    simpa [a_ws] using this
  rw [a_ws_get G σ hi] at h
  exact ⟨hi, (Option.some.inj h).symm⟩
theorem a_ws_set (G : aG) (σ : aS) {i : Nat} (c : aC) : (a_ws G σ).set i (G.2.2.1 + i, a_E G c) = a_ws G (σ.1, a_up σ.2 i c) := by
  apply List.ext_getElem?
  intro j
  by_cases hj : j < σ.1
  · rw [a_ws_get G (σ.1, a_up σ.2 i c) hj, List.getElem?_set]
    by_cases hij : i = j
    · subst hij
      simp [a_ws, hj, a_up]
    · rw [if_neg hij, a_ws_get G σ hj]
      simp [a_up, Ne.symm hij]
  · have h1 : (a_ws G (σ.1, a_up σ.2 i c))[j]? = none := by simp [a_ws]; omega
    rw [h1]
    simp [a_ws]
    omega
theorem a_ws_push (G : aG) (σ : aS) (c : aC) : a_ws G σ ++ [(G.2.2.1 + σ.1, a_E G c)] = a_ws G (σ.1 + 1, a_up σ.2 σ.1 c) := by
  apply List.ext_getElem?
  intro j
  have hlen : (a_ws G σ).length = σ.1 := by simp [a_ws]
  by_cases hj : j < σ.1
  · rw [List.getElem?_append_left (by omega), a_ws_get G σ hj, a_ws_get G (σ.1 + 1, a_up σ.2 σ.1 c) (i := j) (by show j < σ.1 + 1; omega)]
    simp [a_up, Nat.ne_of_lt hj]
  · by_cases hj2 : j = σ.1
    · subst hj2
      rw [List.getElem?_append_right (by omega), a_ws_get G (σ.1 + 1, a_up σ.2 σ.1 c) (i := σ.1) (by show σ.1 < σ.1 + 1; omega)]
      simp [a_up, hlen]
    · rw [List.getElem?_append_right (by omega)]
      have h1 : (a_ws G (σ.1 + 1, a_up σ.2 σ.1 c))[j]? = none := by simp [a_ws]; omega
      rw [h1, hlen]
      simp
      omega
theorem a_D (G : aG) (σ : aS) : va_D (fun q => G.2.2.1 ≤ q) (a_ws G σ) := by
  refine ⟨fun i j p q hp hq he => ?_, fun k q hq => ?_⟩
  · obtain ⟨h1, rfl⟩ := a_ws_inv hp
    obtain ⟨h2, rfl⟩ := a_ws_inv hq
    have he : G.2.2.1 + i = G.2.2.1 + j := he
    omega
  · obtain ⟨h2, rfl⟩ := a_ws_inv hq
    exact Nat.le_add_right _ _
def a_R (G : aG) (σ : aS) (H : Heap) : Prop := H.size = G.2.2.1 + σ.1 ∧ va_P G.1 vwCl (a_ws G σ) H
def a_tys (G : aG) : List (ClassId × FieldType) := [(G.2.1 0, .int), (G.2.1 1, .boolean), (G.2.1 2, .object "WeWereIn$Days"), (G.2.1 3, .object "WeWereIn$Image")]
def a_isN (w : Cond) : Bool := match w with
  | .fieldLinkNest _ _ _ _ _ _ => true
  | .methodLinkNest _ _ _ _ => true
  | _ => false
def gT : List Cond := lw_tbl.filter goodWord
def nT : List Cond := lw_tbl.filter a_isN
theorem gT_good : GoodIn gT gT := fun w h => ⟨h, good_of_word (List.mem_filter.mp h).2⟩
theorem nT_warm {w : Cond} (hw : w ∈ nT) {s U : State} (hW : s.WarmedH U.vm) (h : va_Nw w s) : va_Nw w U := by
  have h2 := (List.mem_filter.mp hw).2
  cases w <;> first | (simp [a_isN] at h2; done) | exact va_Nw.warmF hW h | exact va_Nw.warmM hW h
theorem nT_same {w : Cond} (hw : w ∈ nT) {u U : State} (hv : u.vm = U.vm) (h : va_Nw w u) : va_Nw w U := by
  have h2 := (List.mem_filter.mp hw).2
  cases w <;> first | (simp [a_isN] at h2; done) | exact va_Nw.same rfl hv h
def a_Kn (G : aG) (U : State) : Prop := va_K G.1 vwCl (a_tys G) U ∧ (∀ w ∈ nT, va_Nw w U) ∧ va_AO "WeWereIn$Days" U ∧ va_AO "WeWereIn$Image" U
theorem a_Kn.warm {G : aG} {s U : State} (hW : s.WarmedH U.vm) (h : a_Kn G s) : a_Kn G U :=
  ⟨va_K.moved hW.alike h.1, fun w hw => nT_warm hw hW (h.2.1 w hw), va_AO.moved hW.alike h.2.2.1, va_AO.moved hW.alike h.2.2.2⟩
theorem a_Kn.same {G : aG} {s U : State} (hv : s.vm = U.vm) (h : a_Kn G s) : a_Kn G U :=
  ⟨va_K.moved (by rw [hv]; exact Vm.Alike.refl U.vm) h.1, fun w hw => nT_same hw hv (h.2.1 w hw), va_AO.moved (by rw [hv]; exact Vm.Alike.refl U.vm) h.2.2.1, va_AO.moved (by rw [hv]; exact Vm.Alike.refl U.vm) h.2.2.2⟩
def a_L (G : aG) (nL : Nat) (L : List (Option Value)) (ls : Array Slot) : Prop := ls.size = nL ∧ lv_wf ls ∧ ∀ (i : Nat) (v : Value), L[i]? = some (some v) → ls[i]? = some (.val (a_v G v))
def a_pairs (G : aG) (L : List (Option Value)) : List (Nat × Value) := (List.range L.length).filterMap (fun i => match L[i]? with | some (some v) => some (i, a_v G v) | _ => none)
theorem a_pairs_mem {G : aG} {L : List (Option Value)} {q : Nat × Value} : q ∈ a_pairs G L ↔ ∃ v, L[q.1]? = some (some v) ∧ q.2 = a_v G v := by
  unfold a_pairs
  rw [List.mem_filterMap]
  constructor
  · rintro ⟨i, -, h⟩
    split at h
    · next v hv =>
      cases h
      exact ⟨v, hv, rfl⟩
    · cases h
  · rintro ⟨v, h1, h2⟩
    refine ⟨q.1, List.mem_range.mpr (List.getElem?_eq_some_iff.mp h1).1, ?_⟩
    rw [h1]
    show some (q.1, a_v G v) = some q
    rw [← h2]
theorem a_L.has {G : aG} {nL : Nat} {L : List (Option Value)} {ls : Array Slot} (h : a_L G nL L ls) : lv_has ls nL (a_pairs G L) :=
  ⟨h.1, h.2.1, fun q hq => by obtain ⟨v, h1, h2⟩ := a_pairs_mem.mp hq; rw [h2]; exact h.2.2 _ _ h1⟩
/-- no long lies in the place ahead of i -/
def a_ok (L : List (Option Value)) (i : Nat) : Bool := match i with
  | 0 => true
  | j + 1 => match L[j]? with
    | some (some (.long _)) => false
    | some (some (.double _)) => false
    | _ => true
theorem a_ok_cat {L : List (Option Value)} {i : Nat} (h : a_ok L i = true) {j : Nat} {w : Value} (hj : j + 1 = i) (hw : L[j]? = some (some w)) : ¬ w.category = 2 := by
  subst hj
  simp only [a_ok, hw] at h
  cases w <;> simp [Value.category] at h ⊢
theorem a_L.st1 {G : aG} {nL : Nat} {L : List (Option Value)} {ls : Array Slot} {i : Nat} {v : Value} (hc : a_ok L i = true) {ls' : Array Slot}
    (h' : lv_has ls' nL ((i, a_v G v) :: (a_pairs G L).filter (fun q => !(q.1 == i) && !(q.1 + 1 == i && q.2.category == 2)))) : a_L G nL (L.set i (some v)) ls' := by
  refine ⟨h'.1, h'.2.1, fun j w hj => ?_⟩
  rw [List.getElem?_set] at hj
  by_cases hij : i = j
  · subst hij
    rw [if_pos rfl] at hj
    split at hj
    · cases hj
      exact h'.2.2 _ List.mem_cons_self
    · cases hj
  · rw [if_neg hij] at hj
    refine h'.2.2 (j, a_v G w) (List.mem_cons_of_mem _ (List.mem_filter.mpr ⟨a_pairs_mem.mpr ⟨w, hj, rfl⟩, ?_⟩))
    have h1 : (j == i) = false := by simpa using Ne.symm hij
    show (!(j == i) && !(j + 1 == i && (a_v G w).category == 2)) = true
    rw [h1, a_v_cat]
    by_cases h2 : j + 1 = i
    · have h3 := a_ok_cat hc h2 hj
      simp [h3]
    · simp [h2]
theorem a_L.st2 {G : aG} {nL : Nat} {L : List (Option Value)} {ls : Array Slot} {i : Nat} {v : Value} (hc : a_ok L i = true) {ls' : Array Slot}
    (h' : lv_has ls' nL ((i, a_v G v) :: (a_pairs G L).filter (fun q => !(q.1 == i) && (!(q.1 == i + 1) && !(q.1 + 1 == i && q.2.category == 2))))) : a_L G nL ((L.set i (some v)).set (i + 1) none) ls' := by
  refine ⟨h'.1, h'.2.1, fun j w hj => ?_⟩
  rw [List.getElem?_set] at hj
  by_cases hij2 : i + 1 = j
  · rw [if_pos hij2] at hj
    split at hj <;> cases hj
  rw [if_neg hij2, List.getElem?_set] at hj
  by_cases hij : i = j
  · subst hij
    rw [if_pos rfl] at hj
    split at hj
    · cases hj
      exact h'.2.2 _ List.mem_cons_self
    · cases hj
  · rw [if_neg hij] at hj
    refine h'.2.2 (j, a_v G w) (List.mem_cons_of_mem _ (List.mem_filter.mpr ⟨a_pairs_mem.mpr ⟨w, hj, rfl⟩, ?_⟩))
    have h1 : (j == i) = false := by simpa using Ne.symm hij
    have h1b : (j == i + 1) = false := by simpa using Ne.symm hij2
    show (!(j == i) && (!(j == i + 1) && !(j + 1 == i && (a_v G w).category == 2))) = true
    rw [h1, h1b, a_v_cat]
    by_cases h2 : j + 1 = i
    · have h3 := a_ok_cat hc h2 hj
      simp [h3]
    · simp [h2]
def a_rt (M : aM) (pc : Nat) (r : Option Value) : Prop := match r with
  | none => decode M.2.1 pc = .ok (.return_, 1) ∧ M.2.2.2 = none
  | some (.int v) => decode M.2.1 pc = .ok (.ireturn, 1) ∧ ∃ ty, M.2.2.2 = some ty ∧ narrow ty (.int v) = .int v
  | _ => False
def a_Cx (scr : Option (Nat × (Nat → Int32))) (k mc ms : Nat) (M : aM) (G : aG) (p : Program) (R : Room) (s : State) (m : MethodId) (args : Array Value) (meth : Method) (c : Code) : Prop :=
  p.tables.exec = Jvm.exec ∧ c.code = M.2.1 ∧ c.maxLocals = M.2.2.1 ∧ s.vm.findClass M.1.cls = some m.cls ∧ (∀ w ∈ gT, w.before args s = true) ∧ a_Kn G s ∧ meth.name = M.1.name ∧ (k ≤ R.frames ∧ 64 * k ≤ R.locals ∧ mc ≤ R.cells ∧ ms ≤ R.slots) ∧ G.2.2.1 ≤ s.heap.size ∧ (∀ q, scr = some q → va_X G.2.2.2 q.1 q.2 s s.heap ∧ G.2.2.2 < G.2.2.1)
def AW (scr : Option (Nat × (Nat → Int32))) (k mc ms : Nat) (M : aM) (c0 s0 pc : Nat) (L : List (Option Value)) (st : List Value) (σ : aS) (P : Option Value → aS → Prop) : Prop :=
  ∀ (p : Program) (l : Launch) (e : Env) (R : Room) (s : State) (m : MethodId) (args : Array Value) (below : List Frame) (meth : Method) (c : Code) (H : Heap) (locs : List Loc) (Q : State → Prop) (ls : Array Slot) (G : aG),
    a_Cx scr k mc ms M G p R s m args meth c → a_R G σ H → va_S (fun q => G.2.2.1 ≤ q) s.heap H locs → a_L G M.2.2.1 L ls →
    (∀ (r : Option Value) (σ' : aS) (H' : Heap) (locs' : List Loc) (c1 s1 pc' : Nat) (ls' : Array Slot), P r σ' → a_R G σ' H' → va_S (fun q => G.2.2.1 ≤ q) s.heap H' locs' → c1 ≤ mc → s1 ≤ ms → a_rt M pc' r → W p l e R s m args below meth c H' locs' c1 s1 Q (F0 m pc' ls' (a_st G r.toList))) →
    W p l e R s m args below meth c H locs c0 s0 Q (F0 m pc ls (a_st G st))
def a_rm (k mc ms : Nat) : Room := { frames := k, cells := mc, slots := ms, locals := 64 * k }
def a_Pc (G : aG) (av : List Value) (σ : aS) : Array Value → State → Prop := va_Pc (a_st G av) (fun U => a_R G σ U.heap ∧ a_Kn G U)
def a_Qc (G : aG) (P : Option Value → aS → Prop) : Array Value → State → Outcome → State → Prop := fun _ st oc t => (∃ (r : Option Value) (σ' : aS), oc = .returned (r.map (a_v G)) ∧ P r σ' ∧ a_R G σ' t.heap) ∧ va_F (fun q => G.2.2.1 ≤ q) st t
def a_wl (M : aM) : List Cond := .code M.1 M.2.1 M.2.2.1 M.2.2.2 :: gT
def AC (k mc ms : Nat) (M : aM) (av : List Value) (σ : aS) (P : Option Value → aS → Prop) : Prop :=
  ∀ (l : Launch) (G : aG), Met l M.1 (a_wl M) (a_rm k mc ms) (a_Pc G av σ) (a_Qc G P) mc ms (fun q => G.2.2.1 ≤ q)
def a_eq (r : Option Value) (σ : aS) : Option Value → aS → Prop := fun r' σ' => r' = r ∧ σ' = σ
/-- the locals at a method's entry -/
def a_ents (l : List Value) : List (Option Value) := match l with
  | [] => []
  | .long x :: t => some (.long x) :: none :: a_ents t
  | .double x :: t => some (.double x) :: none :: a_ents t
  | v :: t => some v :: a_ents t
theorem a_ents_ok (G : aG) (l : List Value) : ∀ (n i : Nat) (v : Value), (a_ents l)[i]? = some (some v) → (n + i, a_v G v) ∈ lv_args n (a_st G l) := by
  induction l with
  | nil => intro n i v h; simp [a_ents] at h
  | cons w t ih =>
    intro n i v h
    have one : w.category = 1 → a_ents (w :: t) = some w :: a_ents t → (n + i, a_v G v) ∈ lv_args n (a_st G (w :: t)) := by
      intro hc he
      rw [he] at h
      show (n + i, a_v G v) ∈ (n, a_v G w) :: lv_args (if (a_v G w).category = 2 then n + 2 else n + 1) (a_st G t)
      rw [a_v_cat, if_neg (by omega)]
      cases i with
      | zero => simp at h; subst h; exact List.mem_cons_self
      | succ i =>
        have := ih (n + 1) i v (by simpa using h)
        rw [show n + 1 + i = n + (i + 1) by omega] at this
        exact List.mem_cons_of_mem _ this
    have two : w.category = 2 → a_ents (w :: t) = some w :: none :: a_ents t → (n + i, a_v G v) ∈ lv_args n (a_st G (w :: t)) := by
      intro hc he
      rw [he] at h
      show (n + i, a_v G v) ∈ (n, a_v G w) :: lv_args (if (a_v G w).category = 2 then n + 2 else n + 1) (a_st G t)
      rw [a_v_cat, if_pos hc]
      match i, h with
      | 0, h => simp at h; subst h; exact List.mem_cons_self
      | 1, h => simp at h
      | i + 2, h =>
        have := ih (n + 2) i v (by simpa using h)
        rw [show n + 2 + i = n + (i + 2) by omega] at this
        exact List.mem_cons_of_mem _ this
    cases w <;> first | exact one rfl rfl | exact two rfl rfl

section AWR
variable {scr : Option (Nat × (Nat → Int32))} {k mc ms : Nat} {M : aM} {c0 s0 pc n : Nat} {L : List (Option Value)} {st : List Value} {σ : aS} {P : Option Value → aS → Prop}
theorem AW.iconst {i : Int} {v : Int32} (hd : decode M.2.1 pc = .ok (.iconst i, 1)) (hv : Int32.ofInt i = v) (hn : pc + 1 = n) (h : AW scr k mc ms M c0 s0 n L (.int v :: st) σ P) : AW scr k mc ms M c0 s0 pc L (st) σ P := by
  subst hn
  intro p l e R s m args below meth c H locs Q ls G C hR hS hL K
  exact lv_iconst C.1 C.2.1 hd hv (h p l e R s m args below meth c H locs Q ls G C hR hS hL K)
theorem AW.bipush {i : Int} {v : Int32} (hd : decode M.2.1 pc = .ok (.bipush i, 2)) (hv : (Int8.ofInt i).toInt32 = v) (hn : pc + 2 = n) (h : AW scr k mc ms M c0 s0 n L (.int v :: st) σ P) : AW scr k mc ms M c0 s0 pc L (st) σ P := by
  subst hn
  intro p l e R s m args below meth c H locs Q ls G C hR hS hL K
  exact lv_bipush C.1 C.2.1 hd hv (h p l e R s m args below meth c H locs Q ls G C hR hS hL K)
theorem AW.sipush {i : Int} {v : Int32} (hd : decode M.2.1 pc = .ok (.sipush i, 3)) (hv : (Int16.ofInt i).toInt32 = v) (hn : pc + 3 = n) (h : AW scr k mc ms M c0 s0 n L (.int v :: st) σ P) : AW scr k mc ms M c0 s0 pc L (st) σ P := by
  subst hn
  intro p l e R s m args below meth c H locs Q ls G C hR hS hL K
  exact lv_sipush C.1 C.2.1 hd hv (h p l e R s m args below meth c H locs Q ls G C hR hS hL K)
theorem AW.lconst {i : Fin 2} {v : Int64} (hd : decode M.2.1 pc = .ok (.lconst i, 1)) (hv : Int64.ofNat (i : Nat) = v) (hn : pc + 1 = n) (h : AW scr k mc ms M c0 s0 n L (.long v :: st) σ P) : AW scr k mc ms M c0 s0 pc L (st) σ P := by
  subst hn
  intro p l e R s m args below meth c H locs Q ls G C hR hS hL K
  exact lv_lconst C.1 C.2.1 hd hv (h p l e R s m args below meth c H locs Q ls G C hR hS hL K)
theorem AW.ldc {i : Nat} {v : Int32} (hd : decode M.2.1 pc = .ok (.ldc i, 2)) (hv : Cond.constant M.1.cls i v ∈ gT) (hn : pc + 2 = n) (h : AW scr k mc ms M c0 s0 n L (.int v :: st) σ P) : AW scr k mc ms M c0 s0 pc L (st) σ P := by
  subst hn
  intro p l e R s m args below meth c H locs Q ls G C hR hS hL K
  exact lv_ldc C.1 C.2.1 C.2.2.2.1 (C.2.2.2.2.1 _ hv) hd (h p l e R s m args below meth c H locs Q ls G C hR hS hL K)
theorem AW.ldcw {i : Nat} {v : Int32} (hd : decode M.2.1 pc = .ok (.ldc_w i, 3)) (hv : Cond.constant M.1.cls i v ∈ gT) (hn : pc + 3 = n) (h : AW scr k mc ms M c0 s0 n L (.int v :: st) σ P) : AW scr k mc ms M c0 s0 pc L (st) σ P := by
  subst hn
  intro p l e R s m args below meth c H locs Q ls G C hR hS hL K
  exact lv_ldcw C.1 C.2.1 C.2.2.2.1 (C.2.2.2.2.1 _ hv) hd (h p l e R s m args below meth c H locs Q ls G C hR hS hL K)
theorem AW.ldc2 {i : Nat} {v : Int64} (hd : decode M.2.1 pc = .ok (.ldc2_w i, 3)) (hv : Cond.constantLong M.1.cls i v ∈ gT) (hn : pc + 3 = n) (h : AW scr k mc ms M c0 s0 n L (.long v :: st) σ P) : AW scr k mc ms M c0 s0 pc L (st) σ P := by
  subst hn
  intro p l e R s m args below meth c H locs Q ls G C hR hS hL K
  exact lv_ldc2 C.1 C.2.1 C.2.2.2.1 (C.2.2.2.2.1 _ hv) hd (h p l e R s m args below meth c H locs Q ls G C hR hS hL K)
theorem AW.iload_n {i : Fin 4} {x : Int32} (hd : decode M.2.1 pc = .ok (.iload_n i, 1)) (hl : L[(i : Nat)]? = some (some (.int x))) (hn : pc + 1 = n) (h : AW scr k mc ms M c0 s0 n L (.int x :: st) σ P) : AW scr k mc ms M c0 s0 pc L (st) σ P := by
  subst hn
  intro p l e R s m args below meth c H locs Q ls G C hR hS hL K
  exact lv_iload_n C.1 C.2.1 hd rfl (hL.2.2 _ _ hl) (h p l e R s m args below meth c H locs Q ls G C hR hS hL K)
theorem AW.iload {i : Nat} {x : Int32} (hd : decode M.2.1 pc = .ok (.iload i, 2)) (hl : L[i]? = some (some (.int x))) (hn : pc + 2 = n) (h : AW scr k mc ms M c0 s0 n L (.int x :: st) σ P) : AW scr k mc ms M c0 s0 pc L (st) σ P := by
  subst hn
  intro p l e R s m args below meth c H locs Q ls G C hR hS hL K
  exact lv_iload C.1 C.2.1 hd (hL.2.2 _ _ hl) (h p l e R s m args below meth c H locs Q ls G C hR hS hL K)
theorem AW.lload_n {i : Fin 4} {x : Int64} (hd : decode M.2.1 pc = .ok (.lload_n i, 1)) (hl : L[(i : Nat)]? = some (some (.long x))) (hn : pc + 1 = n) (h : AW scr k mc ms M c0 s0 n L (.long x :: st) σ P) : AW scr k mc ms M c0 s0 pc L (st) σ P := by
  subst hn
  intro p l e R s m args below meth c H locs Q ls G C hR hS hL K
  exact lv_lload_n C.1 C.2.1 hd rfl (hL.2.2 _ _ hl) (h p l e R s m args below meth c H locs Q ls G C hR hS hL K)
theorem AW.lload {i : Nat} {x : Int64} (hd : decode M.2.1 pc = .ok (.lload i, 2)) (hl : L[i]? = some (some (.long x))) (hn : pc + 2 = n) (h : AW scr k mc ms M c0 s0 n L (.long x :: st) σ P) : AW scr k mc ms M c0 s0 pc L (st) σ P := by
  subst hn
  intro p l e R s m args below meth c H locs Q ls G C hR hS hL K
  exact lv_lload C.1 C.2.1 hd (hL.2.2 _ _ hl) (h p l e R s m args below meth c H locs Q ls G C hR hS hL K)
theorem AW.aload_n {i : Fin 4} {x : Nat} (hd : decode M.2.1 pc = .ok (.aload_n i, 1)) (hl : L[(i : Nat)]? = some (some (.ref x))) (hn : pc + 1 = n) (h : AW scr k mc ms M c0 s0 n L (.ref x :: st) σ P) : AW scr k mc ms M c0 s0 pc L (st) σ P := by
  subst hn
  intro p l e R s m args below meth c H locs Q ls G C hR hS hL K
  exact lv_aload_n C.1 C.2.1 hd rfl (hL.2.2 _ _ hl) (h p l e R s m args below meth c H locs Q ls G C hR hS hL K)
theorem AW.aload {i : Nat} {x : Nat} (hd : decode M.2.1 pc = .ok (.aload i, 2)) (hl : L[i]? = some (some (.ref x))) (hn : pc + 2 = n) (h : AW scr k mc ms M c0 s0 n L (.ref x :: st) σ P) : AW scr k mc ms M c0 s0 pc L (st) σ P := by
  subst hn
  intro p l e R s m args below meth c H locs Q ls G C hR hS hL K
  exact lv_aload C.1 C.2.1 hd (hL.2.2 _ _ hl) (h p l e R s m args below meth c H locs Q ls G C hR hS hL K)
theorem AW.sload_n {i : Fin 4} {x : Nat} (hd : decode M.2.1 pc = .ok (.aload_n i, 1)) (hl : L[(i : Nat)]? = some (some (.retAddr x))) (hn : pc + 1 = n) (h : AW scr k mc ms M c0 s0 n L (.retAddr x :: st) σ P) : AW scr k mc ms M c0 s0 pc L (st) σ P := by
  subst hn
  intro p l e R s m args below meth c H locs Q ls G C hR hS hL K
  exact lv_aload_n C.1 C.2.1 hd rfl (hL.2.2 _ _ hl) (h p l e R s m args below meth c H locs Q ls G C hR hS hL K)
theorem AW.istore_n {i : Fin 4} {x : Int32} {L' : List (Option Value)} (hd : decode M.2.1 pc = .ok (.istore_n i, 1)) (hi : (i : Nat) < M.2.2.1) (hc : a_ok L (i : Nat) = true) (hl : L.set (i : Nat) (some (.int x)) = L') (hn : pc + 1 = n) (h : AW scr k mc ms M c0 s0 n L' st σ P) : AW scr k mc ms M c0 s0 pc L (.int x :: st) σ P := by
  subst hn; subst hl
  intro p l e R s m args below meth c H locs Q ls G C hR hS hL K
  exact lv_istore_n C.1 C.2.1 hd rfl hL.has hi rfl (fun ls1 h1 => h p l e R s m args below meth c H locs Q ls1 G C hR hS (a_L.st1 (ls := ls) hc h1) K)
theorem AW.istore {i : Nat} {x : Int32} {L' : List (Option Value)} (hd : decode M.2.1 pc = .ok (.istore i, 2)) (hi : i < M.2.2.1) (hc : a_ok L i = true) (hl : L.set i (some (.int x)) = L') (hn : pc + 2 = n) (h : AW scr k mc ms M c0 s0 n L' st σ P) : AW scr k mc ms M c0 s0 pc L (.int x :: st) σ P := by
  subst hn; subst hl
  intro p l e R s m args below meth c H locs Q ls G C hR hS hL K
  exact lv_istore C.1 C.2.1 hd hL.has hi rfl (fun ls1 h1 => h p l e R s m args below meth c H locs Q ls1 G C hR hS (a_L.st1 (ls := ls) hc h1) K)
theorem AW.astore_n {i : Fin 4} {x : Nat} {L' : List (Option Value)} (hd : decode M.2.1 pc = .ok (.astore_n i, 1)) (hi : (i : Nat) < M.2.2.1) (hc : a_ok L (i : Nat) = true) (hl : L.set (i : Nat) (some (.ref x)) = L') (hn : pc + 1 = n) (h : AW scr k mc ms M c0 s0 n L' st σ P) : AW scr k mc ms M c0 s0 pc L (.ref x :: st) σ P := by
  subst hn; subst hl
  intro p l e R s m args below meth c H locs Q ls G C hR hS hL K
  exact lv_astore_n C.1 C.2.1 hd rfl hL.has hi rfl (fun ls1 h1 => h p l e R s m args below meth c H locs Q ls1 G C hR hS (a_L.st1 (ls := ls) hc h1) K)
theorem AW.astore {i : Nat} {x : Nat} {L' : List (Option Value)} (hd : decode M.2.1 pc = .ok (.astore i, 2)) (hi : i < M.2.2.1) (hc : a_ok L i = true) (hl : L.set i (some (.ref x)) = L') (hn : pc + 2 = n) (h : AW scr k mc ms M c0 s0 n L' st σ P) : AW scr k mc ms M c0 s0 pc L (.ref x :: st) σ P := by
  subst hn; subst hl
  intro p l e R s m args below meth c H locs Q ls G C hR hS hL K
  exact lv_astore C.1 C.2.1 hd hL.has hi rfl (fun ls1 h1 => h p l e R s m args below meth c H locs Q ls1 G C hR hS (a_L.st1 (ls := ls) hc h1) K)
theorem AW.lstore_n {i : Fin 4} {x : Int64} {L' : List (Option Value)} (hd : decode M.2.1 pc = .ok (.lstore_n i, 1)) (hi : (i : Nat) + 1 < M.2.2.1) (hc : a_ok L (i : Nat) = true) (hl : (L.set (i : Nat) (some (.long x))).set ((i : Nat) + 1) none = L') (hn : pc + 1 = n) (h : AW scr k mc ms M c0 s0 n L' st σ P) : AW scr k mc ms M c0 s0 pc L (.long x :: st) σ P := by
  subst hn; subst hl
  intro p l e R s m args below meth c H locs Q ls G C hR hS hL K
  exact lv_lstore_n C.1 C.2.1 hd rfl hL.has hi rfl (fun ls1 h1 => h p l e R s m args below meth c H locs Q ls1 G C hR hS (a_L.st2 (ls := ls) hc h1) K)
theorem AW.iinc {i : Nat} {x v : Int32} {d : Int} {L' : List (Option Value)} (hd : decode M.2.1 pc = .ok (.iinc i d, 3)) (hx : L[i]? = some (some (.int x))) (hv : x + Int32.ofInt d = v) (hi : i < M.2.2.1) (hc : a_ok L i = true) (hl : L.set i (some (.int v)) = L') (hn : pc + 3 = n) (h : AW scr k mc ms M c0 s0 n L' st σ P) : AW scr k mc ms M c0 s0 pc L st σ P := by
  subst hn; subst hl
  intro p l e R s m args below meth c H locs Q ls G C hR hS hL K
  obtain ⟨kk, hkk⟩ := List.getElem?_of_mem (a_pairs_mem (G := G) (q := (i, .int x)) |>.mpr ⟨.int x, hx, rfl⟩)
  exact lv_iinc C.1 C.2.1 hd hL.has hkk hv hi rfl (fun ls1 h1 => h p l e R s m args below meth c H locs Q ls1 G C hR hS (a_L.st1 (ls := ls) (v := .int v) hc h1) K)
theorem AW.iadd {x y : Int32} (hd : decode M.2.1 pc = .ok (.iadd, 1)) (hn : pc + 1 = n) (h : AW scr k mc ms M c0 s0 n L (.int (x + y) :: st) σ P) : AW scr k mc ms M c0 s0 pc L (.int y :: .int x :: st) σ P := by
  subst hn
  intro p l e R s m args below meth c H locs Q ls G C hR hS hL K
  exact lv_iadd C.1 C.2.1 hd (h p l e R s m args below meth c H locs Q ls G C hR hS hL K)
theorem AW.isub {x y : Int32} (hd : decode M.2.1 pc = .ok (.isub, 1)) (hn : pc + 1 = n) (h : AW scr k mc ms M c0 s0 n L (.int (x - y) :: st) σ P) : AW scr k mc ms M c0 s0 pc L (.int y :: .int x :: st) σ P := by
  subst hn
  intro p l e R s m args below meth c H locs Q ls G C hR hS hL K
  exact lv_isub C.1 C.2.1 hd (h p l e R s m args below meth c H locs Q ls G C hR hS hL K)
theorem AW.imul {x y : Int32} (hd : decode M.2.1 pc = .ok (.imul, 1)) (hn : pc + 1 = n) (h : AW scr k mc ms M c0 s0 n L (.int (x * y) :: st) σ P) : AW scr k mc ms M c0 s0 pc L (.int y :: .int x :: st) σ P := by
  subst hn
  intro p l e R s m args below meth c H locs Q ls G C hR hS hL K
  exact lv_imul C.1 C.2.1 hd (h p l e R s m args below meth c H locs Q ls G C hR hS hL K)
theorem AW.iand {x y : Int32} (hd : decode M.2.1 pc = .ok (.iand, 1)) (hn : pc + 1 = n) (h : AW scr k mc ms M c0 s0 n L (.int (x &&& y) :: st) σ P) : AW scr k mc ms M c0 s0 pc L (.int y :: .int x :: st) σ P := by
  subst hn
  intro p l e R s m args below meth c H locs Q ls G C hR hS hL K
  exact lv_iand C.1 C.2.1 hd (h p l e R s m args below meth c H locs Q ls G C hR hS hL K)
theorem AW.ior {x y : Int32} (hd : decode M.2.1 pc = .ok (.ior, 1)) (hn : pc + 1 = n) (h : AW scr k mc ms M c0 s0 n L (.int (x ||| y) :: st) σ P) : AW scr k mc ms M c0 s0 pc L (.int y :: .int x :: st) σ P := by
  subst hn
  intro p l e R s m args below meth c H locs Q ls G C hR hS hL K
  exact lv_ior C.1 C.2.1 hd (h p l e R s m args below meth c H locs Q ls G C hR hS hL K)
theorem AW.ixor {x y : Int32} (hd : decode M.2.1 pc = .ok (.ixor, 1)) (hn : pc + 1 = n) (h : AW scr k mc ms M c0 s0 n L (.int (x ^^^ y) :: st) σ P) : AW scr k mc ms M c0 s0 pc L (.int y :: .int x :: st) σ P := by
  subst hn
  intro p l e R s m args below meth c H locs Q ls G C hR hS hL K
  exact lv_ixor C.1 C.2.1 hd (h p l e R s m args below meth c H locs Q ls G C hR hS hL K)
theorem AW.ishl {x y : Int32} (hd : decode M.2.1 pc = .ok (.ishl, 1)) (hn : pc + 1 = n) (h : AW scr k mc ms M c0 s0 n L (.int (x <<< (y &&& 31)) :: st) σ P) : AW scr k mc ms M c0 s0 pc L (.int y :: .int x :: st) σ P := by
  subst hn
  intro p l e R s m args below meth c H locs Q ls G C hR hS hL K
  exact lv_ishl C.1 C.2.1 hd (h p l e R s m args below meth c H locs Q ls G C hR hS hL K)
theorem AW.ishr {x y : Int32} (hd : decode M.2.1 pc = .ok (.ishr, 1)) (hn : pc + 1 = n) (h : AW scr k mc ms M c0 s0 n L (.int (x >>> (y &&& 31)) :: st) σ P) : AW scr k mc ms M c0 s0 pc L (.int y :: .int x :: st) σ P := by
  subst hn
  intro p l e R s m args below meth c H locs Q ls G C hR hS hL K
  exact lv_ishr C.1 C.2.1 hd (h p l e R s m args below meth c H locs Q ls G C hR hS hL K)
theorem AW.iushr {x y : Int32} (hd : decode M.2.1 pc = .ok (.iushr, 1)) (hn : pc + 1 = n) (h : AW scr k mc ms M c0 s0 n L (.int ((x.toUInt32 >>> (y.toUInt32 &&& Int32.toUInt32 31)).toInt32) :: st) σ P) : AW scr k mc ms M c0 s0 pc L (.int y :: .int x :: st) σ P := by
  subst hn
  intro p l e R s m args below meth c H locs Q ls G C hR hS hL K
  exact lv_iushr C.1 C.2.1 hd rfl (h p l e R s m args below meth c H locs Q ls G C hR hS hL K)
theorem AW.idiv {x y : Int32} (hd : decode M.2.1 pc = .ok (.idiv, 1)) (hne : ¬ y = 0) (hn : pc + 1 = n) (h : AW scr k mc ms M c0 s0 n L (.int (x / y) :: st) σ P) : AW scr k mc ms M c0 s0 pc L (.int y :: .int x :: st) σ P := by
  subst hn
  intro p l e R s m args below meth c H locs Q ls G C hR hS hL K
  exact lv_idiv C.1 C.2.1 hd hne (h p l e R s m args below meth c H locs Q ls G C hR hS hL K)
theorem AW.irem {x y : Int32} (hd : decode M.2.1 pc = .ok (.irem, 1)) (hne : ¬ y = 0) (hn : pc + 1 = n) (h : AW scr k mc ms M c0 s0 n L (.int (x - x / y * y) :: st) σ P) : AW scr k mc ms M c0 s0 pc L (.int y :: .int x :: st) σ P := by
  subst hn
  intro p l e R s m args below meth c H locs Q ls G C hR hS hL K
  exact lv_irem C.1 C.2.1 hd hne (h p l e R s m args below meth c H locs Q ls G C hR hS hL K)
theorem AW.ladd {x y : Int64} (hd : decode M.2.1 pc = .ok (.ladd, 1)) (hn : pc + 1 = n) (h : AW scr k mc ms M c0 s0 n L (.long (x + y) :: st) σ P) : AW scr k mc ms M c0 s0 pc L (.long y :: .long x :: st) σ P := by
  subst hn
  intro p l e R s m args below meth c H locs Q ls G C hR hS hL K
  exact lv_ladd C.1 C.2.1 hd (h p l e R s m args below meth c H locs Q ls G C hR hS hL K)
theorem AW.lsub {x y : Int64} (hd : decode M.2.1 pc = .ok (.lsub, 1)) (hn : pc + 1 = n) (h : AW scr k mc ms M c0 s0 n L (.long (x - y) :: st) σ P) : AW scr k mc ms M c0 s0 pc L (.long y :: .long x :: st) σ P := by
  subst hn
  intro p l e R s m args below meth c H locs Q ls G C hR hS hL K
  exact lv_lsub C.1 C.2.1 hd (h p l e R s m args below meth c H locs Q ls G C hR hS hL K)
theorem AW.lmul {x y : Int64} (hd : decode M.2.1 pc = .ok (.lmul, 1)) (hn : pc + 1 = n) (h : AW scr k mc ms M c0 s0 n L (.long (x * y) :: st) σ P) : AW scr k mc ms M c0 s0 pc L (.long y :: .long x :: st) σ P := by
  subst hn
  intro p l e R s m args below meth c H locs Q ls G C hR hS hL K
  exact lv_lmul C.1 C.2.1 hd (h p l e R s m args below meth c H locs Q ls G C hR hS hL K)
theorem AW.land {x y : Int64} (hd : decode M.2.1 pc = .ok (.land, 1)) (hn : pc + 1 = n) (h : AW scr k mc ms M c0 s0 n L (.long (x &&& y) :: st) σ P) : AW scr k mc ms M c0 s0 pc L (.long y :: .long x :: st) σ P := by
  subst hn
  intro p l e R s m args below meth c H locs Q ls G C hR hS hL K
  exact lv_land C.1 C.2.1 hd (h p l e R s m args below meth c H locs Q ls G C hR hS hL K)
theorem AW.ldiv {x y : Int64} (hd : decode M.2.1 pc = .ok (.ldiv, 1)) (hne : ¬ y = 0) (hn : pc + 1 = n) (h : AW scr k mc ms M c0 s0 n L (.long (x / y) :: st) σ P) : AW scr k mc ms M c0 s0 pc L (.long y :: .long x :: st) σ P := by
  subst hn
  intro p l e R s m args below meth c H locs Q ls G C hR hS hL K
  exact lv_ldiv C.1 C.2.1 hd hne (h p l e R s m args below meth c H locs Q ls G C hR hS hL K)
theorem AW.lrem {x y : Int64} (hd : decode M.2.1 pc = .ok (.lrem, 1)) (hne : ¬ y = 0) (hn : pc + 1 = n) (h : AW scr k mc ms M c0 s0 n L (.long (x - x / y * y) :: st) σ P) : AW scr k mc ms M c0 s0 pc L (.long y :: .long x :: st) σ P := by
  subst hn
  intro p l e R s m args below meth c H locs Q ls G C hR hS hL K
  exact lv_lrem C.1 C.2.1 hd hne (h p l e R s m args below meth c H locs Q ls G C hR hS hL K)
theorem AW.lcmp {x y : Int64} (hd : decode M.2.1 pc = .ok (.lcmp, 1)) (hn : pc + 1 = n) (h : AW scr k mc ms M c0 s0 n L (.int (lg_cmp x y) :: st) σ P) : AW scr k mc ms M c0 s0 pc L (.long y :: .long x :: st) σ P := by
  subst hn
  intro p l e R s m args below meth c H locs Q ls G C hR hS hL K
  exact W.lcmp C.1 C.2.1 hd (h p l e R s m args below meth c H locs Q ls G C hR hS hL K)
theorem AW.i2l {x : Int32} (hd : decode M.2.1 pc = .ok (.i2l, 1)) (hn : pc + 1 = n) (h : AW scr k mc ms M c0 s0 n L (.long x.toInt64 :: st) σ P) : AW scr k mc ms M c0 s0 pc L (.int x :: st) σ P := by
  subst hn
  intro p l e R s m args below meth c H locs Q ls G C hR hS hL K
  exact lv_i2l C.1 C.2.1 hd rfl (h p l e R s m args below meth c H locs Q ls G C hR hS hL K)
theorem AW.l2i {x : Int64} (hd : decode M.2.1 pc = .ok (.l2i, 1)) (hn : pc + 1 = n) (h : AW scr k mc ms M c0 s0 n L (.int x.toInt32 :: st) σ P) : AW scr k mc ms M c0 s0 pc L (.long x :: st) σ P := by
  subst hn
  intro p l e R s m args below meth c H locs Q ls G C hR hS hL K
  exact lv_l2i C.1 C.2.1 hd rfl (h p l e R s m args below meth c H locs Q ls G C hR hS hL K)
theorem AW.dup {v : Value} (hd : decode M.2.1 pc = .ok (.dup, 1)) (hc : v.category = 1) (hn : pc + 1 = n) (h : AW scr k mc ms M c0 s0 n L (v :: v :: st) σ P) : AW scr k mc ms M c0 s0 pc L (v :: st) σ P := by
  subst hn
  intro p l e R s m args below meth c H locs Q ls G C hR hS hL K
  exact lv_dup C.1 C.2.1 hd ((a_v_cat G v).trans hc) (h p l e R s m args below meth c H locs Q ls G C hR hS hL K)
theorem AW.dup2 {v u : Value} (hd : decode M.2.1 pc = .ok (.dup2, 1)) (hc : v.category = 1) (hu : u.category = 1) (hn : pc + 1 = n) (h : AW scr k mc ms M c0 s0 n L (v :: u :: v :: u :: st) σ P) : AW scr k mc ms M c0 s0 pc L (v :: u :: st) σ P := by
  subst hn
  intro p l e R s m args below meth c H locs Q ls G C hR hS hL K
  exact lv_dup2_11 C.1 C.2.1 hd ((a_v_cat G v).trans hc) ((a_v_cat G u).trans hu) (h p l e R s m args below meth c H locs Q ls G C hR hS hL K)
theorem AW.if_eq {x : Int32} {o : Int} {t : Nat} (hd : decode M.2.1 pc = .ok (.ifCond .eq o, 3)) (ht : (pc : Int) + o = (t : Int)) (hn : pc + 3 = n) (h1 : x = 0 → AW scr k mc ms M c0 s0 t L st σ P) (h2 : ¬ (x = 0) → AW scr k mc ms M c0 s0 n L st σ P) : AW scr k mc ms M c0 s0 pc L (.int x :: st) σ P := by
  subst hn
  intro p l e R s m args below meth c H locs Q ls G C hR hS hL K
  exact lv_if_eq C.1 C.2.1 hd ht (fun q => h1 q p l e R s m args below meth c H locs Q ls G C hR hS hL K) (fun q => h2 q p l e R s m args below meth c H locs Q ls G C hR hS hL K)
theorem AW.if_ne {x : Int32} {o : Int} {t : Nat} (hd : decode M.2.1 pc = .ok (.ifCond .ne o, 3)) (ht : (pc : Int) + o = (t : Int)) (hn : pc + 3 = n) (h1 : ¬ x = 0 → AW scr k mc ms M c0 s0 t L st σ P) (h2 : x = 0 → AW scr k mc ms M c0 s0 n L st σ P) : AW scr k mc ms M c0 s0 pc L (.int x :: st) σ P := by
  subst hn
  intro p l e R s m args below meth c H locs Q ls G C hR hS hL K
  exact lv_if_ne C.1 C.2.1 hd ht (fun q => h1 q p l e R s m args below meth c H locs Q ls G C hR hS hL K) (fun q => h2 q p l e R s m args below meth c H locs Q ls G C hR hS hL K)
theorem AW.if_lt {x : Int32} {o : Int} {t : Nat} (hd : decode M.2.1 pc = .ok (.ifCond .lt o, 3)) (ht : (pc : Int) + o = (t : Int)) (hn : pc + 3 = n) (h1 : x < 0 → AW scr k mc ms M c0 s0 t L st σ P) (h2 : ¬ (x < 0) → AW scr k mc ms M c0 s0 n L st σ P) : AW scr k mc ms M c0 s0 pc L (.int x :: st) σ P := by
  subst hn
  intro p l e R s m args below meth c H locs Q ls G C hR hS hL K
  exact lv_if_lt C.1 C.2.1 hd ht (fun q => h1 q p l e R s m args below meth c H locs Q ls G C hR hS hL K) (fun q => h2 q p l e R s m args below meth c H locs Q ls G C hR hS hL K)
theorem AW.if_ge {x : Int32} {o : Int} {t : Nat} (hd : decode M.2.1 pc = .ok (.ifCond .ge o, 3)) (ht : (pc : Int) + o = (t : Int)) (hn : pc + 3 = n) (h1 : 0 ≤ x → AW scr k mc ms M c0 s0 t L st σ P) (h2 : ¬ (0 ≤ x) → AW scr k mc ms M c0 s0 n L st σ P) : AW scr k mc ms M c0 s0 pc L (.int x :: st) σ P := by
  subst hn
  intro p l e R s m args below meth c H locs Q ls G C hR hS hL K
  exact lv_if_ge C.1 C.2.1 hd ht (fun q => h1 q p l e R s m args below meth c H locs Q ls G C hR hS hL K) (fun q => h2 q p l e R s m args below meth c H locs Q ls G C hR hS hL K)
theorem AW.if_gt {x : Int32} {o : Int} {t : Nat} (hd : decode M.2.1 pc = .ok (.ifCond .gt o, 3)) (ht : (pc : Int) + o = (t : Int)) (hn : pc + 3 = n) (h1 : 0 < x → AW scr k mc ms M c0 s0 t L st σ P) (h2 : ¬ (0 < x) → AW scr k mc ms M c0 s0 n L st σ P) : AW scr k mc ms M c0 s0 pc L (.int x :: st) σ P := by
  subst hn
  intro p l e R s m args below meth c H locs Q ls G C hR hS hL K
  exact lv_if_gt C.1 C.2.1 hd ht (fun q => h1 q p l e R s m args below meth c H locs Q ls G C hR hS hL K) (fun q => h2 q p l e R s m args below meth c H locs Q ls G C hR hS hL K)
theorem AW.if_le {x : Int32} {o : Int} {t : Nat} (hd : decode M.2.1 pc = .ok (.ifCond .le o, 3)) (ht : (pc : Int) + o = (t : Int)) (hn : pc + 3 = n) (h1 : x ≤ 0 → AW scr k mc ms M c0 s0 t L st σ P) (h2 : ¬ (x ≤ 0) → AW scr k mc ms M c0 s0 n L st σ P) : AW scr k mc ms M c0 s0 pc L (.int x :: st) σ P := by
  subst hn
  intro p l e R s m args below meth c H locs Q ls G C hR hS hL K
  exact lv_if_le C.1 C.2.1 hd ht (fun q => h1 q p l e R s m args below meth c H locs Q ls G C hR hS hL K) (fun q => h2 q p l e R s m args below meth c H locs Q ls G C hR hS hL K)
theorem AW.icmp_eq {x y : Int32} {o : Int} {t : Nat} (hd : decode M.2.1 pc = .ok (.if_icmp .eq o, 3)) (ht : (pc : Int) + o = (t : Int)) (hn : pc + 3 = n) (h1 : x = y → AW scr k mc ms M c0 s0 t L st σ P) (h2 : ¬ (x = y) → AW scr k mc ms M c0 s0 n L st σ P) : AW scr k mc ms M c0 s0 pc L (.int y :: .int x :: st) σ P := by
  subst hn
  intro p l e R s m args below meth c H locs Q ls G C hR hS hL K
  exact lv_icmp_eq C.1 C.2.1 hd ht (fun q => h1 q p l e R s m args below meth c H locs Q ls G C hR hS hL K) (fun q => h2 q p l e R s m args below meth c H locs Q ls G C hR hS hL K)
theorem AW.icmp_ne {x y : Int32} {o : Int} {t : Nat} (hd : decode M.2.1 pc = .ok (.if_icmp .ne o, 3)) (ht : (pc : Int) + o = (t : Int)) (hn : pc + 3 = n) (h1 : ¬ x = y → AW scr k mc ms M c0 s0 t L st σ P) (h2 : x = y → AW scr k mc ms M c0 s0 n L st σ P) : AW scr k mc ms M c0 s0 pc L (.int y :: .int x :: st) σ P := by
  subst hn
  intro p l e R s m args below meth c H locs Q ls G C hR hS hL K
  exact lv_icmp_ne C.1 C.2.1 hd ht (fun q => h1 q p l e R s m args below meth c H locs Q ls G C hR hS hL K) (fun q => h2 q p l e R s m args below meth c H locs Q ls G C hR hS hL K)
theorem AW.icmp_lt {x y : Int32} {o : Int} {t : Nat} (hd : decode M.2.1 pc = .ok (.if_icmp .lt o, 3)) (ht : (pc : Int) + o = (t : Int)) (hn : pc + 3 = n) (h1 : x < y → AW scr k mc ms M c0 s0 t L st σ P) (h2 : ¬ (x < y) → AW scr k mc ms M c0 s0 n L st σ P) : AW scr k mc ms M c0 s0 pc L (.int y :: .int x :: st) σ P := by
  subst hn
  intro p l e R s m args below meth c H locs Q ls G C hR hS hL K
  exact lv_icmp_lt C.1 C.2.1 hd ht (fun q => h1 q p l e R s m args below meth c H locs Q ls G C hR hS hL K) (fun q => h2 q p l e R s m args below meth c H locs Q ls G C hR hS hL K)
theorem AW.icmp_ge {x y : Int32} {o : Int} {t : Nat} (hd : decode M.2.1 pc = .ok (.if_icmp .ge o, 3)) (ht : (pc : Int) + o = (t : Int)) (hn : pc + 3 = n) (h1 : y ≤ x → AW scr k mc ms M c0 s0 t L st σ P) (h2 : ¬ (y ≤ x) → AW scr k mc ms M c0 s0 n L st σ P) : AW scr k mc ms M c0 s0 pc L (.int y :: .int x :: st) σ P := by
  subst hn
  intro p l e R s m args below meth c H locs Q ls G C hR hS hL K
  exact lv_icmp_ge C.1 C.2.1 hd ht (fun q => h1 q p l e R s m args below meth c H locs Q ls G C hR hS hL K) (fun q => h2 q p l e R s m args below meth c H locs Q ls G C hR hS hL K)
theorem AW.icmp_gt {x y : Int32} {o : Int} {t : Nat} (hd : decode M.2.1 pc = .ok (.if_icmp .gt o, 3)) (ht : (pc : Int) + o = (t : Int)) (hn : pc + 3 = n) (h1 : y < x → AW scr k mc ms M c0 s0 t L st σ P) (h2 : ¬ (y < x) → AW scr k mc ms M c0 s0 n L st σ P) : AW scr k mc ms M c0 s0 pc L (.int y :: .int x :: st) σ P := by
  subst hn
  intro p l e R s m args below meth c H locs Q ls G C hR hS hL K
  exact lv_icmp_gt C.1 C.2.1 hd ht (fun q => h1 q p l e R s m args below meth c H locs Q ls G C hR hS hL K) (fun q => h2 q p l e R s m args below meth c H locs Q ls G C hR hS hL K)
theorem AW.icmp_le {x y : Int32} {o : Int} {t : Nat} (hd : decode M.2.1 pc = .ok (.if_icmp .le o, 3)) (ht : (pc : Int) + o = (t : Int)) (hn : pc + 3 = n) (h1 : x ≤ y → AW scr k mc ms M c0 s0 t L st σ P) (h2 : ¬ (x ≤ y) → AW scr k mc ms M c0 s0 n L st σ P) : AW scr k mc ms M c0 s0 pc L (.int y :: .int x :: st) σ P := by
  subst hn
  intro p l e R s m args below meth c H locs Q ls G C hR hS hL K
  exact lv_icmp_le C.1 C.2.1 hd ht (fun q => h1 q p l e R s m args below meth c H locs Q ls G C hR hS hL K) (fun q => h2 q p l e R s m args below meth c H locs Q ls G C hR hS hL K)
theorem AW.goto {o : Int} {t : Nat} (hd : decode M.2.1 pc = .ok (.goto o, 3)) (ht : (pc : Int) + o = (t : Int)) (h : AW scr k mc ms M c0 s0 t L st σ P) : AW scr k mc ms M c0 s0 pc L st σ P := by
  intro p l e R s m args below meth c H locs Q ls G C hR hS hL K
  exact lv_goto C.1 C.2.1 hd ht (h p l e R s m args below meth c H locs Q ls G C hR hS hL K)
theorem AW.tsOut {x : Int32} {df lo hi : Int} {offs : Array Int} {ln t : Nat} (hd : decode M.2.1 pc = .ok (.tableswitch df lo hi offs, ln)) (hx : x.toInt < lo ∨ hi < x.toInt) (ht : (pc : Int) + df = (t : Int)) (h : AW scr k mc ms M c0 s0 t L st σ P) : AW scr k mc ms M c0 s0 pc L (.int x :: st) σ P := by
  intro p l e R s m args below meth c H locs Q ls G C hR hS hL K
  exact lv_tableOut C.1 C.2.1 hd hx ht (h p l e R s m args below meth c H locs Q ls G C hR hS hL K)
theorem AW.tsIn {x : Int32} {df lo hi o : Int} {offs : Array Int} {ln t : Nat} (hd : decode M.2.1 pc = .ok (.tableswitch df lo hi offs, ln)) (h1 : ¬ x.toInt < lo) (h2 : ¬ hi < x.toInt) (ho : offs[(x.toInt - lo).toNat]? = some o) (ht : (pc : Int) + o = (t : Int)) (h : AW scr k mc ms M c0 s0 t L st σ P) : AW scr k mc ms M c0 s0 pc L (.int x :: st) σ P := by
  intro p l e R s m args below meth c H locs Q ls G C hR hS hL K
  exact lv_tableIn C.1 C.2.1 hd h1 h2 ho ht (h p l e R s m args below meth c H locs Q ls G C hR hS hL K)
theorem AW.lsw {x : Int32} {df o : Int} {ps : Array (Int × Int)} {ln t : Nat} (hd : decode M.2.1 pc = .ok (.lookupswitch df ps, ln)) (hp : (ps.toList.zip (ps.toList.drop 1)).all (fun (a, next) => a.1 < next.1) = true) (ho : Op.lookupswitch.offset ps.toList df x.toInt = o) (ht : (pc : Int) + o = (t : Int)) (h : AW scr k mc ms M c0 s0 t L st σ P) : AW scr k mc ms M c0 s0 pc L (.int x :: st) σ P := by
  intro p l e R s m args below meth c H locs Q ls G C hR hS hL K
  exact lv_lookup C.1 C.2.1 hd hp ho ht (h p l e R s m args below meth c H locs Q ls G C hR hS hL K)
theorem AW.ret (hd : decode M.2.1 pc = .ok (.return_, 1)) (hr : M.2.2.2 = none) (hc : c0 ≤ mc) (hs : s0 ≤ ms) (hP : P none σ) : AW scr k mc ms M c0 s0 pc L [] σ P := by
  intro p l e R s m args below meth c H locs Q ls G C hR hS hL K
  exact K none σ H locs c0 s0 pc ls hP hR hS hc hs ⟨hd, hr⟩
theorem AW.iret {x : Int32} {ty : FieldType} (hd : decode M.2.1 pc = .ok (.ireturn, 1)) (hr : M.2.2.2 = some ty) (hn : narrow ty (.int x) = .int x) (hc : c0 ≤ mc) (hs : s0 ≤ ms) (hP : P (some (.int x)) σ) : AW scr k mc ms M c0 s0 pc L [.int x] σ P := by
  intro p l e R s m args below meth c H locs Q ls G C hR hS hL K
  exact K (some (.int x)) σ H locs c0 s0 pc ls hP hR hS hc hs ⟨hd, ty, hr, hn⟩
theorem AW.mono {P' : Option Value → aS → Prop} (hP : ∀ r τ, P' r τ → P r τ) (h : AW scr k mc ms M c0 s0 pc L st σ P') : AW scr k mc ms M c0 s0 pc L st σ P := by
  intro p l e R s m args below meth c H locs Q ls G C hR hS hL K
  exact h p l e R s m args below meth c H locs Q ls G C hR hS hL (fun r τ H' locs' c1 s1 pc' ls' h1 => K r τ H' locs' c1 s1 pc' ls' (hP r τ h1))
theorem AW.wide {c1 s1 : Nat} (h1 : c0 ≤ c1) (h2 : s0 ≤ s1) (h : AW scr k mc ms M c1 s1 pc L st σ P) : AW scr k mc ms M c0 s0 pc L st σ P := by
  intro p l e R s m args below meth c H locs Q ls G C hR hS hL K
  exact W.widen h1 h2 (h p l e R s m args below meth c H locs Q ls G C hR hS hL K)
end AWR
