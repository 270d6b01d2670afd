
def a_lk (own : String) (idx : Nat) (y : MethodName) : Prop := Cond.methodLink own idx y ∈ gT ∨ ∃ host, Cond.methodLinkNest own idx y host ∈ nT
/-- what the tables say of a callee of np parameters (the receiver apart) -/
def a_cb (Mc : aM) (np : Nat) : Prop := Cond.code Mc.1 Mc.2.1 Mc.2.2.1 Mc.2.2.2 ∈ gT ∧ Cond.initialized Mc.1.cls ∈ gT ∧ (Mc.1.cls ≠ "java/lang/invoke/MethodHandle" ∧ Mc.1.cls ≠ "java/lang/invoke/VarHandle" ∧ (parseMethodDescriptor Mc.1.desc).map (fun d => d.parameters.length) = some np) ∧ Mc.2.2.1 ≤ 40
def a_cv (Mc : aM) (np : Nat) : Prop := a_cb Mc np ∧ Cond.instanceMethod Mc.1 ∈ gT ∧ Cond.selects Mc.1.cls Mc.1 Mc.1 ∈ gT
def a_cs (Mc : aM) (np : Nat) : Prop := a_cb Mc np ∧ Cond.static Mc.1 ∈ gT
def a_ci (Mc : aM) (np : Nat) : Prop := a_cb Mc np ∧ Mc.1.name = "<init>" ∧ Mc.2.2.2 = none ∧ Cond.instanceMethod Mc.1 ∈ gT
theorem a_wl_good {Mc : aM} (h : Cond.code Mc.1 Mc.2.1 Mc.2.2.1 Mc.2.2.2 ∈ gT) : GoodIn gT (a_wl Mc) := by
  intro w hw
  rcases List.mem_cons.mp hw with rfl | hw
  · exact gT_good _ h
  · exact gT_good _ hw
theorem a_blind (G : aG) (av : List Value) (σ : aS) : FrameBlind (a_Pc G av σ) := by
  intro a U g mk q
  obtain ⟨q0, q1, q2⟩ := q
  exact ⟨q0, q1, a_Kn.same (s := U) rfl q2⟩
theorem a_restsum : ∀ (l : List Value), (l.map fun v => v.category).sum ≤ 2 * l.length := by
  intro l
  induction l with
  | nil => simp
  | cons v t ih =>
    have : v.category ≤ 2 := by rcases lv_cat v with h | h <;> omega
    simp only [List.map_cons, List.sum_cons, List.length_cons]
    omega
theorem a_st_len (G : aG) (l : List Value) : (a_st G l).length = l.length := List.length_map _
theorem a_restW {G : aG} {l : List Value} (h : l.length ≤ 4) {g : JFrame} (hg : g.monitorRoom = 0) : 2 * g.monitorRoom + ((a_st G l).map fun v => v.category).sum ≤ 8 := by
  have := a_restsum (a_st G l)
  rw [a_st_len] at this
  omega
theorem a_st_rev (G : aG) (As rest : List Value) : a_st G (As.reverse ++ rest) = (a_st G As).reverse ++ a_st G rest := by
  unfold a_st
  rw [List.map_append, List.map_reverse]
section AWCr
variable {p : Program} {l : Launch} {e : Env} {R : Room} {s : State} {m : MethodId} {args : Array Value} {below : List Frame} {meth : Method} {c : Code} {H : Heap} {locs : List Loc} {Q : State → Prop}
theorem a_went {G : aG} {P1 : Option Value → aS → Prop} {c0 s0 mc' ms' pc : Nat} {ls : Array Slot} {st0 rest : List Value} {a : Array Value} {H0 : Heap}
    (hr : va_Run p l e R s m args below meth c H locs c0 s0 mc' ms' (F0 m pc ls st0) (a_st G rest) (a_Qc G P1 a) (fun q => G.2.2.1 ≤ q)) (hS : va_S (fun q => G.2.2.1 ≤ q) H0 H locs)
    (kk : ∀ (r : Option Value) (σ' : aS) (H1 : Heap) (locs1 : List Loc), P1 r σ' → a_R G σ' H1 → va_S (fun q => G.2.2.1 ≤ q) H0 H1 locs1 → W p l e R s m args below meth c H1 locs1 (c0 + mc') (s0 + ms') Q (F0 m (pc + 3) ls (a_st G (r.toList ++ rest)))) : W p l e R s m args below meth c H locs c0 s0 Q (F0 m pc ls st0) := by
  intro T hT X
  obtain ⟨v, st₀, t, T', L, h0, X', hL, e1, e2, ⟨⟨r, σ', hv, hp, hR1⟩, hz, hk⟩, st⟩ := hr T hT X
  cases hv
  rw [h0] at hz hk
  obtain ⟨t2, a1, b1⟩ := kk r σ' T'.heap (locs ++ L) hp (by rw [e1]; exact hR1)
    ⟨Nat.le_trans hS.1 (by rw [e1]; exact hz), fun q h1 h2 => by rw [e1, hk q (Nat.lt_of_lt_of_le h1 hS.1) h2]; exact hS.2.1 q h1 h2, fun q hq => by
      rcases List.mem_append.mp hq with h | h
      · exact hS.2.2 q h
      · exact hL q h⟩ T' rfl X'
  have e9 : a_st G (r.toList ++ rest) = (r.map (a_v G)).toList ++ a_st G rest := by cases r <;> rfl
  rw [e9] at a1
  exact ⟨t2, st t2 a1, b1⟩
end AWCr
section AWC
variable {scr : Option (Nat × (Nat → Int32))} {k mc ms : Nat} {M : aM} {c0 s0 pc n : Nat} {L : List (Option Value)} {st : List Value} {σ : aS} {P : Option Value → aS → Prop}
theorem AW.callv0 {idx kc mc' ms' np : Nat} {a : Nat} {Mc : aM} {As rest : List Value} {P1 : Option Value → aS → Prop} (hd : decode M.2.1 pc = .ok (.invokevirtual idx, 3)) (hl : a_lk M.1.cls idx Mc.1) (hcb : a_cv Mc np) (hM : AC kc mc' ms' Mc (.ref a :: As) σ P1) (hnp : As.length = np) (hst : st = As.reverse ++ .ref a :: rest) (hrs : rest.length ≤ 4) (hk : kc + 1 ≤ k) (hc0 : c0 + mc' ≤ mc) (hs0 : s0 + ms' ≤ ms) (ha : a < σ.1) {ci : Nat} {fs : List Value} {q : vw_C} (hc : σ.2 a = .inr (ci, fs)) (hq : vwCl[ci]? = some q) (hqn : q.1 = Mc.1.cls) (hn : pc + 3 = n) (h : ∀ (r : Option Value) (σ' : aS), P1 r σ' → AW scr k mc ms M (c0 + mc') (s0 + ms') n L (r.toList ++ rest) σ' P) : AW scr k mc ms M c0 s0 pc L st σ P := by
  subst hn; subst hst
  intro p l e R s m args below meth c H locs Q ls G C hR hS hL K
  have h' := fun r σ' H1 locs1 hp hR1 hS1 => h r σ' hp p l e R s m args below meth c H1 locs1 Q ls G C hR1 hS1 hL K
  obtain ⟨hx, hb, hml, hown, hts, hK, hnam, ⟨hR1, hR2, hR3, hR4⟩, -⟩ := C
  obtain ⟨⟨hcode, hini, hdd, hm40⟩, hin, hsel⟩ := hcb
  have hRm : (a_rm kc mc' ms').frames + 1 ≤ R.frames ∧ 8 + (Mc.2.2.1 + 11) + (a_rm kc mc' ms').locals ≤ R.locals := ⟨by show kc + 1 ≤ _; omega, by show 8 + (Mc.2.2.1 + 11) + 64 * kc ≤ _; omega⟩
  have hg := a_wl_good hcode
  have hnp' : (a_st G As).length = np := by rw [a_st_len]; exact hnp
  have hpre : ∀ U : State, U.heap = H → s.WarmedH U.vm → a_Pc G (.ref a :: As) σ (a_st G (.ref a :: As)).toArray U := fun U hU hW => ⟨rfl, by rw [hU]; exact hR, a_Kn.warm hW hK⟩
  have hrecv : ∃ cell : Cell, H[G.2.2.1 + a]? = some cell ∧ cell.vm.isStatics = false ∧ s.vm.findClass Mc.1.cls = some cell.cls := by
    have he := a_ws_get G σ ha
    rw [hc] at he
    rw [← hqn]
    exact va_recv hK.1 hR.2 hq he
  rw [a_st_rev]
  rcases hl with hl | ⟨host, hl⟩
  · exact a_went (va_runV (As := a_st G As) (rest := a_st G rest) ⟨hx, hb, hml, hown, hts⟩ (hM l G) ⟨callB_of np hts hg rfl rfl rfl (hts _ hini) (hts _ hl) hdd hRm, hts _ hin, hts _ hsel⟩ ⟨a_blind G _ σ, hrecv, hpre⟩ rfl hnp' hL.1 rfl (a_restW hrs rfl) hd ⟨by omega, by omega⟩) hS h'
  · exact a_went (va_runVN (As := a_st G As) (rest := a_st G rest) ⟨hx, hb, hml, hown, hts⟩ (hM l G) ⟨va_cnB np hts hg rfl rfl rfl (hK.2.1 _ hl) (hts _ hini) hdd hRm, hts _ hin, hts _ hsel⟩ ⟨a_blind G _ σ, hrecv, hpre⟩ rfl hnp' hL.1 rfl (a_restW hrs rfl) hd ⟨by omega, by omega⟩) hS h'
theorem AW.calls0 {idx kc mc' ms' np : Nat} {Mc : aM} {As rest : List Value} {P1 : Option Value → aS → Prop} (hd : decode M.2.1 pc = .ok (.invokestatic idx, 3)) (hl : a_lk M.1.cls idx Mc.1) (hcb : a_cs Mc np) (hM : AC kc mc' ms' Mc As σ P1) (hnp : As.length = np) (hst : st = As.reverse ++ rest) (hrs : rest.length ≤ 4) (hk : kc + 1 ≤ k) (hc0 : c0 + mc' ≤ mc) (hs0 : s0 + ms' ≤ ms) (hn : pc + 3 = n) (h : ∀ (r : Option Value) (σ' : aS), P1 r σ' → AW scr k mc ms M (c0 + mc') (s0 + ms') n L (r.toList ++ rest) σ' P) : AW scr k mc ms M c0 s0 pc L st σ P := by
  subst hn; subst hst
  intro p l e R s m args below meth c H locs Q ls G C hR hS hL K
  have h' := fun r σ' H1 locs1 hp hR1 hS1 => h r σ' hp p l e R s m args below meth c H1 locs1 Q ls G C hR1 hS1 hL K
  obtain ⟨hx, hb, hml, hown, hts, hK, hnam, ⟨hR1, hR2, hR3, hR4⟩, -⟩ := C
  obtain ⟨⟨hcode, hini, hdd, hm40⟩, hstat⟩ := hcb
  have hRm : (a_rm kc mc' ms').frames + 1 ≤ R.frames ∧ 8 + (Mc.2.2.1 + 11) + (a_rm kc mc' ms').locals ≤ R.locals := ⟨by show kc + 1 ≤ _; omega, by show 8 + (Mc.2.2.1 + 11) + 64 * kc ≤ _; omega⟩
  have hg := a_wl_good hcode
  have hnp' : (a_st G As).length = np := by rw [a_st_len]; exact hnp
  have hpre : ∀ U : State, U.heap = H → s.WarmedH U.vm → a_Pc G As σ (a_st G As).toArray U := fun U hU hW => ⟨rfl, by rw [hU]; exact hR, a_Kn.warm hW hK⟩
  rw [a_st_rev]
  rcases hl with hl | ⟨host, hl⟩
  · exact a_went (va_runS (As := a_st G As) (rest := a_st G rest) ⟨hx, hb, hml, hown, hts⟩ (hM l G) ⟨callB_of np hts hg rfl rfl rfl (hts _ hini) (hts _ hl) hdd hRm, hts _ hstat⟩ ⟨a_blind G _ σ, hpre⟩ rfl hnp' hL.1 rfl (a_restW hrs rfl) hd ⟨by omega, by omega⟩) hS h'
  · exact a_went (va_runSN (As := a_st G As) (rest := a_st G rest) ⟨hx, hb, hml, hown, hts⟩ (hM l G) ⟨va_cnB np hts hg rfl rfl rfl (hK.2.1 _ hl) (hts _ hini) hdd hRm, hts _ hstat, trivial⟩ ⟨a_blind G _ σ, hpre⟩ rfl hnp' hL.1 rfl (a_restW hrs rfl) hd ⟨by omega, by omega⟩) hS h'
theorem AW.calli0 {idx kc mc' ms' np : Nat} {a : Nat} {Mc : aM} {As rest : List Value} {P1 : Option Value → aS → Prop} (hd : decode M.2.1 pc = .ok (.invokespecial idx, 3)) (hl : a_lk M.1.cls idx Mc.1) (hcb : a_ci Mc np) (hM : AC kc mc' ms' Mc (.ref a :: As) σ P1) (hnp : As.length = np) (hst : st = As.reverse ++ .ref a :: rest) (hrs : rest.length ≤ 4) (hk : kc + 1 ≤ k) (hc0 : c0 + mc' ≤ mc) (hs0 : s0 + ms' ≤ ms) (hn : pc + 3 = n) (h : ∀ (r : Option Value) (σ' : aS), P1 r σ' → AW scr k mc ms M (c0 + mc') (s0 + ms') n L (r.toList ++ rest) σ' P) : AW scr k mc ms M c0 s0 pc L st σ P := by
  subst hn; subst hst
  intro p l e R s m args below meth c H locs Q ls G C hR hS hL K
  have h' := fun r σ' H1 locs1 hp hR1 hS1 => h r σ' hp p l e R s m args below meth c H1 locs1 Q ls G C hR1 hS1 hL K
  obtain ⟨hx, hb, hml, hown, hts, hK, hnam, ⟨hR1, hR2, hR3, hR4⟩, -⟩ := C
  obtain ⟨⟨hcode, hini, hdd, hm40⟩, hy1, hrt, hin⟩ := hcb
  have hRm : (a_rm kc mc' ms').frames + 1 ≤ R.frames ∧ 8 + (Mc.2.2.1 + 11) + (a_rm kc mc' ms').locals ≤ R.locals := ⟨by show kc + 1 ≤ _; omega, by show 8 + (Mc.2.2.1 + 11) + 64 * kc ≤ _; omega⟩
  have hg := a_wl_good hcode
  have hnp' : (a_st G As).length = np := by rw [a_st_len]; exact hnp
  have hpre : ∀ U : State, U.heap = H → s.WarmedH U.vm → a_Pc G (.ref a :: As) σ (a_st G (.ref a :: As)).toArray U := fun U hU hW => ⟨rfl, by rw [hU]; exact hR, a_Kn.warm hW hK⟩
  rw [a_st_rev]
  obtain ⟨y, cc, ml, rt⟩ := Mc
  subst hrt
  rcases hl with hl | ⟨host, hl⟩
  · exact a_went (va_runI (As := a_st G As) (rest := a_st G rest) ⟨hx, hb, hml, hown, hts⟩ (hM l G) ⟨callB_of np hts hg rfl rfl rfl (hts _ hini) (hts _ hl) hdd hRm, hy1, hts _ hin⟩ ⟨a_blind G _ σ, hpre⟩ rfl hnp' hL.1 rfl (a_restW hrs rfl) hd ⟨by omega, by omega⟩) hS h'
  · exact a_went (va_runIN (As := a_st G As) (rest := a_st G rest) ⟨hx, hb, hml, hown, hts⟩ (hM l G) ⟨va_cnB np hts hg rfl rfl rfl (hK.2.1 _ hl) (hts _ hini) hdd hRm, hy1, hts _ hin⟩ ⟨a_blind G _ σ, hpre⟩ rfl hnp' hL.1 rfl (a_restW hrs rfl) hd ⟨by omega, by omega⟩) hS h'
theorem AW.objInit {idx a : Nat} {cc : ByteArray} (hd : decode M.2.1 pc = .ok (.invokespecial idx, 3)) (hl : Cond.methodLink M.1.cls idx objectInit ∈ gT) (hin : Cond.instanceMethod objectInit ∈ gT) (hcode : Cond.code objectInit ⟨#[0xb1]⟩ 1 none ∈ gT) (hrs : st.length ≤ 4) (hk : 1 ≤ k) (hn : pc + 3 = n) (h : AW scr k mc ms M c0 s0 n L st σ P) : AW scr k mc ms M c0 s0 pc L (.ref a :: st) σ P := by
  subst hn
  intro p l e R s m args below meth c H locs Q ls G C hR hS hL K
  have h' := h p l e R s m args below meth c H locs Q ls G C hR hS hL K
  obtain ⟨hx, hb, hml, hown, hts, hK, hnam, ⟨hR1, hR2, hR3, hR4⟩, -⟩ := C
  have hs := a_restW (G := G) (l := st) hrs (g := F0 m pc ls []) rfl
  exact W.objInit hx hb hown (hts _ hl) (hts _ hin) (hts _ hcode) (g := F0 m pc ls (a_st G (.ref a :: st))) rfl (by rw [hml]; exact hL.1) (rest := a_st G st) rfl hd (by omega) (by show 2 * 0 + _ + 12 ≤ _; have hs : 2 * 0 + ((a_st G st).map fun v => v.category).sum ≤ 8 := hs; omega) h'
theorem AW.mabs {idx : Nat} {x : Int32} (hd : decode M.2.1 pc = .ok (.invokestatic idx, 3)) (hl : Cond.methodLink M.1.cls idx Lib.Math.abs.name ∈ gT) (h2 : Cond.static Lib.Math.abs.name ∈ gT) (h3 : Cond.initialized "java/lang/Math" ∈ gT) (h4 : Cond.code Lib.Math.abs.name Lib.Math.abs.code 1 (some .int) ∈ gT) (hrs : st.length ≤ 4) (hk : 1 ≤ k) (hc0 : c0 ≤ mc) (hs0 : s0 ≤ ms) (hn : pc + 3 = n) (h : AW scr k mc ms M c0 s0 n L (.int (if 0 ≤ x then x else 0 - x) :: st) σ P) : AW scr k mc ms M c0 s0 pc L (.int x :: st) σ P := by
  subst hn
  intro p l e R s m args below meth c H locs Q ls G C hR hS hL K
  have h' := h p l e R s m args below meth c H locs Q ls G C hR hS hL K
  obtain ⟨hx, hb, hml, hown, hts, hK, hnam, ⟨hR1, hR2, hR3, hR4⟩, -⟩ := C
  have hs := a_restsum (a_st G st)
  rw [a_st_len] at hs
  exact va_mabs (rest := a_st G st) hx hb (hml.trans hL.1.symm) hown (hts _ hl) (hts _ h2) (hts _ h3) (hts _ h4) (by omega) (by omega) (by omega) (by omega) hd h'
theorem AW.mmax {idx : Nat} {x y : Int32} (hd : decode M.2.1 pc = .ok (.invokestatic idx, 3)) (hl : Cond.methodLink M.1.cls idx Lib.Math.max.name ∈ gT) (h2 : Cond.static Lib.Math.max.name ∈ gT) (h3 : Cond.initialized "java/lang/Math" ∈ gT) (h4 : Cond.code Lib.Math.max.name Lib.Math.max.code 2 (some .int) ∈ gT) (hrs : st.length ≤ 4) (hk : 1 ≤ k) (hc0 : c0 ≤ mc) (hs0 : s0 ≤ ms) (hn : pc + 3 = n) (h : AW scr k mc ms M c0 s0 n L (.int (if x < y then y else x) :: st) σ P) : AW scr k mc ms M c0 s0 pc L (.int y :: .int x :: st) σ P := by
  subst hn
  intro p l e R s m args below meth c H locs Q ls G C hR hS hL K
  have h' := h p l e R s m args below meth c H locs Q ls G C hR hS hL K
  obtain ⟨hx, hb, hml, hown, hts, hK, hnam, ⟨hR1, hR2, hR3, hR4⟩, -⟩ := C
  have hs := a_restsum (a_st G st)
  rw [a_st_len] at hs
  exact va_mmax (rest := a_st G st) hx hb (hml.trans hL.1.symm) hown (hts _ hl) (hts _ h2) (hts _ h3) (hts _ h4) (by omega) (by omega) (by omega) (by omega) hd h'
theorem AW.mmin {idx : Nat} {x y : Int32} (hd : decode M.2.1 pc = .ok (.invokestatic idx, 3)) (hl : Cond.methodLink M.1.cls idx Lib.Math.min.name ∈ gT) (h2 : Cond.static Lib.Math.min.name ∈ gT) (h3 : Cond.initialized "java/lang/Math" ∈ gT) (h4 : Cond.code Lib.Math.min.name Lib.Math.min.code 2 (some .int) ∈ gT) (hrs : st.length ≤ 4) (hk : 1 ≤ k) (hc0 : c0 ≤ mc) (hs0 : s0 ≤ ms) (hn : pc + 3 = n) (h : AW scr k mc ms M c0 s0 n L (.int (if y < x then y else x) :: st) σ P) : AW scr k mc ms M c0 s0 pc L (.int y :: .int x :: st) σ P := by
  subst hn
  intro p l e R s m args below meth c H locs Q ls G C hR hS hL K
  have h' := h p l e R s m args below meth c H locs Q ls G C hR hS hL K
  obtain ⟨hx, hb, hml, hown, hts, hK, hnam, ⟨hR1, hR2, hR3, hR4⟩, -⟩ := C
  have hs := a_restsum (a_st G st)
  rw [a_st_len] at hs
  exact va_mmin (rest := a_st G st) hx hb (hml.trans hL.1.symm) hown (hts _ hl) (hts _ h2) (hts _ h3) (hts _ h4) (by omega) (by omega) (by omega) (by omega) hd h'
theorem AW.acopy {idx a b N0 N1 : Nat} {sp dp x : Int32} {f g : Nat → Int32} (hd : decode M.2.1 pc = .ok (.invokestatic idx, 3)) (hl : Cond.methodLink M.1.cls idx arraycopyName ∈ gT) (h2 : Cond.native arraycopyName ∈ gT) (h3 : Cond.static arraycopyName ∈ gT) (h4 : Cond.initialized "java/lang/System" ∈ gT) (ha : a < σ.1) (hb : b < σ.1) (hca : σ.2 a = .inl (0, N0, .inl f)) (hcb : σ.2 b = .inl (0, N1, .inl g)) (g1 : ¬ sp < 0) (g2 : ¬ dp < 0) (g3 : ¬ x < 0) (g4 : sp.toNatClampNeg + x.toNatClampNeg ≤ N0) (g5 : dp.toNatClampNeg + x.toNatClampNeg ≤ N1) (hrs : st.length ≤ 4) (hk : 1 ≤ k) (hn : pc + 3 = n) (h : AW scr k mc ms M c0 s0 n L st (σ.1, a_up σ.2 b (.inl (0, N1, .inl (va_cpy f g sp.toNatClampNeg dp.toNatClampNeg x.toNatClampNeg)))) P) : AW scr k mc ms M c0 s0 pc L (.int x :: .int dp :: .ref b :: .int sp :: .ref a :: st) σ P := by
  subst hn
  intro p l e R s m args below meth c H locs Q ls G C hR hS hL K
  have h' := fun H1 locs1 hR1 hS1 => h p l e R s m args below meth c H1 locs1 Q ls G C hR1 hS1 hL K
  obtain ⟨hx, hbb, hml, hown, hts, hK, hnam, ⟨hR1, hR2, hR3, hR4⟩, -⟩ := C
  have hs := a_restsum (a_st G st)
  rw [a_st_len] at hs
  have nn : ∀ z : Int32, ¬ z < 0 → z.toInt = (z.toNatClampNeg : Int) := by
    intro z hz
    have hz0 : (0 : Int) ≤ z.toInt := by
      have := Int32.not_lt.mp hz
      simpa using Int32.le_iff_toInt_le.mp this
    show z.toInt = ((z.toInt.toNat : Nat) : Int)
    omega
  have he0 := a_ws_get G σ ha
  rw [hca] at he0
  have he1 := a_ws_get G σ hb
  rw [hcb] at he1
  intro T hT X
  have hc0 : H[G.2.2.1 + a]? = some (vp_cell (G.2.1 0) (N0, .inl f)) := hR.at ha hca
  have hc1 : H[G.2.2.1 + b]? = some (vp_cell (G.2.1 0) (N1, .inl g)) := hR.at hb hcb
  obtain ⟨-, k0, hk0, cm0, hkk0⟩ := (hK.1.2 0 _ rfl).1 N0 (fun j => .int (f j))
  obtain ⟨-, k1, hk1, cm1, hkk1⟩ := (hK.1.2 0 _ rfl).1 N1 (fun j => .int (g j))
  obtain ⟨vm', X', step⟩ := X.arraycopy hx hown (hts _ hl) (hts _ h2) (hts _ h3) (hts _ h4) (src := G.2.2.1 + a) (dst := G.2.2.1 + b) (cs := vp_cell (G.2.1 0) (N0, .inl f)) (cd := vp_cell (G.2.1 0) (N1, .inl g)) (srcPos := sp) (destPos := dp) (n := x) (by rw [hT]; exact hc0) (by rw [hT]; exact hc1)
    (fun _ h => by cases h) (fun _ h => by cases h) (fun h => by cases h) (fun h => by cases h) hk0 hk1 hkk0 hkk1 (by rfl) g1 g2 g3
    (by rw [nn sp g1, nn x g3]; show ¬ _ > ((arrV (G.2.1 0) N0 (fun j => .int (f j))).slots.size : Int); rw [arrV_size]; omega)
    (by rw [nn dp g2, nn x g3]; show ¬ _ > ((arrV (G.2.1 0) N1 (fun j => .int (g j))).slots.size : Int); rw [arrV_size]; omega)
    (fun vm₁ _ i hi => by
      have e : (vp_cell (G.2.1 0) (N0, .inl f)).slots.getD (sp.toNatClampNeg + i) .null = .int (f (sp.toNatClampNeg + i)) := by
        show (arrV (G.2.1 0) N0 (fun j => .int (f j))).slots.getD _ _ = _
        rw [Array.getD_eq_getD_getElem?, arrV_read _ _ (by omega)]
        rfl
      refine ⟨?_, ?_⟩
      · rw [e]
        rfl
      · rw [e]
        exact trivial)
    (g := F0 m pc ls (a_st G (.int x :: .int dp :: .ref b :: .int sp :: .ref a :: st))) rfl (by rw [hml]; exact hL.1) (rest := a_st G st) rfl (by rw [hbb]; exact hd) (by omega) (by
      have e5 : nativeFrameWords "java/lang/System" "arraycopy" 5 ≤ 40 := by decide +kernel
      show 2 * 0 + _ + _ ≤ _
      omega)
  have e1 : copied (vp_cell (G.2.1 0) (N0, .inl f)) (vp_cell (G.2.1 0) (N1, .inl g)) sp dp x = vp_cell (G.2.1 0) (N1, .inl (va_cpy f g sp.toNatClampNeg dp.toNatClampNeg x.toNatClampNeg)) := va_copied (fun z => .int z) (G.2.1 0) (G.2.1 0) f g g4
  rw [e1] at X' step
  have hlb : G.2.2.1 + b < H.size := (Array.getElem?_eq_some_iff.mp hc1).1
  have hheap : ((T.setVm vm').setCell (G.2.2.1 + b) (vp_cell (G.2.1 0) (N1, .inl (va_cpy f g sp.toNatClampNeg dp.toNatClampNeg x.toNatClampNeg)))).heap = H.setIfInBounds (G.2.2.1 + b) (vp_cell (G.2.1 0) (N1, .inl (va_cpy f g sp.toNatClampNeg dp.toNatClampNeg x.toNatClampNeg))) := by rw [← hT]; rfl
  have oq : ∀ q : Nat, q ≠ G.2.2.1 + b → (H.setIfInBounds (G.2.2.1 + b) (vp_cell (G.2.1 0) (N1, .inl (va_cpy f g sp.toNatClampNeg dp.toNatClampNeg x.toNatClampNeg))))[q]? = H[q]? := fun q hq => by simp [Array.getElem?_setIfInBounds, Ne.symm hq]
  have hR9 := hR.up (c := .inl (0, N1, .inl (va_cpy f g sp.toNatClampNeg dp.toNatClampNeg x.toNatClampNeg))) hb (by simp) oq (show (H.setIfInBounds (G.2.2.1 + b) _)[G.2.2.1 + b]? = some _ by simp [Array.getElem?_setIfInBounds, hlb]; rfl)
  obtain ⟨t, a1, b1⟩ := h' _ _ hR9 ⟨by simp; exact hS.1, fun q u1 u2 => by
      rw [oq q (fun e => u2 (by rw [e]; exact Nat.le_add_right _ _))]
      exact hS.2.1 q u1 u2, fun q hq => by
      rcases List.mem_append.mp hq with h | h
      · exact hS.2.2 q h
      · obtain ⟨z, -, hz⟩ := List.mem_map.mp h
        rw [← hz]
        exact Nat.le_add_right _ _⟩ _ hheap X'
  exact ⟨t, step t a1, b1⟩
end AWC

theorem a_L_ent {G : aG} {av : List Value} {L : List (Option Value)} {nL j : Nat} (hL : a_ents av ++ List.replicate j none = L) {ls : Array Slot} (h : lv_has ls nL (lv_args 0 (a_st G av))) : a_L G nL L ls := by
  subst hL
  refine ⟨h.1, h.2.1, fun i v hv => ?_⟩
  by_cases hi : i < (a_ents av).length
  · rw [List.getElem?_append_left hi] at hv
    have := a_ents_ok G av 0 i v hv
    rw [Nat.zero_add] at this
    exact h.2.2 _ this
  · rw [List.getElem?_append_right (by omega)] at hv
    have := List.mem_of_getElem? hv
    rw [List.mem_replicate] at this
    cases this.2
theorem AC.of {k mc ms : Nat} {M : aM} {av : List Value} {σ : aS} {P : Option Value → aS → Prop} {L : List (Option Value)} {j : Nat} (hy : plainName M.1.cls = true) (hL : a_ents av ++ List.replicate j none = L) (hml : (a_ents av).length ≤ M.2.2.1) (h : AW none k mc ms M 0 0 0 L [] σ P) : AC k mc ms M av σ P := by
  intro l G
  refine Met.ofW (cc := M.2.1) (maxL := M.2.2.1) (ret := M.2.2.2) hy rfl ?_
  intro p e s m args below meth c s₁ B hmlc hv
  obtain ⟨rfl, hR, hK⟩ := hv
  have hts0 := atoms_spec (ws := a_wl M) B.pre
  have hts : ∀ w ∈ gT, w.before (a_st G av).toArray s = true := fun w hw => hts0 w (List.mem_cons_of_mem _ hw)
  have hown : s.vm.findClass M.1.cls = some m.cls := findClass_of_methodNamed B.named
  have hnam : meth.name = M.1.name := (name_of_methodNamed B.named B.method).1
  have hlocks := B.notSynchronized
  have hlen : (lg_sl (a_st G av)).length ≤ M.2.2.1 := by
    refine Nat.le_trans (Nat.le_of_eq ?_) hml
    unfold lg_sl a_st
    clear hR hts0 hts B hL hml h
    induction av with
    | nil => rfl
    | cons v t ih => cases v <;> simp [a_ents, a_v, Value.category] at ih ⊢ <;> omega
  have hl := lv_entry (a_st G av) (n := M.2.2.1) hlen
  rw [lg_entry_eq]
  generalize (lg_sl (a_st G av) ++ List.replicate (M.2.2.1 - (lg_sl (a_st G av)).length) Slot.unset).toArray = ls at hl ⊢
  have hS : va_S (fun q => G.2.2.1 ≤ q) s.heap s.heap [] := va_S.rf
  refine h p l e _ s m _ below meth c s.heap [] _ ls G ⟨B.exec, B.bytes, hmlc, hown, hts, hK, hnam, ⟨Nat.le_refl _, Nat.le_refl _, Nat.le_refl _, Nat.le_refl _⟩, by rw [hR.1]; exact Nat.le_add_right _ _, fun q hq => by cases hq⟩ hR hS (a_L_ent hL hl) ?_
  intro r σ' H' locs' c1 s1 pc' ls' hP hR' hS' hc1 hs1 hrt
  refine W.widen hc1 hs1 ?_
  have hret := B.returns
  match r, hrt with
  | none, hrt =>
    obtain ⟨hd, hr⟩ := hrt
    exact W.vret B.exec B.bytes (hret.trans hr) (fun t ht hW => ⟨⟨none, σ', rfl, hP, by rw [ht]; exact hR'⟩, hS'.F ht⟩) hS'.2.2 hd
  | some (.int v), hrt =>
    obtain ⟨hd, ty, hr, hn⟩ := hrt
    exact W.zret B.exec B.bytes (hret.trans hr) hn (fun t ht hW => ⟨⟨some (.int v), σ', rfl, hP, by rw [ht]; exact hR'⟩, hS'.F ht⟩) hS'.2.2 hd

