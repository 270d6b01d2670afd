def zS (h : Nat → aC) (a : Nat) (cs : List aC) : aS := (a + cs.length, fun i => if i < a then h i else (cs[i - a]?).getD (h i))
theorem zS_at {h : Nat → aC} {a j : Nat} {cs : List aC} {c : aC} (hc : cs[j]? = some c) : (zS h a cs).2 (a + j) = c := by
  show (if a + j < a then h (a + j) else (cs[a + j - a]?).getD (h (a + j))) = c
  rw [if_neg (by omega), Nat.add_sub_cancel_left, hc]; rfl
theorem zS_lt {h : Nat → aC} {a j : Nat} {cs : List aC} {c : aC} (hc : cs[j]? = some c) : a + j < (zS h a cs).1 := Nat.add_lt_add_left (List.getElem?_eq_some_iff.mp hc).1 a
theorem zS_set {h : Nat → aC} {a j : Nat} {cs : List aC} {c0 c : aC} (hc : cs[j]? = some c0) : ((zS h a cs).1, a_up (zS h a cs).2 (a + j) c) = zS h a (cs.set j c) := by
  have hj := (List.getElem?_eq_some_iff.mp hc).1
  unfold zS
  refine Prod.ext (by show a + cs.length = a + (cs.set j c).length; rw [List.length_set]) ?_
  funext i
  show (if i = a + j then c else if i < a then h i else (cs[i - a]?).getD (h i)) = if i < a then h i else ((cs.set j c)[i - a]?).getD (h i)
  by_cases e : i = a + j
  · subst e
    rw [if_pos rfl, if_neg (by omega), Nat.add_sub_cancel_left, List.getElem?_set_self hj]; rfl
  · rw [if_neg e]
    by_cases e2 : i < a
    · rw [if_pos e2, if_pos e2]
    · rw [if_neg e2, if_neg e2, List.getElem?_set_ne (by omega)]
theorem zS_push {h : Nat → aC} {a : Nat} {cs : List aC} {c : aC} : ((zS h a cs).1 + 1, a_up (zS h a cs).2 (zS h a cs).1 c) = zS h a (cs ++ [c]) := by
  unfold zS
  refine Prod.ext (by show a + cs.length + 1 = a + (cs ++ [c]).length; rw [List.length_append]; rfl) ?_
  funext i
  show (if i = a + cs.length then c else if i < a then h i else (cs[i - a]?).getD (h i)) = if i < a then h i else ((cs ++ [c])[i - a]?).getD (h i)
  by_cases e : i = a + cs.length
  · subst e
    rw [if_pos rfl, if_neg (by omega), Nat.add_sub_cancel_left, List.getElem?_append_right (Nat.le_refl _), Nat.sub_self]; rfl
  · rw [if_neg e]
    by_cases e2 : i < a
    · rw [if_pos e2, if_pos e2]
    · rw [if_neg e2, if_neg e2]
      by_cases e3 : i - a < cs.length
      · rw [List.getElem?_append_left e3]
      · rw [List.getElem?_eq_none (by omega), List.getElem?_eq_none (by rw [List.length_append]; show cs.length + 1 ≤ _; omega)]
theorem zS_app {h : Nat → aC} {a : Nat} {cs ds : List aC} : zS h a (cs ++ ds) = zS (zS h a cs).2 (a + cs.length) ds := by
  unfold zS
  refine Prod.ext (by show a + (cs ++ ds).length = a + cs.length + ds.length; rw [List.length_append]; omega) ?_
  funext i
  show (if i < a then h i else ((cs ++ ds)[i - a]?).getD (h i)) = if i < a + cs.length then (if i < a then h i else (cs[i - a]?).getD (h i)) else (ds[i - (a + cs.length)]?).getD (if i < a then h i else (cs[i - a]?).getD (h i))
  by_cases e : i < a
  · rw [if_pos e, if_pos (by omega), if_pos e]
  · rw [if_neg e]
    by_cases e2 : i < a + cs.length
    · rw [if_pos e2, if_neg e, List.getElem?_append_left (by omega)]
    · rw [if_neg e2, if_neg e, List.getElem?_append_right (by omega), List.getElem?_eq_none (l := cs) (by omega), show i - a - cs.length = i - (a + cs.length) by omega]; rfl
theorem a_restV {G : aG} {l : List Value} (h : (l.map fun v => v.category).sum ≤ 8) {g : JFrame} (hg : g.monitorRoom = 0) : 2 * g.monitorRoom + ((a_st G l).map fun v => v.category).sum ≤ 8 := by
  have e : (a_st G l).map (fun v => v.category) = l.map (fun v => v.category) := by
    unfold a_st
    rw [List.map_map]
    exact List.map_congr_left (fun v _ => a_v_cat G v)
  rw [e]
  omega
section AZ
variable {scr : Option (Nat × (Nat → Int32))} {k mc ms : Nat} {M : aM} {c0 s0 pc n : Nat} {L : List (Option Value)} {st rest : List Value} {h : Nat → aC} {a : Nat} {cs cs' : List aC} {P : Option Value → aS → Prop}
theorem AW.calli1 {idx kc mc' ms' np : Nat} {σ : aS} {a : Nat} {Mc : aM} {As rest : List Value} {P1 : Option Value → aS → Prop} (hd : decode M.2.1 pc = .ok (.invokespecial idx, 3)) (hl : a_lk M.1.cls idx Mc.1) (hcb : a_ci Mc np) (hM : AC kc mc' ms' Mc (.ref a :: As) σ P1) (hnp : As.length = np) (hst : st = As.reverse ++ .ref a :: rest) (hrs : (rest.map fun v => v.category).sum ≤ 8) (hk : kc + 1 ≤ k) (hc0 : c0 + mc' ≤ mc) (hs0 : s0 + ms' ≤ ms) (hn : pc + 3 = n) (h : ∀ (r : Option Value) (σ' : aS), P1 r σ' → AW scr k mc ms M (c0 + mc') (s0 + ms') n L (r.toList ++ rest) σ' P) : AW scr k mc ms M c0 s0 pc L st σ P := by
  subst hn; subst hst
  intro p l e R s m args below meth c H locs Q ls G C hR hS hL K
  have h' := fun r σ' H1 locs1 hp hR1 hS1 => h r σ' hp p l e R s m args below meth c H1 locs1 Q ls G C hR1 hS1 hL K
  obtain ⟨hx, hb, hml, hown, hts, hK, hnam, ⟨hR1, hR2, hR3, hR4⟩, -⟩ := C
  obtain ⟨⟨hcode, hini, hdd, hm40⟩, hy1, hrt, hin⟩ := hcb
  have hRm : (a_rm kc mc' ms').frames + 1 ≤ R.frames ∧ 8 + (Mc.2.2.1 + 11) + (a_rm kc mc' ms').locals ≤ R.locals := ⟨by show kc + 1 ≤ _; omega, by show 8 + (Mc.2.2.1 + 11) + 64 * kc ≤ _; omega⟩
  have hg := a_wl_good hcode
  have hnp' : (a_st G As).length = np := by rw [a_st_len]; exact hnp
  have hpre : ∀ U : State, U.heap = H → s.WarmedH U.vm → a_Pc G (.ref a :: As) σ (a_st G (.ref a :: As)).toArray U := fun U hU hW => ⟨rfl, by rw [hU]; exact hR, a_Kn.warm hW hK⟩
  rw [a_st_rev]
  obtain ⟨y, cc, ml, rt⟩ := Mc
  subst hrt
  rcases hl with hl | ⟨host, hl⟩
  · exact a_went (va_runI (As := a_st G As) (rest := a_st G rest) ⟨hx, hb, hml, hown, hts⟩ (hM l G) ⟨callB_of np hts hg rfl rfl rfl (hts _ hini) (hts _ hl) hdd hRm, hy1, hts _ hin⟩ ⟨a_blind G _ σ, hpre⟩ rfl hnp' hL.1 rfl (a_restV hrs rfl) hd ⟨by omega, by omega⟩) hS h'
  · exact a_went (va_runIN (As := a_st G As) (rest := a_st G rest) ⟨hx, hb, hml, hown, hts⟩ (hM l G) ⟨va_cnB np hts hg rfl rfl rfl (hK.2.1 _ hl) (hts _ hini) hdd hRm, hy1, hts _ hin⟩ ⟨a_blind G _ σ, hpre⟩ rfl hnp' hL.1 rfl (a_restV hrs rfl) hd ⟨by omega, by omega⟩) hS h'
theorem AW.zp {idx ci j f : Nat} {fs : List Value} {v : Value} {ty : FieldType} {fin : Bool} (hd : decode M.2.1 pc = .ok (.putfield idx, 3)) (hf : a_fp M.1.cls idx ci f ty fin) (hfi : fin = true → M.1.name = "<init>") (hc : cs[j]? = some (.inr (ci, fs))) (hj : f < fs.length) (hv : ∀ G : aG, narrow ty (a_v G v) = a_v G v ∧ fits ty (a_v G v) = true) (hcs : cs.set j (.inr (ci, fs.set f v)) = cs') (hn : pc + 3 = n) (hh : AW scr k mc ms M c0 s0 n L st (zS h a cs') P) : AW scr k mc ms M c0 s0 pc L (v :: .ref (a + j) :: st) (zS h a cs) P := by
  refine AW.put0 hd hf hfi (zS_lt hc) (zS_at hc) hj hv hn ?_
  rw [zS_set hc, hcs]
  exact hh
theorem AW.zg {idx ci j f : Nat} {fs : List Value} {v : Value} (hd : decode M.2.1 pc = .ok (.getfield idx, 3)) (hf : a_fl M.1.cls idx ci f) (hc : cs[j]? = some (.inr (ci, fs))) (hv : fs[f]? = some v) (hn : pc + 3 = n) (hh : AW scr k mc ms M c0 s0 n L (v :: st) (zS h a cs) P) : AW scr k mc ms M c0 s0 pc L (.ref (a + j) :: st) (zS h a cs) P := AW.getf0 hd hf (zS_lt hc) (zS_at hc) hv hn hh
theorem AW.zi {x : Int32} {t N j : Nat} {at0 : ArrayType} {ty : FieldType} (hd : decode M.2.1 pc = .ok (.newarray at0, 2)) (hty : newarray.typeOf at0 = ty) (ht : ∀ G : aG, (a_tys G)[t]? = some (G.2.1 t, ty)) (hdv : defaultValue ty = .int 0) (hnr : ∀ C, ty ≠ .object C) (ha : Cond.arrayClass ty ∈ gT) (hx0 : ¬ x < 0) (hN : x.toNatClampNeg = N) (hby : N * componentBytes ty ≤ 536870912) (hc0 : c0 + 1 ≤ mc) (hs0 : s0 + N ≤ ms) (hn : pc + 2 = n) (hj : cs.length = j) (hh : AW scr k mc ms M (c0 + 1) (s0 + N) n L (.ref (a + j) :: st) (zS h a (cs ++ [.inl (t, N, .inl (fun _ => 0))])) P) : AW scr k mc ms M c0 s0 pc L (.int x :: st) (zS h a cs) P := by
  refine AW.newi hd hty ht hdv hnr ha hx0 hN hby hc0 hs0 hn ?_
  rw [zS_push]
  subst hj
  exact hh
theorem AW.zq {x : Int32} {t N idx j : Nat} {Cn : String} (hd : decode M.2.1 pc = .ok (.anewarray idx, 3)) (hl : Cond.classLink M.1.cls idx Cn ∈ gT) (ht : ∀ G : aG, (a_tys G)[t]? = some (G.2.1 t, .object Cn)) (hao : ∀ (G : aG) (U : State), a_Kn G U → va_AO Cn U) (hx0 : ¬ x < 0) (hN : x.toNatClampNeg = N) (hby : N * 4 ≤ 536870912) (hc0 : c0 + 1 ≤ mc) (hs0 : s0 + N ≤ ms) (hn : pc + 3 = n) (hj : cs.length = j) (hh : AW scr k mc ms M (c0 + 1) (s0 + N) n L (.ref (a + j) :: st) (zS h a (cs ++ [.inl (t, N, .inr (.inr (.inr (.inr (fun _ => none)))))])) P) : AW scr k mc ms M c0 s0 pc L (.int x :: st) (zS h a cs) P := by
  refine AW.newq hd hl ht hao hx0 hN hby hc0 hs0 hn ?_
  rw [zS_push]
  subst hj
  exact hh
theorem AW.zn {idx ci j : Nat} {fs : List Value} {q : vw_C} (hd : decode M.2.1 pc = .ok (.new idx, 3)) (hq : vwCl[ci]? = some q) (hl : Cond.classLink M.1.cls idx q.1 ∈ gT) (hi : Cond.instantiable q.1 q.2.2 ∈ gT) (hz : Cond.initialized q.1 ∈ gT) (hfs : ∀ (ty : Nat → FieldType), (∀ j, j < q.2.2 → parseFieldDescriptor (q.2.1 j).2.2.1 = some (ty j)) → ∀ j, j < q.2.2 → ∀ G : aG, defaultValue (ty j) = vp_V (fs.map (a_v G)) j) (hlen : fs.length = q.2.2) (hc0 : c0 + 1 ≤ mc) (hs0 : s0 + q.2.2 ≤ ms) (hn : pc + 3 = n) (hj : cs.length = j) (hh : AW scr k mc ms M (c0 + 1) (s0 + q.2.2) n L (.ref (a + j) :: st) (zS h a (cs ++ [.inr (ci, fs)])) P) : AW scr k mc ms M c0 s0 pc L st (zS h a cs) P := by
  refine AW.new0 hd hq hl hi hz hfs hc0 hs0 hn ?_
  rw [zS_push]
  subst hj
  exact hh
theorem AW.zc {idx kc mc' ms' j : Nat} {Mc : aM} {fr : aC} {ds : List aC} (hd : decode M.2.1 pc = .ok (.invokespecial idx, 3)) (hl : a_lk M.1.cls idx Mc.1) (hcb : a_ci Mc 0) (hj : cs.length = j) (hM : ∀ H, AC kc mc' ms' Mc [.ref (a + j)] (zS H (a + j) [fr]) (a_eq none (zS H (a + j) ds))) (hrs : (rest.map fun v => v.category).sum ≤ 8) (hk : kc + 1 ≤ k) (hc0 : c0 + mc' ≤ mc) (hs0 : s0 + ms' ≤ ms) (hn : pc + 3 = n) (hh : AW scr k mc ms M (c0 + mc') (s0 + ms') n L rest (zS h a (cs ++ ds)) P) : AW scr k mc ms M c0 s0 pc L (.ref (a + j) :: rest) (zS h a (cs ++ [fr])) P := by
  subst hj
  rw [zS_app]
  refine AW.calli1 (As := []) hd hl hcb (hM (zS h a cs).2) rfl rfl hrs hk hc0 hs0 hn (fun r σ' hp => ?_)
  obtain ⟨rfl, rfl⟩ := hp
  rw [zS_app] at hh
  exact hh
theorem AW.zia {j N i : Nat} {x : Int32} {f : Nat → Int32} (hd : decode M.2.1 pc = .ok (.iastore, 1)) (hc : cs[j]? = some (.inl (0, N, .inl f))) (hi : i < N) (hN : N < 2147483648) (hcs : cs.set j (.inl (0, N, .inl (upd f i x))) = cs') (hn : pc + 1 = n) (hh : AW scr k mc ms M c0 s0 n L st (zS h a cs') P) : AW scr k mc ms M c0 s0 pc L (.int x :: .int (nI i) :: .ref (a + j) :: st) (zS h a cs) P := by
  refine AW.iast hd (zS_lt hc) (zS_at hc) (vp_in_nI hi hN) hn ?_
  rw [cl_nI (Nat.lt_trans hi hN), zS_set hc, hcs]
  exact hh
theorem AW.zaa {j N t i b ci : Nat} {f : Nat → Option Nat} {fs : List Value} {q : vw_C} (hd : decode M.2.1 pc = .ok (.aastore, 1)) (hc : cs[j]? = some (.inl (t, N, .inr (.inr (.inr (.inr f)))))) (hb : cs[b]? = some (.inr (ci, fs))) (hq : vwCl[ci]? = some q) (ht : ∀ G : aG, (a_tys G)[t]? = some (G.2.1 t, .object q.1)) (hi : i < N) (hN : N < 2147483648) (hcs : cs.set j (.inl (t, N, .inr (.inr (.inr (.inr (va_up f i (some (a + b)))))))) = cs') (hn : pc + 1 = n) (hh : AW scr k mc ms M c0 s0 n L st (zS h a cs') P) : AW scr k mc ms M c0 s0 pc L (.ref (a + b) :: .int (nI i) :: .ref (a + j) :: st) (zS h a cs) P := by
  refine AW.aast hd (zS_lt hc) (zS_at hc) (zS_lt hb) (zS_at hb) hq ht (vp_in_nI hi hN) hn ?_
  rw [cl_nI (Nat.lt_trans hi hN), zS_set hc, hcs]
  exact hh
end AZ
