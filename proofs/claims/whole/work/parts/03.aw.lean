
theorem a_R.up {G : aG} {σ : aS} {H H1 : Heap} {a : Nat} {c : aC} (hR : a_R G σ H) (ha : a < σ.1) (z : H1.size = H.size) (oq : ∀ q : Nat, q ≠ G.2.2.1 + a → H1[q]? = H[q]?) (he : va_at G.1 vwCl (G.2.2.1 + a, a_E G c) H1) : a_R G (σ.1, a_up σ.2 a c) H1 := by
  refine ⟨by rw [z]; exact hR.1, ?_⟩
  rw [← a_ws_set]
  exact hR.2.set (a_D G σ) (a_ws_get G σ ha) he oq
theorem a_R.push {G : aG} {σ : aS} {H H1 : Heap} {c : aC} (hR : a_R G σ H) (z : H1.size = H.size + 1) (oq : ∀ q : Nat, q < H.size → H1[q]? = H[q]?) (he : va_at G.1 vwCl (G.2.2.1 + σ.1, a_E G c) H1) : a_R G (σ.1 + 1, a_up σ.2 σ.1 c) H1 := by
  refine ⟨by show _ = _ + (σ.1 + 1); rw [z, hR.1]; omega, ?_⟩
  rw [← a_ws_push]
  refine (hR.2.kept (fun k q hk => oq _ (hR.2 k q hk).lt)).app ?_
  intro k x hx
  have hz : k < 1 := (List.getElem?_eq_some_iff.mp hx).1
  rw [show k = 0 by omega] at hx
  cases hx
  exact he
theorem a_R.at {G : aG} {σ : aS} {H : Heap} (hR : a_R G σ H) {a : Nat} (ha : a < σ.1) {c : aC} (hc : σ.2 a = c) : va_at G.1 vwCl (G.2.2.1 + a, a_E G c) H := by
  subst hc
  exact hR.2 a _ (a_ws_get G σ ha)
theorem a_S.push {A : Nat → Prop} {H0 H H1 : Heap} {locs : List Loc} (hS : va_S A H0 H locs) (z : H1.size = H.size + 1) (oq : ∀ q : Nat, q < H.size → H1[q]? = H[q]?) : va_S A H0 H1 locs :=
  ⟨Nat.le_trans hS.1 (by omega), fun x h1 h2 => (oq x (Nat.lt_of_lt_of_le h1 hS.1)).trans (hS.2.1 x h1 h2), hS.2.2⟩
/-- what the tables say of a class of the world -/
def a_cl (q : vw_C) : Prop := ∃ ty0 : Nat → FieldType, (∀ k, k < q.2.2 → parseFieldDescriptor (q.2.1 k).2.2.1 = some (ty0 k)) ∧ (∀ a, a < q.2.2 → ∀ b, b < q.2.2 → a ≠ b → (q.2.1 a).2.1 ≠ (q.2.1 b).2.1) ∧ (∀ w ∈ u_ws q.1 q.2.1 q.2.2, w ∈ gT)
def a_inT (l : List Cond) : Bool := l.all (fun w => decide (w ∈ lw_tbl) && goodWord w)
theorem a_inT_ok {l : List Cond} (h : a_inT l = true) : ∀ w ∈ l, w ∈ gT := by
  intro w hw
  have h1 := List.all_eq_true.mp h w hw
  rw [Bool.and_eq_true] at h1
  exact List.mem_filter.mpr ⟨of_decide_eq_true h1.1, h1.2⟩
theorem a_inG {w : Cond} (i : Nat) (h : lw_tbl[i]? = some w) (hg : goodWord w = true) : w ∈ gT := List.mem_filter.mpr ⟨List.mem_of_getElem? h, hg⟩
theorem a_inN {w : Cond} (i : Nat) (h : lw_tbl[i]? = some w) (hg : a_isN w = true) : w ∈ nT := List.mem_filter.mpr ⟨List.mem_of_getElem? h, hg⟩
theorem a_clT (ci : Nat) (q : vw_C) (h : vwCl[ci]? = some q) : a_cl q := by
  match ci, h with
  | 0, h => cases h; exact ⟨tyX0, tyX0_ok, nmX0, a_inT_ok (by decide +kernel)⟩
  | 1, h => cases h; exact ⟨tyX1, tyX1_ok, nmX1, a_inT_ok (by decide +kernel)⟩
  | 2, h => cases h; exact ⟨tyX2, tyX2_ok, nmX2, a_inT_ok (by decide +kernel)⟩
  | 3, h => cases h; exact ⟨tyX3, tyX3_ok, nmX3, a_inT_ok (by decide +kernel)⟩
  | 4, h => cases h; exact ⟨tyX4, tyX4_ok, nmX4, a_inT_ok (by decide +kernel)⟩
  | 5, h => cases h; exact ⟨tyX5, tyX5_ok, nmX5, a_inT_ok (by decide +kernel)⟩
  | 6, h => cases h; exact ⟨tyX6, tyX6_ok, nmX6, a_inT_ok (by decide +kernel)⟩
  | 7, h => cases h; exact ⟨tyX7, tyX7_ok, nmX7, a_inT_ok (by decide +kernel)⟩
  | 8, h => cases h; exact ⟨tyX8, tyX8_ok, nmX8, a_inT_ok (by decide +kernel)⟩
  | 9, h => cases h; exact ⟨tyX9, tyX9_ok, nmX9, a_inT_ok (by decide +kernel)⟩
  | 10, h => cases h; exact ⟨tyX10, tyX10_ok, nmX10, a_inT_ok (by decide +kernel)⟩
  | n + 11, h => simp [vwCl] at h
def a_fl (own : String) (idx ci j : Nat) : Prop := ∃ q : vw_C, vwCl[ci]? = some q ∧ j < q.2.2 ∧ (Cond.fieldLink own idx (q.2.1 j).1 (q.2.1 j).2.1 (q.2.1 j).2.2.1 ∈ gT ∨ ∃ host, Cond.fieldLinkNest own idx (q.2.1 j).1 (q.2.1 j).2.1 (q.2.1 j).2.2.1 host ∈ nT)
def a_fp (own : String) (idx ci j : Nat) (ty : FieldType) (fin : Bool) : Prop := ∃ q : vw_C, vwCl[ci]? = some q ∧ j < q.2.2 ∧ (q.2.1 j).2.2.2 = fin ∧ parseFieldDescriptor (q.2.1 j).2.2.1 = some ty ∧ ((Cond.fieldLink own idx (q.2.1 j).1 (q.2.1 j).2.1 (q.2.1 j).2.2.1 ∈ gT ∧ (fin = true → (q.2.1 j).1 = own)) ∨ (fin = false ∧ ∃ host, Cond.fieldLinkNest own idx (q.2.1 j).1 (q.2.1 j).2.1 (q.2.1 j).2.2.1 host ∈ nT))

section AWH
variable {scr : Option (Nat × (Nat → Int32))} {k mc ms : Nat} {M : aM} {c0 s0 pc n : Nat} {L : List (Option Value)} {st : List Value} {σ : aS} {P : Option Value → aS → Prop}
theorem AW.getf0 {idx ci j a : Nat} {fs : List Value} {v : Value} (hd : decode M.2.1 pc = .ok (.getfield idx, 3)) (hf : a_fl M.1.cls idx ci j) (ha : a < σ.1) (hc : σ.2 a = .inr (ci, fs)) (hv : fs[j]? = some v) (hn : pc + 3 = n) (h : AW scr k mc ms M c0 s0 n L (v :: st) σ P) : AW scr k mc ms M c0 s0 pc L (.ref a :: st) σ P := by
  subst hn
  intro p l e R s m args below meth c H locs Q ls G C hR hS hL K
  obtain ⟨⟨Cn, T, N⟩, hq, hk, hlk⟩ := hf
  obtain ⟨ty0, hty, hnm, hin⟩ := a_clT ci _ hq
  have he := a_ws_get G σ ha
  rw [hc] at he
  have hv' : (fs.map (a_v G))[j]? = some (a_v G v) := by rw [List.getElem?_map, hv]; rfl
  have h' := h p l e R s m args below meth c H locs Q ls G C hR hS hL K
  obtain ⟨hx, hb, hml, hown, hts, hK, -⟩ := C
  rcases hlk with hl | ⟨host, hl⟩
  · exact va_get hx hb hts hin hown hK.1 hR.2 a he hq j hk (hts _ hl) (fun _ h9 => h9) hv' hd h'
  · exact va_getN hx hb hts hin hown hK.1 hR.2 a he hq j hk (va_Nw.use rfl (hK.2.1 _ hl)) (fun _ h9 => h9) hv' hd h'
theorem AW.put0 {idx ci j a : Nat} {fs : List Value} {v : Value} {ty : FieldType} {fin : Bool} (hd : decode M.2.1 pc = .ok (.putfield idx, 3)) (hf : a_fp M.1.cls idx ci j ty fin) (hfi : fin = true → M.1.name = "<init>") (ha : a < σ.1) (hc : σ.2 a = .inr (ci, fs)) (hj : j < fs.length) (hv : ∀ G : aG, narrow ty (a_v G v) = a_v G v ∧ fits ty (a_v G v) = true) (hn : pc + 3 = n) (h : AW scr k mc ms M c0 s0 n L st (σ.1, a_up σ.2 a (.inr (ci, fs.set j v))) P) : AW scr k mc ms M c0 s0 pc L (v :: .ref a :: st) σ P := by
  subst hn
  intro p l e R s m args below meth c H locs Q ls G C hR hS hL K
  obtain ⟨⟨Cn, T, N⟩, hq, hk, hfin, hty1, hlk⟩ := hf
  obtain ⟨ty0, hty, hnm, hin⟩ := a_clT ci _ hq
  have h' := fun H1 locs1 hR1 hS1 => h p l e R s m args below meth c H1 locs1 Q ls G C hR1 hS1 hL K
  obtain ⟨hx, hb, hml, hown, hts, hK, hnam, -⟩ := C
  have hap := va_apart (own := M.1.cls) hts hin ty0 hty hnm hK.1 hq
  obtain ⟨r, h1, cell, q1, q2, q3, q4⟩ := hR.at ha hc
  have hr : r = (Cn, T, N) := Option.some.inj (h1.symm.trans hq)
  subst hr
  obtain ⟨hSl, hfc, kC, hkC, hkind⟩ := hK.1.1 ci _ hq
  obtain ⟨cf, kf, fi, f, hi, hsl⟩ := hSl j hk
  have hlay := hts _ (hin _ (u_in_lay hk))
  unfold u_lay at hlay
  have hst := (u_facts hfc hkC (u_lays hts hin hk) hi).1
  have fin9 : ∀ H' : Heap, H'[G.2.2.1 + a]? = some (cell.setSlot f.slot (a_v G v)) → H'.size = H.size → (∀ q : Nat, q ≠ G.2.2.1 + a → H'[q]? = H[q]?) → W p l e R s m args below meth c H' (locs ++ [⟨G.2.2.1 + a, f.slot⟩]) c0 s0 Q (F0 m (pc + 3) ls (a_st G st)) := by
    intro H' e1 e2 e3
    rw [hsl] at e1 ⊢
    refine h' H' _ (hR.up ha e2 e3 ?_) (hS.put e2 e3 (Nat.le_add_right _ _))
    refine ⟨_, hq, t_OB.to (V := updV (vp_V (fs.map (a_v G))) j (a_v G v)) ⟨_, e1, q2, q3, t_set q4 hap hk (a_v G v)⟩ (fun i _ => ?_)⟩
    rw [vp_updV_set (by rw [List.length_map]; exact hj)]
    show _ = vp_V ((fs.set j v).map (a_v G)) i
    rw [List.map_set]
  cases fin with
  | false =>
    rw [if_neg (by rw [hfin]; decide)] at hlay
    have h6 := u_store hfc hkC hkind hlay hi hty1 (hv G).1 (hv G).2
    rcases hlk with ⟨hl, -⟩ | ⟨-, host, hl⟩
    · exact W.putK hx hb (f := f) ⟨hown, hts _ hl, ⟨_, _, _, hi⟩, hst⟩ (by rw [q2]; exact h6) q1 q3 (by rw [hsl]; exact k2_hasslot (q4 j hk)) rfl rfl hd fin9
    · exact va_WputK hx hb (f := f) hown (va_Nw.use rfl (hK.2.1 _ hl)) hi hst (by rw [q2]; exact h6) q1 q3 (by rw [hsl]; exact k2_hasslot (q4 j hk)) rfl rfl hd fin9
  | true =>
    rw [if_pos hfin] at hlay
    rcases hlk with ⟨hl, hdecl⟩ | ⟨hff, -⟩
    · have hcf : m.cls = cf := by
        obtain ⟨_, _, c', _, _, _, -, -, hf', -, -, -, hown2, -⟩ := Cond.laysFinal_spec hlay
        have e1 : c' = cf := by have := hi.symm.trans hf'; simp at this; exact this.1.symm
        rw [hdecl rfl] at hown2
        rw [← e1]; exact Option.some.inj (hown.symm.trans hown2)
      have h6 := u_fits hfc hkC hkind (Or.inr hlay) hi hty1 (hv G).1 (hv G).2
      exact W.putFinK hx hb hown (hts _ hl) hi hst hcf (hnam.trans (hfi rfl)) (by rw [q2]; exact h6) q1 q3 (by rw [hsl]; exact k2_hasslot (q4 j hk)) rfl rfl hd fin9
    · cases hff
theorem AW.new0 {idx ci : Nat} {fs : List Value} {q : vw_C} (hd : decode M.2.1 pc = .ok (.new idx, 3)) (hq : vwCl[ci]? = some q) (hl : Cond.classLink M.1.cls idx q.1 ∈ gT) (hi : Cond.instantiable q.1 q.2.2 ∈ gT) (hz : Cond.initialized q.1 ∈ gT) (hfs : ∀ (ty : Nat → FieldType), (∀ j, j < q.2.2 → parseFieldDescriptor (q.2.1 j).2.2.1 = some (ty j)) → ∀ j, j < q.2.2 → ∀ G : aG, defaultValue (ty j) = vp_V (fs.map (a_v G)) j) (hc0 : c0 + 1 ≤ mc) (hs0 : s0 + q.2.2 ≤ ms) (hn : pc + 3 = n) (h : AW scr k mc ms M (c0 + 1) (s0 + q.2.2) n L (.ref σ.1 :: st) (σ.1 + 1, a_up σ.2 σ.1 (.inr (ci, fs))) P) : AW scr k mc ms M c0 s0 pc L st σ P := by
  subst hn
  intro p l e R s m args below meth c H locs Q ls G C hR hS hL K
  obtain ⟨ty0, hty, hnm, hin⟩ := a_clT ci _ hq
  have h' := fun H1 hR1 hS1 => h p l e R s m args below meth c H1 locs Q ls G C hR1 hS1 hL K
  obtain ⟨hx, hb, hml, hown, hts, hK, hnam, hRm, -⟩ := C
  have hKn := hK.1.1 ci _ hq
  refine W.newcK hx hb hown (hts _ hl) (hts _ hi) (hts _ hz) rfl hd (Nat.le_trans hc0 hRm.2.2.1) (Nat.le_trans hs0 hRm.2.2.2) hKn.2.1 hR.1 fun H1 kC hkC e1 z1 o1 => ?_
  rw [← hR.1] at z1 o1
  exact h' H1 (hR.push z1 o1 ⟨_, hq, (u_born ty0 hts hin hKn hkC e1 hty).to (fun j hj => hfs ty0 hty j hj G)⟩) (a_S.push hS z1 o1)
theorem AW.iald {a N : Nat} {i : Int32} {f : Nat → Int32} (hd : decode M.2.1 pc = .ok (.iaload, 1)) (ha : a < σ.1) (hc : σ.2 a = .inl (0, N, .inl f)) (hi : vp_in i N) (hn : pc + 1 = n) (h : AW scr k mc ms M c0 s0 n L (.int (f i.toNatClampNeg) :: st) σ P) : AW scr k mc ms M c0 s0 pc L (.int i :: .ref a :: st) σ P := by
  subst hn
  intro p l e R s m args below meth c H locs Q ls G C hR hS hL K
  have he := a_ws_get G σ ha
  rw [hc] at he
  exact va_iald C.1 C.2.1 C.2.2.2.2.2.1.1 hR.2 a 0 he rfl hi hd (h p l e R s m args below meth c H locs Q ls G C hR hS hL K)
theorem AW.zald {a N : Nat} {i : Int32} {f : Nat → Int32} (hd : decode M.2.1 pc = .ok (.baload, 1)) (ha : a < σ.1) (hc : σ.2 a = .inl (1, N, .inl f)) (hi : vp_in i N) (hn : pc + 1 = n) (h : AW scr k mc ms M c0 s0 n L (.int (f i.toNatClampNeg) :: st) σ P) : AW scr k mc ms M c0 s0 pc L (.int i :: .ref a :: st) σ P := by
  subst hn
  intro p l e R s m args below meth c H locs Q ls G C hR hS hL K
  have he := a_ws_get G σ ha
  rw [hc] at he
  exact va_zald C.1 C.2.1 C.2.2.2.2.2.1.1 hR.2 a 1 he rfl hi hd (h p l e R s m args below meth c H locs Q ls G C hR hS hL K)
theorem AW.aald {a N t b : Nat} {i : Int32} {f : Nat → Option Nat} (hd : decode M.2.1 pc = .ok (.aaload, 1)) (ha : a < σ.1) (ht : t = 2 ∨ t = 3) (hc : σ.2 a = .inl (t, N, .inr (.inr (.inr (.inr f))))) (hi : vp_in i N) (hb : f i.toNatClampNeg = some b) (hn : pc + 1 = n) (h : AW scr k mc ms M c0 s0 n L (.ref b :: st) σ P) : AW scr k mc ms M c0 s0 pc L (.int i :: .ref a :: st) σ P := by
  subst hn
  intro p l e R s m args below meth c H locs Q ls G C hR hS hL K
  have he := a_ws_get G σ ha
  rw [hc] at he
  have h' := h p l e R s m args below meth c H locs Q ls G C hR hS hL K
  have hv : va_rf (a_f G f i.toNatClampNeg) = .ref (G.2.2.1 + b) := by unfold a_f; rw [hb]; rfl
  rcases ht with rfl | rfl
  · exact va_aldq C.1 C.2.1 C.2.2.2.2.2.1.1 hR.2 a 2 he rfl hi hd (by rw [hv]; exact h')
  · exact va_aldq C.1 C.2.1 C.2.2.2.2.2.1.1 hR.2 a 3 he rfl hi hd (by rw [hv]; exact h')
theorem AW.sald {i : Int32} {q : Nat × (Nat → Int32)} {x : Nat} (hd : decode M.2.1 pc = .ok (.iaload, 1)) (hq : scr = some q) (hi : vp_in i q.1) (hn : pc + 1 = n) (h : AW scr k mc ms M c0 s0 n L (.int (q.2 i.toNatClampNeg) :: st) σ P) : AW scr k mc ms M c0 s0 pc L (.int i :: .retAddr x :: st) σ P := by
  subst hn
  intro p l e R s m args below meth c H locs Q ls G C hR hS hL K
  have h' := h p l e R s m args below meth c H locs Q ls G C hR hS hL K
  obtain ⟨hx, hb, hml, hown, hts, hK, hnam, hRm, ho, hs⟩ := C
  obtain ⟨h1, h2⟩ := hs q hq
  exact va_sld hx hb h1 (Nat.lt_of_lt_of_le h2 ho) (Nat.not_le.mpr h2) hS hi hd h'
theorem AW.slen {q : Nat × (Nat → Int32)} {x : Nat} (hd : decode M.2.1 pc = .ok (.arraylength, 1)) (hq : scr = some q) (hn : pc + 1 = n) (h : AW scr k mc ms M c0 s0 n L (.int (Int32.ofNat q.1) :: st) σ P) : AW scr k mc ms M c0 s0 pc L (.retAddr x :: st) σ P := by
  subst hn
  intro p l e R s m args below meth c H locs Q ls G C hR hS hL K
  have h' := h p l e R s m args below meth c H locs Q ls G C hR hS hL K
  obtain ⟨hx, hb, hml, hown, hts, hK, hnam, hRm, ho, hs⟩ := C
  obtain ⟨h1, h2⟩ := hs q hq
  exact va_slen hx hb h1 (Nat.lt_of_lt_of_le h2 ho) (Nat.not_le.mpr h2) hS hd h'
theorem AW.iast {a N : Nat} {i x : Int32} {f : Nat → Int32} (hd : decode M.2.1 pc = .ok (.iastore, 1)) (ha : a < σ.1) (hc : σ.2 a = .inl (0, N, .inl f)) (hi : vp_in i N) (hn : pc + 1 = n) (h : AW scr k mc ms M c0 s0 n L st (σ.1, a_up σ.2 a (.inl (0, N, .inl (upd f i.toNatClampNeg x)))) P) : AW scr k mc ms M c0 s0 pc L (.int x :: .int i :: .ref a :: st) σ P := by
  subst hn
  intro p l e R s m args below meth c H locs Q ls G C hR hS hL K
  have h' := fun H1 locs1 hR1 hS1 => h p l e R s m args below meth c H1 locs1 Q ls G C hR1 hS1 hL K
  refine W.iast C.1 C.2.1 (hR.at ha hc) ((C.2.2.2.2.2.1.1.2 0 _ rfl).1 N (fun j => .int (f j))) (fun q => by cases q) (by show ¬ (i < 0 ∨ (arrV _ _ _).slots.size ≤ _); rw [arrV_size]; exact hi) rfl rfl hd fun H1 e z oq => ?_
  refine h' H1 _ (hR.up ha z oq ?_) (hS.put z oq (Nat.le_add_right _ _))
  show H1[_]? = some (vp_cell _ (N, .inl _))
  rw [e]
  show some ((vp_cell _ (N, .inl f)).setSlot _ _) = _
  rw [vp_cell_i, vp_cell_i, arrV_store]
  congr 2
  funext q
  by_cases hq : q = i.toNatClampNeg
  · subst hq
    simp [updV, upd]
  · simp [updV, upd, hq]
theorem AW.zast {a N : Nat} {i x : Int32} {f : Nat → Int32} (hd : decode M.2.1 pc = .ok (.bastore, 1)) (ha : a < σ.1) (hc : σ.2 a = .inl (1, N, .inl f)) (hi : vp_in i N) (hx : narrow .boolean (.int x) = .int x) (hn : pc + 1 = n) (h : AW scr k mc ms M c0 s0 n L st (σ.1, a_up σ.2 a (.inl (1, N, .inl (upd f i.toNatClampNeg x)))) P) : AW scr k mc ms M c0 s0 pc L (.int x :: .int i :: .ref a :: st) σ P := by
  subst hn
  intro p l e R s m args below meth c H locs Q ls G C hR hS hL K
  have h' := fun H1 locs1 hR1 hS1 => h p l e R s m args below meth c H1 locs1 Q ls G C hR1 hS1 hL K
  refine W.zast C.1 C.2.1 (hR.at ha hc) ((C.2.2.2.2.2.1.1.2 1 _ rfl).1 N (fun j => .int (f j))) (fun q => by cases q) (by show ¬ (i < 0 ∨ (arrV _ _ _).slots.size ≤ _); rw [arrV_size]; exact hi) rfl rfl hd fun H1 e z oq => ?_
  rw [hx] at e
  refine h' H1 _ (hR.up ha z oq ?_) (hS.put z oq (Nat.le_add_right _ _))
  show H1[_]? = some (vp_cell _ (N, .inl _))
  rw [e]
  show some ((vp_cell _ (N, .inl f)).setSlot _ _) = _
  rw [vp_cell_i, vp_cell_i, arrV_store]
  congr 2
  funext q
  by_cases hq : q = i.toNatClampNeg
  · subst hq
    simp [updV, upd]
  · simp [updV, upd, hq]
theorem AW.aast {a N t b ci : Nat} {i : Int32} {f : Nat → Option Nat} {fs : List Value} {q : vw_C} (hd : decode M.2.1 pc = .ok (.aastore, 1)) (ha : a < σ.1) (hc : σ.2 a = .inl (t, N, .inr (.inr (.inr (.inr f))))) (hb : b < σ.1) (hbc : σ.2 b = .inr (ci, fs)) (hq : vwCl[ci]? = some q) (ht : ∀ G : aG, (a_tys G)[t]? = some (G.2.1 t, .object q.1)) (hi : vp_in i N) (hn : pc + 1 = n) (h : AW scr k mc ms M c0 s0 n L st (σ.1, a_up σ.2 a (.inl (t, N, .inr (.inr (.inr (.inr (va_up f i.toNatClampNeg (some b)))))))) P) : AW scr k mc ms M c0 s0 pc L (.ref b :: .int i :: .ref a :: st) σ P := by
  subst hn
  intro p l e R s m args below meth c H locs Q ls G C hR hS hL K
  have h' := fun H1 locs1 hR1 hS1 => h p l e R s m args below meth c H1 locs1 Q ls G C hR1 hS1 hL K
  obtain ⟨hx, hbb, hml, hown, hts, hK, -⟩ := C
  have hlt : i.toNatClampNeg < N := Nat.not_le.mp fun q => hi (Or.inr q)
  have h0 : ¬ i < 0 := fun q => hi (Or.inl q)
  obtain ⟨r', hr', cellV, g1, g2, g3, -⟩ := hR.at hb hbc
  have hcls := (hK.1.1 ci q hq).2
  obtain ⟨kA, comp, k1, k2, k3, -⟩ := (hK.1.2 t _ (ht G)).2
  have hcomp : comp = G.1.1 ci := Option.some.inj (k3.symm.trans hcls.1)
  subst hcomp
  have hcls' := hcls
  obtain ⟨kC, hkC, -⟩ := hcls.2
  refine W.aast hx hbb (hR.at ha hc) (fun q h => by cases h) (fun h => by cases h) k1 k2 rfl hkC ⟨h0, by show _ < (arrV _ _ _).slots.size; rw [arrV_size]; exact hlt⟩ g1 (fun q h => by rw [g3] at h; cases h) (by rw [g2]; exact hkC) (by rw [g2]; exact va_assign hcls') rfl rfl hd fun H1 e z oq => ?_
  refine h' H1 _ (hR.up ha z oq ?_) (hS.put z oq (Nat.le_add_right _ _))
  show H1[_]? = some (vp_cell _ (N, .inr (.inr (.inr (.inr _)))))
  rw [e]
  show some ((vp_cell _ (N, .inr (.inr (.inr (.inr (a_f G f)))))).setSlot _ _) = _
  rw [vp_cell_q, vp_cell_q, arrV_store]
  congr 2
  funext q
  by_cases hq : q = i.toNatClampNeg
  · subst hq
    simp [updV, va_up, va_rf, a_f]
  · simp [updV, va_up, hq, a_f]
theorem AW.newi {x : Int32} {t N : Nat} {at0 : ArrayType} {ty : FieldType} (hd : decode M.2.1 pc = .ok (.newarray at0, 2)) (hty : newarray.typeOf at0 = ty) (ht : ∀ G : aG, (a_tys G)[t]? = some (G.2.1 t, ty)) (hdv : defaultValue ty = .int 0) (hnr : ∀ C, ty ≠ .object C) (ha : Cond.arrayClass ty ∈ gT) (hx0 : ¬ x < 0) (hN : x.toNatClampNeg = N) (hby : N * componentBytes ty ≤ 536870912) (hc0 : c0 + 1 ≤ mc) (hs0 : s0 + N ≤ ms) (hn : pc + 2 = n) (h : AW scr k mc ms M (c0 + 1) (s0 + N) n L (.ref σ.1 :: st) (σ.1 + 1, a_up σ.2 σ.1 (.inl (t, N, .inl (fun _ => 0)))) P) : AW scr k mc ms M c0 s0 pc L (.int x :: st) σ P := by
  subst hn; subst hty
  intro p l e R s m args below meth c H locs Q ls G C hR hS hL K
  have h' := fun H1 hR1 hS1 => h p l e R s m args below meth c H1 locs Q ls G C hR1 hS1 hL K
  obtain ⟨hx, hbb, hml, hown, hts, hK, hnam, hRm, -⟩ := C
  refine va_newaK hx hbb (hts _ ha) rfl hd rfl hx0 hN hby (Nat.le_trans hc0 hRm.2.2.1) (Nat.le_trans hs0 hRm.2.2.2) hR.1 fun H1 cA e1 z1 o1 hAr hNm => ?_
  rw [← hR.1] at z1 o1
  refine h' H1 (hR.push z1 o1 ?_) (a_S.push hS z1 o1)
  have hcA : cA = G.2.1 t := by
    have h2 := (hK.1.2 t _ (ht G)).2
    have h3 : s.vm.findClass ("[" ++ (newarray.typeOf at0).toString) = some (G.2.1 t) := by
      unfold va_RA at h2
      cases hh : newarray.typeOf at0 <;> first | (exact absurd hh (hnr _); done) | (simp only [hh] at h2; exact h2)
    exact Option.some.inj (hNm.symm.trans h3)
  subst hcA
  show H1[_]? = some (vp_cell _ (N, .inl (fun _ => 0)))
  rw [vp_cell_i, e1, hdv]
theorem AW.newq {x : Int32} {t N idx : Nat} {Cn : String} (hd : decode M.2.1 pc = .ok (.anewarray idx, 3)) (hl : Cond.classLink M.1.cls idx Cn ∈ gT) (ht : ∀ G : aG, (a_tys G)[t]? = some (G.2.1 t, .object Cn)) (hao : ∀ (G : aG) (U : State), a_Kn G U → va_AO Cn U) (hx0 : ¬ x < 0) (hN : x.toNatClampNeg = N) (hby : N * 4 ≤ 536870912) (hc0 : c0 + 1 ≤ mc) (hs0 : s0 + N ≤ ms) (hn : pc + 3 = n) (h : AW scr k mc ms M (c0 + 1) (s0 + N) n L (.ref σ.1 :: st) (σ.1 + 1, a_up σ.2 σ.1 (.inl (t, N, .inr (.inr (.inr (.inr (fun _ => none))))))) P) : AW scr k mc ms M c0 s0 pc L (.int x :: st) σ P := by
  subst hn; subst hN
  intro p l e R s m args below meth c H locs Q ls G C hR hS hL K
  have h' := fun H1 hR1 hS1 => h p l e R s m args below meth c H1 locs Q ls G C hR1 hS1 hL K
  obtain ⟨hx, hbb, hml, hown, hts, hK, hnam, hRm, -⟩ := C
  refine W.anew hx hbb hown (hts _ hl) (va_AO.use (hao G s hK)) rfl hd rfl hx0 hby (Nat.le_trans hc0 hRm.2.2.1) (Nat.le_trans hs0 hRm.2.2.2) fun cA kA comp f1 f2 f3 f4 => ?_
  generalize hH1 : H.push ({ cls := cA, slots := Array.replicate x.toNatClampNeg .null, vm := .none } : Cell) = H1
  have z1 : H1.size = H.size + 1 := by rw [← hH1, Array.size_push]
  have e1 : H1[H.size]? = some (arrV cA x.toNatClampNeg (fun _ => .null)) := by rw [← hH1, Array.getElem?_push_size, ← arrV_new]
  have o1 : ∀ q : Nat, q < H.size → H1[q]? = H[q]? := fun q hq => by rw [← hH1, Array.getElem?_push, if_neg (Nat.ne_of_lt hq)]
  have hcA : cA = G.2.1 t := by
    obtain ⟨kA', comp', -, -, -, h4⟩ := (hK.1.2 t _ (ht G)).2
    exact Option.some.inj (f1.symm.trans h4)
  subst hcA
  have h9 := h' H1 (hR.push (c := .inl (t, x.toNatClampNeg, .inr (.inr (.inr (.inr (fun _ => none)))))) z1 o1 ?_) (a_S.push hS z1 o1)
  · rw [hR.1]
    exact h9
  · show H1[_]? = some (vp_cell _ (x.toNatClampNeg, .inr (.inr (.inr (.inr _)))))
    rw [vp_cell_q, ← hR.1, e1]
    rfl
end AWH
