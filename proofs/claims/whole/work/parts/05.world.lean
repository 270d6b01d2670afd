abbrev sC : Type := (Nat × Nat) ⊕ (Nat × Nat × (Nat → Option Nat)) ⊕ (Nat × List (Option Nat))
def skA : List sC := [.inr (.inr (9, [some 1, some 3, some 10, some 17, some 20, some 23, some 28, some 120, some 123, some 126, some 135, none])), .inr (.inr (7, [some 2, none, none, none, none, none])), .inl (0, 240), .inr (.inr (6, [none, none, none, none, none, some 4, some 5, some 6, some 7, some 8, some 9])), .inl (0, 7), .inl (0, 7), .inl (0, 7), .inl (0, 7), .inl (0, 7), .inl (0, 12), .inr (.inr (6, [none, none, none, none, none, some 11, some 12, some 13, some 14, some 15, some 16])), .inl (0, 7), .inl (0, 7), .inl (0, 7), .inl (0, 7), .inl (0, 7), .inl (0, 12), .inr (.inr (1, [some 18, some 19, none, none, none])), .inl (0, 7), .inl (0, 7), .inr (.inr (1, [some 21, some 22, none, none, none])), .inl (0, 7), .inl (0, 7), .inr (.inr (8, [some 24, some 27, none, none, none, none, none, none])), .inr (.inr (1, [some 25, some 26, none, none, none])), .inl (0, 7), .inl (0, 7), .inl (0, 7), .inr (.inr (3, [some 29, none, none])), .inr (.inl (2, 30, fun j => some (30 + 3 * j)))]
def skB : List sC := [.inr (.inr (5, [some 121, some 122, none])), .inl (0, 6), .inl (1, 6), .inr (.inr (0, [some 124, some 125, none])), .inl (0, 20), .inl (0, 20), .inr (.inl (3, 2, fun j => some (127 + 4 * j))), .inr (.inr (2, [some 128, none, none])), .inr (.inr (1, [some 129, some 130, none, none, none])), .inl (0, 7), .inl (0, 7), .inr (.inr (2, [some 132, none, none])), .inr (.inr (1, [some 133, some 134, none, none, none])), .inl (0, 7), .inl (0, 7), .inl (0, 4), .inr (.inr (10, [some 137, some 138, some 139, some 140, some 141, some 142, some 143, some 144, none, none, some 145, none, none, some 146, none, none, none, none, none, some 147, none, none, none, some 148, some 149, some 150, none, some 151, some 152, some 153, none])), .inl (0, 612), .inl (1, 2), .inl (0, 6), .inl (0, 14), .inl (0, 14), .inl (0, 14), .inl (0, 14), .inl (0, 14), .inl (0, 24), .inl (0, 240), .inl (0, 7), .inl (0, 7), .inl (0, 6), .inl (1, 6), .inl (0, 4), .inl (0, 20), .inl (0, 20)]
def sk (i : Nat) : Option sC := if i < 30 then skA[i]? else if i < 120 then some (if (i - 30) % 3 = 0 then .inr (.inr (1, [some (i + 1), some (i + 2), none, none, none])) else .inl (0, 7)) else skB[i - 120]?
abbrev Me : Type := Nat → Nat → Int32
def mr (μ : Me) (a : Nat) (f : Nat → Int32) : Me := fun i => if i = a then f else μ i
def mu (μ : Me) (a j : Nat) (x : Int32) : Me := mr μ a (upd (μ a) j x)
theorem mr_same (μ : Me) (a : Nat) (f : Nat → Int32) : mr μ a f a = f := if_pos rfl
theorem mr_ne {μ : Me} {a b : Nat} {f : Nat → Int32} (h : b ≠ a) : mr μ a f b = μ b := if_neg h
theorem mu_same (μ : Me) (a j : Nat) (x : Int32) : mu μ a j x a j = x := by unfold mu; rw [mr_same]; exact if_pos rfl
theorem mu_ne {μ : Me} {a b j : Nat} {x : Int32} (h : b ≠ a) : mu μ a j x b = μ b := mr_ne h
theorem mu_nj {μ : Me} {a i j : Nat} {x : Int32} (h : i ≠ j) : mu μ a j x a i = μ a i := by unfold mu; rw [mr_same]; exact if_neg h
theorem mu_at (μ : Me) (a b i j : Nat) (x : Int32) : mu μ a j x b i = if b = a ∧ i = j then x else μ b i := by
  by_cases h : b = a
  · subst h
    by_cases h2 : i = j
    · subst h2; simp [mu_same]
    · simp [mu_nj h2, h2]
  · simp [mu_ne h, h]
theorem mr_at (μ : Me) (a b i : Nat) (f : Nat → Int32) : mr μ a f b i = if b = a then f i else μ b i := by
  by_cases h : b = a
  · subst h; simp [mr_same]
  · simp [mr_ne h, h]
def wval (μ : Me) (a j : Nat) (o : Option Nat) : Value := match o with
  | some r => .ref r
  | none => .int (μ a j)
def wfs (μ : Me) (a : Nat) (fs : List (Option Nat)) : List Value := fs.mapIdx (fun j o => wval μ a j o)
def wcell (μ : Me) (a : Nat) (s : sC) : aC := match s with
  | .inl (t, N) => .inl (t, N, .inl (μ a))
  | .inr (.inl (t, N, f)) => .inl (t, N, .inr (.inr (.inr (.inr f))))
  | .inr (.inr (ci, fs)) => .inr (ci, wfs μ a fs)
def wd (μ : Me) (g : Nat → aC) : Nat → aC := fun i => match sk i with
  | some s => wcell μ i s
  | none => g i
def wS (μ : Me) (e : Nat × (Nat → aC)) : aS := (154 + e.1, wd μ e.2)
theorem sk_lt {a : Nat} {s : sC} (h : sk a = some s) : a < 154 := by
  unfold sk at h
  split at h
  · omega
  · split at h
    · omega
    · have := (List.getElem?_eq_some_iff.mp h).1
      have e : skB.length = 34 := rfl
      omega
theorem wd_at {μ : Me} {g : Nat → aC} {a : Nat} {s : sC} (h : sk a = some s) : wd μ g a = wcell μ a s := by unfold wd; rw [h]
theorem wfs_get {μ : Me} {a j : Nat} {fs : List (Option Nat)} {o : Option Nat} (h : fs[j]? = some o) : (wfs μ a fs)[j]? = some (wval μ a j o) := by
  unfold wfs
  rw [List.getElem?_mapIdx, h]
  rfl
theorem wd_obj {μ : Me} {g : Nat → aC} {a ci j : Nat} {fs : List (Option Nat)} {x : Int32} (h : sk a = some (.inr (.inr (ci, fs)))) (hj : fs[j]? = some none) : a_up (wd μ g) a (.inr (ci, (wfs μ a fs).set j (.int x))) = wd (mu μ a j x) g := by
  funext i
  by_cases hi : i = a
  · subst hi
    simp only [a_up, if_true]
    rw [wd_at h]
    show _ = Sum.inr (ci, wfs (mu μ i j x) i fs)
    congr 2
    apply List.ext_getElem?
    intro q
    rw [List.getElem?_set]
    unfold wfs
    rw [List.getElem?_mapIdx, List.getElem?_mapIdx, List.length_mapIdx]
    by_cases hq : j = q
    · subst hq
      rw [if_pos rfl, if_pos (List.getElem?_eq_some_iff.mp hj).1, hj]
      simp [mu_same, wval]
    · rw [if_neg hq]
      cases fs[q]? with
      | none => rfl
      | some o => cases o <;> simp [wval, mu_nj (Ne.symm hq)]
  · simp only [a_up, if_neg hi]
    unfold wd
    cases hs : sk i with
    | none => rfl
    | some s => rcases s with ⟨t, N⟩ | ⟨t, N, f⟩ | ⟨c2, f2⟩ <;> simp [wcell, wfs, wval, mu_ne hi]
theorem wd_arr {μ : Me} {g : Nat → aC} {a t N : Nat} {f : Nat → Int32} (h : sk a = some (.inl (t, N))) : a_up (wd μ g) a (.inl (t, N, .inl f)) = wd (mr μ a f) g := by
  funext i
  by_cases hi : i = a
  · subst hi
    simp only [a_up, if_true]
    rw [wd_at h]
    show _ = Sum.inl (t, N, Sum.inl (mr μ i f i))
    rw [mr_same]
  · simp only [a_up, if_neg hi]
    unfold wd
    cases hs : sk i with
    | none => rfl
    | some s => rcases s with ⟨t, N⟩ | ⟨t, N, f⟩ | ⟨c2, f2⟩ <;> simp [wcell, wfs, wval, mr_ne hi]
section WRows
variable {scr : Option (Nat × (Nat → Int32))} {k mc ms : Nat} {M : aM} {c0 s0 pc n : Nat} {L : List (Option Value)} {st : List Value} {μ : Me} {e : Nat × (Nat → aC)} {P : Option Value → aS → Prop}
theorem AW.gi {idx ci j a : Nat} {fs : List (Option Nat)} (hd : decode M.2.1 pc = .ok (.getfield idx, 3)) (hf : a_fl M.1.cls idx ci j) (hs : sk a = some (.inr (.inr (ci, fs)))) (hj : fs[j]? = some none) (hn : pc + 3 = n) (h : AW scr k mc ms M c0 s0 n L (.int (μ a j) :: st) (wS μ e) P) : AW scr k mc ms M c0 s0 pc L (.ref a :: st) (wS μ e) P :=
  AW.getf0 hd hf (Nat.lt_of_lt_of_le (sk_lt hs) (Nat.le_add_right _ _)) (wd_at hs) (wfs_get hj) hn h
theorem AW.gr {idx ci j a r : Nat} {fs : List (Option Nat)} (hd : decode M.2.1 pc = .ok (.getfield idx, 3)) (hf : a_fl M.1.cls idx ci j) (hs : sk a = some (.inr (.inr (ci, fs)))) (hj : fs[j]? = some (some r)) (hn : pc + 3 = n) (h : AW scr k mc ms M c0 s0 n L (.ref r :: st) (wS μ e) P) : AW scr k mc ms M c0 s0 pc L (.ref a :: st) (wS μ e) P :=
  AW.getf0 hd hf (Nat.lt_of_lt_of_le (sk_lt hs) (Nat.le_add_right _ _)) (wd_at hs) (wfs_get hj) hn h
theorem AW.pi {idx ci j a : Nat} {x : Int32} {fs : List (Option Nat)} {ty : FieldType} (hd : decode M.2.1 pc = .ok (.putfield idx, 3)) (hf : a_fp M.1.cls idx ci j ty false) (hs : sk a = some (.inr (.inr (ci, fs)))) (hj : fs[j]? = some none) (hv : narrow ty (.int x) = .int x ∧ fits ty (.int x) = true) (hn : pc + 3 = n) (h : AW scr k mc ms M c0 s0 n L st (wS (mu μ a j x) e) P) : AW scr k mc ms M c0 s0 pc L (.int x :: .ref a :: st) (wS μ e) P := by
  refine AW.put0 hd hf (fun q => by cases q) (Nat.lt_of_lt_of_le (sk_lt hs) (Nat.le_add_right _ _)) (wd_at hs) (by unfold wfs; rw [List.length_mapIdx]; exact (List.getElem?_eq_some_iff.mp hj).1) (fun G => hv) hn ?_
  show AW _ _ _ _ _ _ _ _ _ _ (154 + e.1, a_up (wd μ e.2) a _) _
  rw [wd_obj hs hj]
  exact h
theorem AW.ia {a N : Nat} {i : Int32} (j : Nat) (hd : decode M.2.1 pc = .ok (.iaload, 1)) (hs : sk a = some (.inl (0, N))) (hi : i = nI j) (hj : j < N) (hN : N < 2147483648) (hn : pc + 1 = n) (h : AW scr k mc ms M c0 s0 n L (.int (μ a j) :: st) (wS μ e) P) : AW scr k mc ms M c0 s0 pc L (.int i :: .ref a :: st) (wS μ e) P := by
  subst hi
  refine AW.iald hd (Nat.lt_of_lt_of_le (sk_lt hs) (Nat.le_add_right _ _)) (wd_at hs) (vp_in_nI hj hN) hn ?_
  rw [nI_clamp (Nat.lt_trans hj hN)]
  exact h
theorem AW.za {a N : Nat} {i : Int32} (j : Nat) (hd : decode M.2.1 pc = .ok (.baload, 1)) (hs : sk a = some (.inl (1, N))) (hi : i = nI j) (hj : j < N) (hN : N < 2147483648) (hn : pc + 1 = n) (h : AW scr k mc ms M c0 s0 n L (.int (μ a j) :: st) (wS μ e) P) : AW scr k mc ms M c0 s0 pc L (.int i :: .ref a :: st) (wS μ e) P := by
  subst hi
  refine AW.zald hd (Nat.lt_of_lt_of_le (sk_lt hs) (Nat.le_add_right _ _)) (wd_at hs) (vp_in_nI hj hN) hn ?_
  rw [nI_clamp (Nat.lt_trans hj hN)]
  exact h
theorem AW.ra {a N t b : Nat} {i : Int32} {f : Nat → Option Nat} (j : Nat) (hd : decode M.2.1 pc = .ok (.aaload, 1)) (ht : t = 2 ∨ t = 3) (hs : sk a = some (.inr (.inl (t, N, f)))) (hi : i = nI j) (hj : j < N) (hN : N < 2147483648) (hb : f j = some b) (hn : pc + 1 = n) (h : AW scr k mc ms M c0 s0 n L (.ref b :: st) (wS μ e) P) : AW scr k mc ms M c0 s0 pc L (.int i :: .ref a :: st) (wS μ e) P := by
  subst hi
  refine AW.aald hd (Nat.lt_of_lt_of_le (sk_lt hs) (Nat.le_add_right _ _)) ht (wd_at hs) (vp_in_nI hj hN) (by rw [nI_clamp (Nat.lt_trans hj hN)]; exact hb) hn h
theorem AW.is {a N : Nat} {i x : Int32} (j : Nat) (hd : decode M.2.1 pc = .ok (.iastore, 1)) (hs : sk a = some (.inl (0, N))) (hi : i = nI j) (hj : j < N) (hN : N < 2147483648) (hn : pc + 1 = n) (h : AW scr k mc ms M c0 s0 n L st (wS (mu μ a j x) e) P) : AW scr k mc ms M c0 s0 pc L (.int x :: .int i :: .ref a :: st) (wS μ e) P := by
  subst hi
  refine AW.iast hd (Nat.lt_of_lt_of_le (sk_lt hs) (Nat.le_add_right _ _)) (wd_at hs) (vp_in_nI hj hN) hn ?_
  show AW _ _ _ _ _ _ _ _ _ _ (154 + e.1, a_up (wd μ e.2) a _) _
  rw [wd_arr hs, nI_clamp (Nat.lt_trans hj hN)]
  exact h
theorem AW.zs {a N : Nat} {i x : Int32} (j : Nat) (hd : decode M.2.1 pc = .ok (.bastore, 1)) (hs : sk a = some (.inl (1, N))) (hi : i = nI j) (hj : j < N) (hN : N < 2147483648) (hx : narrow .boolean (.int x) = .int x) (hn : pc + 1 = n) (h : AW scr k mc ms M c0 s0 n L st (wS (mu μ a j x) e) P) : AW scr k mc ms M c0 s0 pc L (.int x :: .int i :: .ref a :: st) (wS μ e) P := by
  subst hi
  refine AW.zast hd (Nat.lt_of_lt_of_le (sk_lt hs) (Nat.le_add_right _ _)) (wd_at hs) (vp_in_nI hj hN) hx hn ?_
  show AW _ _ _ _ _ _ _ _ _ _ (154 + e.1, a_up (wd μ e.2) a _) _
  rw [wd_arr hs, nI_clamp (Nat.lt_trans hj hN)]
  exact h
theorem AW.cp {idx a b N0 N1 : Nat} {x : Int32} (q : Nat) (hd : decode M.2.1 pc = .ok (.invokestatic idx, 3)) (hl : Cond.methodLink M.1.cls idx arraycopyName ∈ gT) (h2 : Cond.native arraycopyName ∈ gT) (h3 : Cond.static arraycopyName ∈ gT) (h4 : Cond.initialized "java/lang/System" ∈ gT) (hsa : sk a = some (.inl (0, N0))) (hsb : sk b = some (.inl (0, N1))) (hx : x = nI q) (hq : q < 2147483648) (g4 : q ≤ N0) (g5 : q ≤ N1) (hrs : st.length ≤ 4) (hk : 1 ≤ k) (hn : pc + 3 = n) (h : AW scr k mc ms M c0 s0 n L st (wS (mr μ b (va_cpy (μ a) (μ b) 0 0 q)) e) P) : AW scr k mc ms M c0 s0 pc L (.int x :: .int 0 :: .ref b :: .int 0 :: .ref a :: st) (wS μ e) P := by
  subst hx
  have e0 : (0 : Int32).toNatClampNeg = 0 := by decide +kernel
  refine AW.acopy hd hl h2 h3 h4 (Nat.lt_of_lt_of_le (sk_lt hsa) (Nat.le_add_right _ _)) (Nat.lt_of_lt_of_le (sk_lt hsb) (Nat.le_add_right _ _)) (wd_at hsa) (wd_at hsb) (by decide) (by decide) (nI_pos hq) (by rw [e0, nI_clamp hq]; omega) (by rw [e0, nI_clamp hq]; omega) hrs hk hn ?_
  show AW _ _ _ _ _ _ _ _ _ _ (154 + e.1, a_up (wd μ e.2) b _) _
  rw [wd_arr hsb, e0, nI_clamp hq]
  exact h
theorem AW.cv {idx kc np a ci : Nat} {Mc : aM} {fs : List (Option Nat)} {q : vw_C} {As rest : List Value} {P1 : Option Value → aS → Prop} (hd : decode M.2.1 pc = .ok (.invokevirtual idx, 3)) (hl : a_lk M.1.cls idx Mc.1) (hcb : a_cv Mc np) (hs : sk a = some (.inr (.inr (ci, fs)))) (hq : vwCl[ci]? = some q) (hqn : q.1 = Mc.1.cls) (hM : AC kc 0 0 Mc (.ref a :: As) (wS μ e) P1) (hnp : As.length = np) (hst : st = As.reverse ++ .ref a :: rest) (hrs : rest.length ≤ 4) (hk : kc + 1 ≤ k) (hc0 : c0 ≤ mc) (hs0 : s0 ≤ ms) (hn : pc + 3 = n) (h : ∀ (r : Option Value) (σ' : aS), P1 r σ' → AW scr k mc ms M c0 s0 n L (r.toList ++ rest) σ' P) : AW scr k mc ms M c0 s0 pc L st (wS μ e) P :=
  AW.callv0 hd hl hcb hM hnp hst hrs hk hc0 hs0 (Nat.lt_of_lt_of_le (sk_lt hs) (Nat.le_add_right _ _)) (wd_at hs) hq hqn hn h
end WRows
section Pat
variable {scr : Option (Nat × (Nat → Int32))} {k mc ms : Nat} {M : aM} {c0 s0 pc n : Nat} {L : List (Option Value)} {st : List Value} {σ : aS} {P : Option Value → aS → Prop}
theorem AW.ist0 {a0 : Option Value} {x : Int32} (hd : decode M.2.1 pc = .ok (.istore_n 0, 1)) (hi : 0 < M.2.2.1) (hc : a_ok (a0 :: L) 0 = true) (hn : pc + 1 = n) (h : AW scr k mc ms M c0 s0 n (some (.int x) :: L) st σ P) : AW scr k mc ms M c0 s0 pc (a0 :: L) (.int x :: st) σ P := AW.istore_n hd hi hc rfl hn h
theorem AW.ast0 {a0 : Option Value} {x : Nat} (hd : decode M.2.1 pc = .ok (.astore_n 0, 1)) (hi : 0 < M.2.2.1) (hc : a_ok (a0 :: L) 0 = true) (hn : pc + 1 = n) (h : AW scr k mc ms M c0 s0 n (some (.ref x) :: L) st σ P) : AW scr k mc ms M c0 s0 pc (a0 :: L) (.ref x :: st) σ P := AW.astore_n hd hi hc rfl hn h
theorem AW.inc0 {x : Int32} (w : Int32) {d : Int} (hd : decode M.2.1 pc = .ok (.iinc 0 d, 3)) (hw : Int32.ofInt d = w) (hi : 0 < M.2.2.1) (hc : a_ok (some (.int x) :: L) 0 = true) (hn : pc + 3 = n) (h : AW scr k mc ms M c0 s0 n (some (.int (x + w)) :: L) st σ P) : AW scr k mc ms M c0 s0 pc (some (.int x) :: L) st σ P := AW.iinc hd rfl (by rw [hw]) hi hc rfl hn h
theorem AW.ist1 {a0 a1 : Option Value} {x : Int32} (hd : decode M.2.1 pc = .ok (.istore_n 1, 1)) (hi : 1 < M.2.2.1) (hc : a_ok (a0 :: a1 :: L) 1 = true) (hn : pc + 1 = n) (h : AW scr k mc ms M c0 s0 n (a0 :: some (.int x) :: L) st σ P) : AW scr k mc ms M c0 s0 pc (a0 :: a1 :: L) (.int x :: st) σ P := AW.istore_n hd hi hc rfl hn h
theorem AW.ast1 {a0 a1 : Option Value} {x : Nat} (hd : decode M.2.1 pc = .ok (.astore_n 1, 1)) (hi : 1 < M.2.2.1) (hc : a_ok (a0 :: a1 :: L) 1 = true) (hn : pc + 1 = n) (h : AW scr k mc ms M c0 s0 n (a0 :: some (.ref x) :: L) st σ P) : AW scr k mc ms M c0 s0 pc (a0 :: a1 :: L) (.ref x :: st) σ P := AW.astore_n hd hi hc rfl hn h
theorem AW.inc1 {a0 : Option Value} {x : Int32} (w : Int32) {d : Int} (hd : decode M.2.1 pc = .ok (.iinc 1 d, 3)) (hw : Int32.ofInt d = w) (hi : 1 < M.2.2.1) (hc : a_ok (a0 :: some (.int x) :: L) 1 = true) (hn : pc + 3 = n) (h : AW scr k mc ms M c0 s0 n (a0 :: some (.int (x + w)) :: L) st σ P) : AW scr k mc ms M c0 s0 pc (a0 :: some (.int x) :: L) st σ P := AW.iinc hd rfl (by rw [hw]) hi hc rfl hn h
theorem AW.ist2 {a0 a1 a2 : Option Value} {x : Int32} (hd : decode M.2.1 pc = .ok (.istore_n 2, 1)) (hi : 2 < M.2.2.1) (hc : a_ok (a0 :: a1 :: a2 :: L) 2 = true) (hn : pc + 1 = n) (h : AW scr k mc ms M c0 s0 n (a0 :: a1 :: some (.int x) :: L) st σ P) : AW scr k mc ms M c0 s0 pc (a0 :: a1 :: a2 :: L) (.int x :: st) σ P := AW.istore_n hd hi hc rfl hn h
theorem AW.ast2 {a0 a1 a2 : Option Value} {x : Nat} (hd : decode M.2.1 pc = .ok (.astore_n 2, 1)) (hi : 2 < M.2.2.1) (hc : a_ok (a0 :: a1 :: a2 :: L) 2 = true) (hn : pc + 1 = n) (h : AW scr k mc ms M c0 s0 n (a0 :: a1 :: some (.ref x) :: L) st σ P) : AW scr k mc ms M c0 s0 pc (a0 :: a1 :: a2 :: L) (.ref x :: st) σ P := AW.astore_n hd hi hc rfl hn h
theorem AW.inc2 {a0 a1 : Option Value} {x : Int32} (w : Int32) {d : Int} (hd : decode M.2.1 pc = .ok (.iinc 2 d, 3)) (hw : Int32.ofInt d = w) (hi : 2 < M.2.2.1) (hc : a_ok (a0 :: a1 :: some (.int x) :: L) 2 = true) (hn : pc + 3 = n) (h : AW scr k mc ms M c0 s0 n (a0 :: a1 :: some (.int (x + w)) :: L) st σ P) : AW scr k mc ms M c0 s0 pc (a0 :: a1 :: some (.int x) :: L) st σ P := AW.iinc hd rfl (by rw [hw]) hi hc rfl hn h
theorem AW.ist3 {a0 a1 a2 a3 : Option Value} {x : Int32} (hd : decode M.2.1 pc = .ok (.istore_n 3, 1)) (hi : 3 < M.2.2.1) (hc : a_ok (a0 :: a1 :: a2 :: a3 :: L) 3 = true) (hn : pc + 1 = n) (h : AW scr k mc ms M c0 s0 n (a0 :: a1 :: a2 :: some (.int x) :: L) st σ P) : AW scr k mc ms M c0 s0 pc (a0 :: a1 :: a2 :: a3 :: L) (.int x :: st) σ P := AW.istore_n hd hi hc rfl hn h
theorem AW.ast3 {a0 a1 a2 a3 : Option Value} {x : Nat} (hd : decode M.2.1 pc = .ok (.astore_n 3, 1)) (hi : 3 < M.2.2.1) (hc : a_ok (a0 :: a1 :: a2 :: a3 :: L) 3 = true) (hn : pc + 1 = n) (h : AW scr k mc ms M c0 s0 n (a0 :: a1 :: a2 :: some (.ref x) :: L) st σ P) : AW scr k mc ms M c0 s0 pc (a0 :: a1 :: a2 :: a3 :: L) (.ref x :: st) σ P := AW.astore_n hd hi hc rfl hn h
theorem AW.inc3 {a0 a1 a2 : Option Value} {x : Int32} (w : Int32) {d : Int} (hd : decode M.2.1 pc = .ok (.iinc 3 d, 3)) (hw : Int32.ofInt d = w) (hi : 3 < M.2.2.1) (hc : a_ok (a0 :: a1 :: a2 :: some (.int x) :: L) 3 = true) (hn : pc + 3 = n) (h : AW scr k mc ms M c0 s0 n (a0 :: a1 :: a2 :: some (.int (x + w)) :: L) st σ P) : AW scr k mc ms M c0 s0 pc (a0 :: a1 :: a2 :: some (.int x) :: L) st σ P := AW.iinc hd rfl (by rw [hw]) hi hc rfl hn h
theorem AW.ist4 {a0 a1 a2 a3 a4 : Option Value} {x : Int32} (hd : decode M.2.1 pc = .ok (.istore 4, 2)) (hi : 4 < M.2.2.1) (hc : a_ok (a0 :: a1 :: a2 :: a3 :: a4 :: L) 4 = true) (hn : pc + 2 = n) (h : AW scr k mc ms M c0 s0 n (a0 :: a1 :: a2 :: a3 :: some (.int x) :: L) st σ P) : AW scr k mc ms M c0 s0 pc (a0 :: a1 :: a2 :: a3 :: a4 :: L) (.int x :: st) σ P := AW.istore hd hi hc rfl hn h
theorem AW.ast4 {a0 a1 a2 a3 a4 : Option Value} {x : Nat} (hd : decode M.2.1 pc = .ok (.astore 4, 2)) (hi : 4 < M.2.2.1) (hc : a_ok (a0 :: a1 :: a2 :: a3 :: a4 :: L) 4 = true) (hn : pc + 2 = n) (h : AW scr k mc ms M c0 s0 n (a0 :: a1 :: a2 :: a3 :: some (.ref x) :: L) st σ P) : AW scr k mc ms M c0 s0 pc (a0 :: a1 :: a2 :: a3 :: a4 :: L) (.ref x :: st) σ P := AW.astore hd hi hc rfl hn h
theorem AW.inc4 {a0 a1 a2 a3 : Option Value} {x : Int32} (w : Int32) {d : Int} (hd : decode M.2.1 pc = .ok (.iinc 4 d, 3)) (hw : Int32.ofInt d = w) (hi : 4 < M.2.2.1) (hc : a_ok (a0 :: a1 :: a2 :: a3 :: some (.int x) :: L) 4 = true) (hn : pc + 3 = n) (h : AW scr k mc ms M c0 s0 n (a0 :: a1 :: a2 :: a3 :: some (.int (x + w)) :: L) st σ P) : AW scr k mc ms M c0 s0 pc (a0 :: a1 :: a2 :: a3 :: some (.int x) :: L) st σ P := AW.iinc hd rfl (by rw [hw]) hi hc rfl hn h
theorem AW.ist5 {a0 a1 a2 a3 a4 a5 : Option Value} {x : Int32} (hd : decode M.2.1 pc = .ok (.istore 5, 2)) (hi : 5 < M.2.2.1) (hc : a_ok (a0 :: a1 :: a2 :: a3 :: a4 :: a5 :: L) 5 = true) (hn : pc + 2 = n) (h : AW scr k mc ms M c0 s0 n (a0 :: a1 :: a2 :: a3 :: a4 :: some (.int x) :: L) st σ P) : AW scr k mc ms M c0 s0 pc (a0 :: a1 :: a2 :: a3 :: a4 :: a5 :: L) (.int x :: st) σ P := AW.istore hd hi hc rfl hn h
theorem AW.ast5 {a0 a1 a2 a3 a4 a5 : Option Value} {x : Nat} (hd : decode M.2.1 pc = .ok (.astore 5, 2)) (hi : 5 < M.2.2.1) (hc : a_ok (a0 :: a1 :: a2 :: a3 :: a4 :: a5 :: L) 5 = true) (hn : pc + 2 = n) (h : AW scr k mc ms M c0 s0 n (a0 :: a1 :: a2 :: a3 :: a4 :: some (.ref x) :: L) st σ P) : AW scr k mc ms M c0 s0 pc (a0 :: a1 :: a2 :: a3 :: a4 :: a5 :: L) (.ref x :: st) σ P := AW.astore hd hi hc rfl hn h
theorem AW.inc5 {a0 a1 a2 a3 a4 : Option Value} {x : Int32} (w : Int32) {d : Int} (hd : decode M.2.1 pc = .ok (.iinc 5 d, 3)) (hw : Int32.ofInt d = w) (hi : 5 < M.2.2.1) (hc : a_ok (a0 :: a1 :: a2 :: a3 :: a4 :: some (.int x) :: L) 5 = true) (hn : pc + 3 = n) (h : AW scr k mc ms M c0 s0 n (a0 :: a1 :: a2 :: a3 :: a4 :: some (.int (x + w)) :: L) st σ P) : AW scr k mc ms M c0 s0 pc (a0 :: a1 :: a2 :: a3 :: a4 :: some (.int x) :: L) st σ P := AW.iinc hd rfl (by rw [hw]) hi hc rfl hn h
theorem AW.ist6 {a0 a1 a2 a3 a4 a5 a6 : Option Value} {x : Int32} (hd : decode M.2.1 pc = .ok (.istore 6, 2)) (hi : 6 < M.2.2.1) (hc : a_ok (a0 :: a1 :: a2 :: a3 :: a4 :: a5 :: a6 :: L) 6 = true) (hn : pc + 2 = n) (h : AW scr k mc ms M c0 s0 n (a0 :: a1 :: a2 :: a3 :: a4 :: a5 :: some (.int x) :: L) st σ P) : AW scr k mc ms M c0 s0 pc (a0 :: a1 :: a2 :: a3 :: a4 :: a5 :: a6 :: L) (.int x :: st) σ P := AW.istore hd hi hc rfl hn h
theorem AW.ast6 {a0 a1 a2 a3 a4 a5 a6 : Option Value} {x : Nat} (hd : decode M.2.1 pc = .ok (.astore 6, 2)) (hi : 6 < M.2.2.1) (hc : a_ok (a0 :: a1 :: a2 :: a3 :: a4 :: a5 :: a6 :: L) 6 = true) (hn : pc + 2 = n) (h : AW scr k mc ms M c0 s0 n (a0 :: a1 :: a2 :: a3 :: a4 :: a5 :: some (.ref x) :: L) st σ P) : AW scr k mc ms M c0 s0 pc (a0 :: a1 :: a2 :: a3 :: a4 :: a5 :: a6 :: L) (.ref x :: st) σ P := AW.astore hd hi hc rfl hn h
theorem AW.inc6 {a0 a1 a2 a3 a4 a5 : Option Value} {x : Int32} (w : Int32) {d : Int} (hd : decode M.2.1 pc = .ok (.iinc 6 d, 3)) (hw : Int32.ofInt d = w) (hi : 6 < M.2.2.1) (hc : a_ok (a0 :: a1 :: a2 :: a3 :: a4 :: a5 :: some (.int x) :: L) 6 = true) (hn : pc + 3 = n) (h : AW scr k mc ms M c0 s0 n (a0 :: a1 :: a2 :: a3 :: a4 :: a5 :: some (.int (x + w)) :: L) st σ P) : AW scr k mc ms M c0 s0 pc (a0 :: a1 :: a2 :: a3 :: a4 :: a5 :: some (.int x) :: L) st σ P := AW.iinc hd rfl (by rw [hw]) hi hc rfl hn h
theorem AW.ist7 {a0 a1 a2 a3 a4 a5 a6 a7 : Option Value} {x : Int32} (hd : decode M.2.1 pc = .ok (.istore 7, 2)) (hi : 7 < M.2.2.1) (hc : a_ok (a0 :: a1 :: a2 :: a3 :: a4 :: a5 :: a6 :: a7 :: L) 7 = true) (hn : pc + 2 = n) (h : AW scr k mc ms M c0 s0 n (a0 :: a1 :: a2 :: a3 :: a4 :: a5 :: a6 :: some (.int x) :: L) st σ P) : AW scr k mc ms M c0 s0 pc (a0 :: a1 :: a2 :: a3 :: a4 :: a5 :: a6 :: a7 :: L) (.int x :: st) σ P := AW.istore hd hi hc rfl hn h
theorem AW.ast7 {a0 a1 a2 a3 a4 a5 a6 a7 : Option Value} {x : Nat} (hd : decode M.2.1 pc = .ok (.astore 7, 2)) (hi : 7 < M.2.2.1) (hc : a_ok (a0 :: a1 :: a2 :: a3 :: a4 :: a5 :: a6 :: a7 :: L) 7 = true) (hn : pc + 2 = n) (h : AW scr k mc ms M c0 s0 n (a0 :: a1 :: a2 :: a3 :: a4 :: a5 :: a6 :: some (.ref x) :: L) st σ P) : AW scr k mc ms M c0 s0 pc (a0 :: a1 :: a2 :: a3 :: a4 :: a5 :: a6 :: a7 :: L) (.ref x :: st) σ P := AW.astore hd hi hc rfl hn h
theorem AW.inc7 {a0 a1 a2 a3 a4 a5 a6 : Option Value} {x : Int32} (w : Int32) {d : Int} (hd : decode M.2.1 pc = .ok (.iinc 7 d, 3)) (hw : Int32.ofInt d = w) (hi : 7 < M.2.2.1) (hc : a_ok (a0 :: a1 :: a2 :: a3 :: a4 :: a5 :: a6 :: some (.int x) :: L) 7 = true) (hn : pc + 3 = n) (h : AW scr k mc ms M c0 s0 n (a0 :: a1 :: a2 :: a3 :: a4 :: a5 :: a6 :: some (.int (x + w)) :: L) st σ P) : AW scr k mc ms M c0 s0 pc (a0 :: a1 :: a2 :: a3 :: a4 :: a5 :: a6 :: some (.int x) :: L) st σ P := AW.iinc hd rfl (by rw [hw]) hi hc rfl hn h
theorem AW.ist8 {a0 a1 a2 a3 a4 a5 a6 a7 a8 : Option Value} {x : Int32} (hd : decode M.2.1 pc = .ok (.istore 8, 2)) (hi : 8 < M.2.2.1) (hc : a_ok (a0 :: a1 :: a2 :: a3 :: a4 :: a5 :: a6 :: a7 :: a8 :: L) 8 = true) (hn : pc + 2 = n) (h : AW scr k mc ms M c0 s0 n (a0 :: a1 :: a2 :: a3 :: a4 :: a5 :: a6 :: a7 :: some (.int x) :: L) st σ P) : AW scr k mc ms M c0 s0 pc (a0 :: a1 :: a2 :: a3 :: a4 :: a5 :: a6 :: a7 :: a8 :: L) (.int x :: st) σ P := AW.istore hd hi hc rfl hn h
theorem AW.ast8 {a0 a1 a2 a3 a4 a5 a6 a7 a8 : Option Value} {x : Nat} (hd : decode M.2.1 pc = .ok (.astore 8, 2)) (hi : 8 < M.2.2.1) (hc : a_ok (a0 :: a1 :: a2 :: a3 :: a4 :: a5 :: a6 :: a7 :: a8 :: L) 8 = true) (hn : pc + 2 = n) (h : AW scr k mc ms M c0 s0 n (a0 :: a1 :: a2 :: a3 :: a4 :: a5 :: a6 :: a7 :: some (.ref x) :: L) st σ P) : AW scr k mc ms M c0 s0 pc (a0 :: a1 :: a2 :: a3 :: a4 :: a5 :: a6 :: a7 :: a8 :: L) (.ref x :: st) σ P := AW.astore hd hi hc rfl hn h
theorem AW.inc8 {a0 a1 a2 a3 a4 a5 a6 a7 : Option Value} {x : Int32} (w : Int32) {d : Int} (hd : decode M.2.1 pc = .ok (.iinc 8 d, 3)) (hw : Int32.ofInt d = w) (hi : 8 < M.2.2.1) (hc : a_ok (a0 :: a1 :: a2 :: a3 :: a4 :: a5 :: a6 :: a7 :: some (.int x) :: L) 8 = true) (hn : pc + 3 = n) (h : AW scr k mc ms M c0 s0 n (a0 :: a1 :: a2 :: a3 :: a4 :: a5 :: a6 :: a7 :: some (.int (x + w)) :: L) st σ P) : AW scr k mc ms M c0 s0 pc (a0 :: a1 :: a2 :: a3 :: a4 :: a5 :: a6 :: a7 :: some (.int x) :: L) st σ P := AW.iinc hd rfl (by rw [hw]) hi hc rfl hn h
theorem AW.ist9 {a0 a1 a2 a3 a4 a5 a6 a7 a8 a9 : Option Value} {x : Int32} (hd : decode M.2.1 pc = .ok (.istore 9, 2)) (hi : 9 < M.2.2.1) (hc : a_ok (a0 :: a1 :: a2 :: a3 :: a4 :: a5 :: a6 :: a7 :: a8 :: a9 :: L) 9 = true) (hn : pc + 2 = n) (h : AW scr k mc ms M c0 s0 n (a0 :: a1 :: a2 :: a3 :: a4 :: a5 :: a6 :: a7 :: a8 :: some (.int x) :: L) st σ P) : AW scr k mc ms M c0 s0 pc (a0 :: a1 :: a2 :: a3 :: a4 :: a5 :: a6 :: a7 :: a8 :: a9 :: L) (.int x :: st) σ P := AW.istore hd hi hc rfl hn h
theorem AW.ast9 {a0 a1 a2 a3 a4 a5 a6 a7 a8 a9 : Option Value} {x : Nat} (hd : decode M.2.1 pc = .ok (.astore 9, 2)) (hi : 9 < M.2.2.1) (hc : a_ok (a0 :: a1 :: a2 :: a3 :: a4 :: a5 :: a6 :: a7 :: a8 :: a9 :: L) 9 = true) (hn : pc + 2 = n) (h : AW scr k mc ms M c0 s0 n (a0 :: a1 :: a2 :: a3 :: a4 :: a5 :: a6 :: a7 :: a8 :: some (.ref x) :: L) st σ P) : AW scr k mc ms M c0 s0 pc (a0 :: a1 :: a2 :: a3 :: a4 :: a5 :: a6 :: a7 :: a8 :: a9 :: L) (.ref x :: st) σ P := AW.astore hd hi hc rfl hn h
theorem AW.inc9 {a0 a1 a2 a3 a4 a5 a6 a7 a8 : Option Value} {x : Int32} (w : Int32) {d : Int} (hd : decode M.2.1 pc = .ok (.iinc 9 d, 3)) (hw : Int32.ofInt d = w) (hi : 9 < M.2.2.1) (hc : a_ok (a0 :: a1 :: a2 :: a3 :: a4 :: a5 :: a6 :: a7 :: a8 :: some (.int x) :: L) 9 = true) (hn : pc + 3 = n) (h : AW scr k mc ms M c0 s0 n (a0 :: a1 :: a2 :: a3 :: a4 :: a5 :: a6 :: a7 :: a8 :: some (.int (x + w)) :: L) st σ P) : AW scr k mc ms M c0 s0 pc (a0 :: a1 :: a2 :: a3 :: a4 :: a5 :: a6 :: a7 :: a8 :: some (.int x) :: L) st σ P := AW.iinc hd rfl (by rw [hw]) hi hc rfl hn h
theorem AW.ist10 {a0 a1 a2 a3 a4 a5 a6 a7 a8 a9 a10 : Option Value} {x : Int32} (hd : decode M.2.1 pc = .ok (.istore 10, 2)) (hi : 10 < M.2.2.1) (hc : a_ok (a0 :: a1 :: a2 :: a3 :: a4 :: a5 :: a6 :: a7 :: a8 :: a9 :: a10 :: L) 10 = true) (hn : pc + 2 = n) (h : AW scr k mc ms M c0 s0 n (a0 :: a1 :: a2 :: a3 :: a4 :: a5 :: a6 :: a7 :: a8 :: a9 :: some (.int x) :: L) st σ P) : AW scr k mc ms M c0 s0 pc (a0 :: a1 :: a2 :: a3 :: a4 :: a5 :: a6 :: a7 :: a8 :: a9 :: a10 :: L) (.int x :: st) σ P := AW.istore hd hi hc rfl hn h
theorem AW.ast10 {a0 a1 a2 a3 a4 a5 a6 a7 a8 a9 a10 : Option Value} {x : Nat} (hd : decode M.2.1 pc = .ok (.astore 10, 2)) (hi : 10 < M.2.2.1) (hc : a_ok (a0 :: a1 :: a2 :: a3 :: a4 :: a5 :: a6 :: a7 :: a8 :: a9 :: a10 :: L) 10 = true) (hn : pc + 2 = n) (h : AW scr k mc ms M c0 s0 n (a0 :: a1 :: a2 :: a3 :: a4 :: a5 :: a6 :: a7 :: a8 :: a9 :: some (.ref x) :: L) st σ P) : AW scr k mc ms M c0 s0 pc (a0 :: a1 :: a2 :: a3 :: a4 :: a5 :: a6 :: a7 :: a8 :: a9 :: a10 :: L) (.ref x :: st) σ P := AW.astore hd hi hc rfl hn h
theorem AW.inc10 {a0 a1 a2 a3 a4 a5 a6 a7 a8 a9 : Option Value} {x : Int32} (w : Int32) {d : Int} (hd : decode M.2.1 pc = .ok (.iinc 10 d, 3)) (hw : Int32.ofInt d = w) (hi : 10 < M.2.2.1) (hc : a_ok (a0 :: a1 :: a2 :: a3 :: a4 :: a5 :: a6 :: a7 :: a8 :: a9 :: some (.int x) :: L) 10 = true) (hn : pc + 3 = n) (h : AW scr k mc ms M c0 s0 n (a0 :: a1 :: a2 :: a3 :: a4 :: a5 :: a6 :: a7 :: a8 :: a9 :: some (.int (x + w)) :: L) st σ P) : AW scr k mc ms M c0 s0 pc (a0 :: a1 :: a2 :: a3 :: a4 :: a5 :: a6 :: a7 :: a8 :: a9 :: some (.int x) :: L) st σ P := AW.iinc hd rfl (by rw [hw]) hi hc rfl hn h
theorem AW.ist11 {a0 a1 a2 a3 a4 a5 a6 a7 a8 a9 a10 a11 : Option Value} {x : Int32} (hd : decode M.2.1 pc = .ok (.istore 11, 2)) (hi : 11 < M.2.2.1) (hc : a_ok (a0 :: a1 :: a2 :: a3 :: a4 :: a5 :: a6 :: a7 :: a8 :: a9 :: a10 :: a11 :: L) 11 = true) (hn : pc + 2 = n) (h : AW scr k mc ms M c0 s0 n (a0 :: a1 :: a2 :: a3 :: a4 :: a5 :: a6 :: a7 :: a8 :: a9 :: a10 :: some (.int x) :: L) st σ P) : AW scr k mc ms M c0 s0 pc (a0 :: a1 :: a2 :: a3 :: a4 :: a5 :: a6 :: a7 :: a8 :: a9 :: a10 :: a11 :: L) (.int x :: st) σ P := AW.istore hd hi hc rfl hn h
theorem AW.ast11 {a0 a1 a2 a3 a4 a5 a6 a7 a8 a9 a10 a11 : Option Value} {x : Nat} (hd : decode M.2.1 pc = .ok (.astore 11, 2)) (hi : 11 < M.2.2.1) (hc : a_ok (a0 :: a1 :: a2 :: a3 :: a4 :: a5 :: a6 :: a7 :: a8 :: a9 :: a10 :: a11 :: L) 11 = true) (hn : pc + 2 = n) (h : AW scr k mc ms M c0 s0 n (a0 :: a1 :: a2 :: a3 :: a4 :: a5 :: a6 :: a7 :: a8 :: a9 :: a10 :: some (.ref x) :: L) st σ P) : AW scr k mc ms M c0 s0 pc (a0 :: a1 :: a2 :: a3 :: a4 :: a5 :: a6 :: a7 :: a8 :: a9 :: a10 :: a11 :: L) (.ref x :: st) σ P := AW.astore hd hi hc rfl hn h
theorem AW.inc11 {a0 a1 a2 a3 a4 a5 a6 a7 a8 a9 a10 : Option Value} {x : Int32} (w : Int32) {d : Int} (hd : decode M.2.1 pc = .ok (.iinc 11 d, 3)) (hw : Int32.ofInt d = w) (hi : 11 < M.2.2.1) (hc : a_ok (a0 :: a1 :: a2 :: a3 :: a4 :: a5 :: a6 :: a7 :: a8 :: a9 :: a10 :: some (.int x) :: L) 11 = true) (hn : pc + 3 = n) (h : AW scr k mc ms M c0 s0 n (a0 :: a1 :: a2 :: a3 :: a4 :: a5 :: a6 :: a7 :: a8 :: a9 :: a10 :: some (.int (x + w)) :: L) st σ P) : AW scr k mc ms M c0 s0 pc (a0 :: a1 :: a2 :: a3 :: a4 :: a5 :: a6 :: a7 :: a8 :: a9 :: a10 :: some (.int x) :: L) st σ P := AW.iinc hd rfl (by rw [hw]) hi hc rfl hn h
theorem AW.ist12 {a0 a1 a2 a3 a4 a5 a6 a7 a8 a9 a10 a11 a12 : Option Value} {x : Int32} (hd : decode M.2.1 pc = .ok (.istore 12, 2)) (hi : 12 < M.2.2.1) (hc : a_ok (a0 :: a1 :: a2 :: a3 :: a4 :: a5 :: a6 :: a7 :: a8 :: a9 :: a10 :: a11 :: a12 :: L) 12 = true) (hn : pc + 2 = n) (h : AW scr k mc ms M c0 s0 n (a0 :: a1 :: a2 :: a3 :: a4 :: a5 :: a6 :: a7 :: a8 :: a9 :: a10 :: a11 :: some (.int x) :: L) st σ P) : AW scr k mc ms M c0 s0 pc (a0 :: a1 :: a2 :: a3 :: a4 :: a5 :: a6 :: a7 :: a8 :: a9 :: a10 :: a11 :: a12 :: L) (.int x :: st) σ P := AW.istore hd hi hc rfl hn h
theorem AW.ast12 {a0 a1 a2 a3 a4 a5 a6 a7 a8 a9 a10 a11 a12 : Option Value} {x : Nat} (hd : decode M.2.1 pc = .ok (.astore 12, 2)) (hi : 12 < M.2.2.1) (hc : a_ok (a0 :: a1 :: a2 :: a3 :: a4 :: a5 :: a6 :: a7 :: a8 :: a9 :: a10 :: a11 :: a12 :: L) 12 = true) (hn : pc + 2 = n) (h : AW scr k mc ms M c0 s0 n (a0 :: a1 :: a2 :: a3 :: a4 :: a5 :: a6 :: a7 :: a8 :: a9 :: a10 :: a11 :: some (.ref x) :: L) st σ P) : AW scr k mc ms M c0 s0 pc (a0 :: a1 :: a2 :: a3 :: a4 :: a5 :: a6 :: a7 :: a8 :: a9 :: a10 :: a11 :: a12 :: L) (.ref x :: st) σ P := AW.astore hd hi hc rfl hn h
theorem AW.inc12 {a0 a1 a2 a3 a4 a5 a6 a7 a8 a9 a10 a11 : Option Value} {x : Int32} (w : Int32) {d : Int} (hd : decode M.2.1 pc = .ok (.iinc 12 d, 3)) (hw : Int32.ofInt d = w) (hi : 12 < M.2.2.1) (hc : a_ok (a0 :: a1 :: a2 :: a3 :: a4 :: a5 :: a6 :: a7 :: a8 :: a9 :: a10 :: a11 :: some (.int x) :: L) 12 = true) (hn : pc + 3 = n) (h : AW scr k mc ms M c0 s0 n (a0 :: a1 :: a2 :: a3 :: a4 :: a5 :: a6 :: a7 :: a8 :: a9 :: a10 :: a11 :: some (.int (x + w)) :: L) st σ P) : AW scr k mc ms M c0 s0 pc (a0 :: a1 :: a2 :: a3 :: a4 :: a5 :: a6 :: a7 :: a8 :: a9 :: a10 :: a11 :: some (.int x) :: L) st σ P := AW.iinc hd rfl (by rw [hw]) hi hc rfl hn h
theorem AW.ist13 {a0 a1 a2 a3 a4 a5 a6 a7 a8 a9 a10 a11 a12 a13 : Option Value} {x : Int32} (hd : decode M.2.1 pc = .ok (.istore 13, 2)) (hi : 13 < M.2.2.1) (hc : a_ok (a0 :: a1 :: a2 :: a3 :: a4 :: a5 :: a6 :: a7 :: a8 :: a9 :: a10 :: a11 :: a12 :: a13 :: L) 13 = true) (hn : pc + 2 = n) (h : AW scr k mc ms M c0 s0 n (a0 :: a1 :: a2 :: a3 :: a4 :: a5 :: a6 :: a7 :: a8 :: a9 :: a10 :: a11 :: a12 :: some (.int x) :: L) st σ P) : AW scr k mc ms M c0 s0 pc (a0 :: a1 :: a2 :: a3 :: a4 :: a5 :: a6 :: a7 :: a8 :: a9 :: a10 :: a11 :: a12 :: a13 :: L) (.int x :: st) σ P := AW.istore hd hi hc rfl hn h
theorem AW.ast13 {a0 a1 a2 a3 a4 a5 a6 a7 a8 a9 a10 a11 a12 a13 : Option Value} {x : Nat} (hd : decode M.2.1 pc = .ok (.astore 13, 2)) (hi : 13 < M.2.2.1) (hc : a_ok (a0 :: a1 :: a2 :: a3 :: a4 :: a5 :: a6 :: a7 :: a8 :: a9 :: a10 :: a11 :: a12 :: a13 :: L) 13 = true) (hn : pc + 2 = n) (h : AW scr k mc ms M c0 s0 n (a0 :: a1 :: a2 :: a3 :: a4 :: a5 :: a6 :: a7 :: a8 :: a9 :: a10 :: a11 :: a12 :: some (.ref x) :: L) st σ P) : AW scr k mc ms M c0 s0 pc (a0 :: a1 :: a2 :: a3 :: a4 :: a5 :: a6 :: a7 :: a8 :: a9 :: a10 :: a11 :: a12 :: a13 :: L) (.ref x :: st) σ P := AW.astore hd hi hc rfl hn h
theorem AW.inc13 {a0 a1 a2 a3 a4 a5 a6 a7 a8 a9 a10 a11 a12 : Option Value} {x : Int32} (w : Int32) {d : Int} (hd : decode M.2.1 pc = .ok (.iinc 13 d, 3)) (hw : Int32.ofInt d = w) (hi : 13 < M.2.2.1) (hc : a_ok (a0 :: a1 :: a2 :: a3 :: a4 :: a5 :: a6 :: a7 :: a8 :: a9 :: a10 :: a11 :: a12 :: some (.int x) :: L) 13 = true) (hn : pc + 3 = n) (h : AW scr k mc ms M c0 s0 n (a0 :: a1 :: a2 :: a3 :: a4 :: a5 :: a6 :: a7 :: a8 :: a9 :: a10 :: a11 :: a12 :: some (.int (x + w)) :: L) st σ P) : AW scr k mc ms M c0 s0 pc (a0 :: a1 :: a2 :: a3 :: a4 :: a5 :: a6 :: a7 :: a8 :: a9 :: a10 :: a11 :: a12 :: some (.int x) :: L) st σ P := AW.iinc hd rfl (by rw [hw]) hi hc rfl hn h
theorem AW.ist14 {a0 a1 a2 a3 a4 a5 a6 a7 a8 a9 a10 a11 a12 a13 a14 : Option Value} {x : Int32} (hd : decode M.2.1 pc = .ok (.istore 14, 2)) (hi : 14 < M.2.2.1) (hc : a_ok (a0 :: a1 :: a2 :: a3 :: a4 :: a5 :: a6 :: a7 :: a8 :: a9 :: a10 :: a11 :: a12 :: a13 :: a14 :: L) 14 = true) (hn : pc + 2 = n) (h : AW scr k mc ms M c0 s0 n (a0 :: a1 :: a2 :: a3 :: a4 :: a5 :: a6 :: a7 :: a8 :: a9 :: a10 :: a11 :: a12 :: a13 :: some (.int x) :: L) st σ P) : AW scr k mc ms M c0 s0 pc (a0 :: a1 :: a2 :: a3 :: a4 :: a5 :: a6 :: a7 :: a8 :: a9 :: a10 :: a11 :: a12 :: a13 :: a14 :: L) (.int x :: st) σ P := AW.istore hd hi hc rfl hn h
theorem AW.ast14 {a0 a1 a2 a3 a4 a5 a6 a7 a8 a9 a10 a11 a12 a13 a14 : Option Value} {x : Nat} (hd : decode M.2.1 pc = .ok (.astore 14, 2)) (hi : 14 < M.2.2.1) (hc : a_ok (a0 :: a1 :: a2 :: a3 :: a4 :: a5 :: a6 :: a7 :: a8 :: a9 :: a10 :: a11 :: a12 :: a13 :: a14 :: L) 14 = true) (hn : pc + 2 = n) (h : AW scr k mc ms M c0 s0 n (a0 :: a1 :: a2 :: a3 :: a4 :: a5 :: a6 :: a7 :: a8 :: a9 :: a10 :: a11 :: a12 :: a13 :: some (.ref x) :: L) st σ P) : AW scr k mc ms M c0 s0 pc (a0 :: a1 :: a2 :: a3 :: a4 :: a5 :: a6 :: a7 :: a8 :: a9 :: a10 :: a11 :: a12 :: a13 :: a14 :: L) (.ref x :: st) σ P := AW.astore hd hi hc rfl hn h
theorem AW.inc14 {a0 a1 a2 a3 a4 a5 a6 a7 a8 a9 a10 a11 a12 a13 : Option Value} {x : Int32} (w : Int32) {d : Int} (hd : decode M.2.1 pc = .ok (.iinc 14 d, 3)) (hw : Int32.ofInt d = w) (hi : 14 < M.2.2.1) (hc : a_ok (a0 :: a1 :: a2 :: a3 :: a4 :: a5 :: a6 :: a7 :: a8 :: a9 :: a10 :: a11 :: a12 :: a13 :: some (.int x) :: L) 14 = true) (hn : pc + 3 = n) (h : AW scr k mc ms M c0 s0 n (a0 :: a1 :: a2 :: a3 :: a4 :: a5 :: a6 :: a7 :: a8 :: a9 :: a10 :: a11 :: a12 :: a13 :: some (.int (x + w)) :: L) st σ P) : AW scr k mc ms M c0 s0 pc (a0 :: a1 :: a2 :: a3 :: a4 :: a5 :: a6 :: a7 :: a8 :: a9 :: a10 :: a11 :: a12 :: a13 :: some (.int x) :: L) st σ P := AW.iinc hd rfl (by rw [hw]) hi hc rfl hn h
theorem AW.ist15 {a0 a1 a2 a3 a4 a5 a6 a7 a8 a9 a10 a11 a12 a13 a14 a15 : Option Value} {x : Int32} (hd : decode M.2.1 pc = .ok (.istore 15, 2)) (hi : 15 < M.2.2.1) (hc : a_ok (a0 :: a1 :: a2 :: a3 :: a4 :: a5 :: a6 :: a7 :: a8 :: a9 :: a10 :: a11 :: a12 :: a13 :: a14 :: a15 :: L) 15 = true) (hn : pc + 2 = n) (h : AW scr k mc ms M c0 s0 n (a0 :: a1 :: a2 :: a3 :: a4 :: a5 :: a6 :: a7 :: a8 :: a9 :: a10 :: a11 :: a12 :: a13 :: a14 :: some (.int x) :: L) st σ P) : AW scr k mc ms M c0 s0 pc (a0 :: a1 :: a2 :: a3 :: a4 :: a5 :: a6 :: a7 :: a8 :: a9 :: a10 :: a11 :: a12 :: a13 :: a14 :: a15 :: L) (.int x :: st) σ P := AW.istore hd hi hc rfl hn h
theorem AW.ast15 {a0 a1 a2 a3 a4 a5 a6 a7 a8 a9 a10 a11 a12 a13 a14 a15 : Option Value} {x : Nat} (hd : decode M.2.1 pc = .ok (.astore 15, 2)) (hi : 15 < M.2.2.1) (hc : a_ok (a0 :: a1 :: a2 :: a3 :: a4 :: a5 :: a6 :: a7 :: a8 :: a9 :: a10 :: a11 :: a12 :: a13 :: a14 :: a15 :: L) 15 = true) (hn : pc + 2 = n) (h : AW scr k mc ms M c0 s0 n (a0 :: a1 :: a2 :: a3 :: a4 :: a5 :: a6 :: a7 :: a8 :: a9 :: a10 :: a11 :: a12 :: a13 :: a14 :: some (.ref x) :: L) st σ P) : AW scr k mc ms M c0 s0 pc (a0 :: a1 :: a2 :: a3 :: a4 :: a5 :: a6 :: a7 :: a8 :: a9 :: a10 :: a11 :: a12 :: a13 :: a14 :: a15 :: L) (.ref x :: st) σ P := AW.astore hd hi hc rfl hn h
theorem AW.inc15 {a0 a1 a2 a3 a4 a5 a6 a7 a8 a9 a10 a11 a12 a13 a14 : Option Value} {x : Int32} (w : Int32) {d : Int} (hd : decode M.2.1 pc = .ok (.iinc 15 d, 3)) (hw : Int32.ofInt d = w) (hi : 15 < M.2.2.1) (hc : a_ok (a0 :: a1 :: a2 :: a3 :: a4 :: a5 :: a6 :: a7 :: a8 :: a9 :: a10 :: a11 :: a12 :: a13 :: a14 :: some (.int x) :: L) 15 = true) (hn : pc + 3 = n) (h : AW scr k mc ms M c0 s0 n (a0 :: a1 :: a2 :: a3 :: a4 :: a5 :: a6 :: a7 :: a8 :: a9 :: a10 :: a11 :: a12 :: a13 :: a14 :: some (.int (x + w)) :: L) st σ P) : AW scr k mc ms M c0 s0 pc (a0 :: a1 :: a2 :: a3 :: a4 :: a5 :: a6 :: a7 :: a8 :: a9 :: a10 :: a11 :: a12 :: a13 :: a14 :: some (.int x) :: L) st σ P := AW.iinc hd rfl (by rw [hw]) hi hc rfl hn h
end Pat
