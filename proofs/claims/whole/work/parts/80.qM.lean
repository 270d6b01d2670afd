def ceq (c c' : aC) : Prop := c' = c ∨ ∃ (t N : Nat) (f f' : Nat → Option Nat), c = .inl (t, N, .inr (.inr (.inr (.inr f)))) ∧ c' = .inl (t, N, .inr (.inr (.inr (.inr f')))) ∧ ∀ j, j < N → f' j = f j
theorem a_R.cg {G : aG} {σ σ' : aS} {H : Heap} (h1 : σ'.1 = σ.1) (h : ∀ i, i < σ.1 → ceq (σ.2 i) (σ'.2 i)) (hR : a_R G σ H) : a_R G σ' H := by
  refine ⟨by rw [h1]; exact hR.1, fun k q hq => ?_⟩
  obtain ⟨hk, rfl⟩ := a_ws_inv hq
  rw [h1] at hk
  have h0 := hR.at hk (rfl : σ.2 k = σ.2 k)
  rcases h k hk with e | ⟨t, N, f, f', e1, e2, e3⟩
  · rw [e]; exact h0
  · rw [e1] at h0
    rw [e2]
    have ef : (Array.ofFn (n := N) fun j => va_rf (a_f G f' j.val)) = Array.ofFn (n := N) fun j => va_rf (a_f G f j.val) := by
      congr 1
      funext j
      unfold a_f
      rw [e3 j.val j.isLt]
    show H[G.2.2.1 + k]? = some (arrV (G.2.1 t) N (fun j => va_rf (a_f G f' j)))
    unfold arrV
    rw [ef]
    exact h0
theorem AW.eqv {scr : Option (Nat × (Nat → Int32))} {k mc ms : Nat} {M : aM} {c0 s0 pc : Nat} {L : List (Option Value)} {st : List Value} {σ σ' : aS} {P : Option Value → aS → Prop} (h1 : σ'.1 = σ.1) (h2 : ∀ i, i < σ.1 → ceq (σ.2 i) (σ'.2 i)) (h : AW scr k mc ms M c0 s0 pc L st σ' P) : AW scr k mc ms M c0 s0 pc L st σ P :=
  fun p l e R s m args below meth c H locs Q ls G C hR hS hL K => h p l e R s m args below meth c H locs Q ls G C (hR.cg h1 h2) hS hL K
def μz : Me := fun a => if a = 1 then (fun i => if i = 3 then -1 else 0) else if a = 136 then (fun i => if i = 18 then -1 else 0) else if (a = 18 ∨ a = 21 ∨ a = 25 ∨ a = 129 ∨ a = 133 ∨ (31 ≤ a ∧ a < 120 ∧ (a - 30) % 3 = 1)) then o7 else fun _ => 0
theorem mz_1 {a : Nat} (h : 31 ≤ a ∧ a < 120 ∧ (a - 30) % 3 = 1) : μz a = o7 := by
  unfold μz
  rw [if_neg (by omega), if_neg (by omega), if_pos (by omega)]
theorem mz_0 {a : Nat} (h : 30 ≤ a ∧ a < 120 ∧ ¬ (a - 30) % 3 = 1) : μz a = fun _ => 0 := by
  unfold μz
  rw [if_neg (by omega), if_neg (by omega), if_neg (by omega)]
def aL (g : Nat → aC) (L : List aC) (b : Nat) : Prop := ∀ j c, L[j]? = some c → ceq c (wd μz g (b + j))
theorem aL.nil {g : Nat → aC} {b : Nat} : aL g [] b := fun j c h => by simp at h
theorem aL.cons {g : Nat → aC} {L : List aC} {c : aC} {b : Nat} (h1 : ceq c (wd μz g b)) (h2 : aL g L (b + 1)) : aL g (c :: L) b := by
  intro j d hd
  cases j with
  | zero => cases hd; exact h1
  | succ j => rw [show b + (j + 1) = b + 1 + j by omega]; exact h2 j d hd
theorem aL.app {g : Nat → aC} {L L' : List aC} {b : Nat} (h1 : aL g L b) {b' : Nat} (hb : b + L.length = b') (h2 : aL g L' b') : aL g (L ++ L') b := by
  intro j d hd
  by_cases hj : j < L.length
  · rw [List.getElem?_append_left hj] at hd; exact h1 j d hd
  · rw [List.getElem?_append_right (by omega)] at hd
    rw [show b + j = b' + (j - L.length) by omega]
    exact h2 _ d hd
theorem aL.days {g : Nat → aC} {a : Nat} (hs : sD a) (h0 : μz a = fun _ => 0) (h1 : μz (a + 1) = o7) (h2 : μz (a + 2) = fun _ => 0) : aL g (xC1 a) a := by
  refine aL.cons (Or.inl ?_) (aL.cons (Or.inl ?_) (aL.cons (Or.inl ?_) aL.nil))
  · rw [wd_at hs.1]
    show (.inr (1, [.ref (a + 1), .ref (a + 2), .int (μz a 2), .int (μz a 3), .int (μz a 4)]) : aC) = _
    rw [h0]
  · rw [wd_at hs.2.1]
    show (.inl (0, 7, .inl (μz (a + 1))) : aC) = _
    rw [h1]
  · rw [show a + 1 + 1 = a + 2 from rfl, wd_at hs.2.2]
    show (.inl (0, 7, .inl (μz (a + 2))) : aC) = _
    rw [h2]
theorem aL.dlx {g : Nat → aC} : ∀ i, i ≤ 30 → aL g (dl 30 i) 30 := by
  intro i
  induction i with
  | zero => intro _; exact aL.nil
  | succ i ih =>
    intro hi
    rw [dl]
    exact (ih (by omega)).app (by rw [dl_len]) (aL.days (sD_p (by omega)) (mz_0 (by omega)) (mz_1 (by omega)) (mz_0 (by omega)))
set_option maxRecDepth 100000 in
theorem aL.c3 {g : Nat → aC} : aL g (xC3 (0 + 28)) 28 := by
  refine aL.cons (Or.inl rfl) (aL.cons (Or.inr ⟨2, 30, _, fun j => some (30 + 3 * j), rfl, rfl, fun j hj => ?_⟩) (aL.dlx 30 (Nat.le_refl _)))
  unfold pf
  rw [if_pos hj]
set_option maxRecDepth 100000 in
theorem aL.c7 {g : Nat → aC} : aL g (xC7 (0 + 1)) 1 := aL.cons (Or.inl rfl) (aL.cons (Or.inl rfl) aL.nil)
set_option maxRecDepth 100000 in
theorem aL.c6a {g : Nat → aC} : aL g (xC6 (0 + 3)) 3 := aL.cons (Or.inl rfl) (aL.cons (Or.inl rfl) (aL.cons (Or.inl rfl) (aL.cons (Or.inl rfl) (aL.cons (Or.inl rfl) (aL.cons (Or.inl rfl) (aL.cons (Or.inl rfl) aL.nil))))))
set_option maxRecDepth 100000 in
theorem aL.c6b {g : Nat → aC} : aL g (xC6 (0 + 10)) 10 := aL.cons (Or.inl rfl) (aL.cons (Or.inl rfl) (aL.cons (Or.inl rfl) (aL.cons (Or.inl rfl) (aL.cons (Or.inl rfl) (aL.cons (Or.inl rfl) (aL.cons (Or.inl rfl) aL.nil))))))
theorem aL.c1 {g : Nat → aC} : aL g (xC1 (0 + 17)) 17 ∧ aL g (xC1 (0 + 20)) 20 ∧ aL g (xC1 24) 24 ∧ aL g (xC1 128) 128 ∧ aL g (xC1 132) 132 := ⟨aL.days sD_17 rfl rfl rfl, aL.days sD_20 rfl rfl rfl, aL.days sD_24 rfl rfl rfl, aL.days sD_128 rfl rfl rfl, aL.days sD_132 rfl rfl rfl⟩
set_option maxRecDepth 100000 in
theorem aL.c8 {g : Nat → aC} : aL g (xC8 (0 + 23)) 23 := aL.cons (Or.inl rfl) (aL.app aL.c1.2.2.1 rfl (aL.cons (Or.inl rfl) aL.nil))
set_option maxRecDepth 100000 in
theorem aL.c5 {g : Nat → aC} : aL g (xC5 (0 + 120)) 120 := aL.cons (Or.inl rfl) (aL.cons (Or.inl rfl) (aL.cons (Or.inl rfl) aL.nil))
set_option maxRecDepth 100000 in
theorem aL.c0 {g : Nat → aC} : aL g (xC0 (0 + 123)) 123 := aL.cons (Or.inl rfl) (aL.cons (Or.inl rfl) (aL.cons (Or.inl rfl) aL.nil))
set_option maxRecDepth 100000 in
theorem aL.c2 {g : Nat → aC} : aL g (xC2 (0 + 127)) 127 ∧ aL g (xC2 (0 + 131)) 131 := ⟨aL.cons (Or.inl rfl) aL.c1.2.2.2.1, aL.cons (Or.inl rfl) aL.c1.2.2.2.2⟩
set_option maxRecDepth 100000 in
theorem aL.c9 {g : Nat → aC} : aL g xC9 0 := by
  refine aL.cons (Or.inl rfl) (aL.app (aL.app (aL.app (aL.app (aL.app (aL.app (aL.app (aL.app (aL.app (aL.app (aL.app (aL.app aL.c7 (b' := 3) rfl aL.c6a) (b' := 10) rfl aL.c6b) (b' := 17) rfl aL.c1.1) (b' := 20) rfl aL.c1.2.1) (b' := 23) rfl aL.c8) (b' := 28) rfl aL.c3) (b' := 120) ?_ aL.c5) (b' := 123) ?_ aL.c0) (b' := 126) ?_ (aL.cons (Or.inr ⟨3, 2, _, fun j => some (127 + 4 * j), rfl, rfl, fun j hj => ?_⟩) aL.nil)) (b' := 127) ?_ aL.c2.1) (b' := 131) ?_ aL.c2.2) (b' := 135) ?_ (aL.cons (Or.inl rfl) aL.nil))
  · simp [xc_len, xC3_len]
  · simp [xc_len, xC3_len]
  · simp [xc_len, xC3_len]
  · rcases (show j = 0 ∨ j = 1 by omega) with rfl | rfl <;> rfl
  · simp [xc_len, xC3_len]
  · simp [xc_len, xC3_len]
  · simp [xc_len, xC3_len]
theorem xC9_len : xC9.length = 136 := by simp [xC9, xc_len, xC3_len]
set_option maxRecDepth 100000 in
theorem aL.c10 {g : Nat → aC} : aL g xC10 136 := by
  unfold xC10
  exact aL.cons (Or.inl rfl) (aL.cons (Or.inl rfl) (aL.cons (Or.inl rfl) (aL.cons (Or.inl rfl) (aL.cons (Or.inl rfl) (aL.cons (Or.inl rfl) (aL.cons (Or.inl rfl) (aL.cons (Or.inl rfl) (aL.cons (Or.inl rfl) (aL.cons (Or.inl rfl) (aL.cons (Or.inl rfl) (aL.cons (Or.inl rfl) (aL.cons (Or.inl rfl) (aL.cons (Or.inl rfl) (aL.cons (Or.inl rfl) (aL.cons (Or.inl rfl) (aL.cons (Or.inl rfl) (aL.cons (Or.inl rfl) (aL.nil))))))))))))))))))
theorem start_w {scr : Option (Nat × (Nat → Int32))} {k mc ms : Nat} {M : aM} {c0 s0 pc : Nat} {L : List (Option Value)} {st : List Value} {h : Nat → aC} {P : Option Value → aS → Prop} (hh : AW scr k mc ms M c0 s0 pc L st (wS μz (0, h)) P) : AW scr k mc ms M c0 s0 pc L st (zS h 0 (xC9 ++ xC10)) P := by
  have hl : (xC9 ++ xC10).length = 154 := by rw [List.length_append, xC9_len]; rfl
  have e1 : (zS h 0 (xC9 ++ xC10)).1 = 154 := by show 0 + (xC9 ++ xC10).length = 154; rw [hl]
  refine AW.eqv (by rw [e1]; rfl) (fun i hi => ?_) hh
  rw [e1] at hi
  have hA : aL h (xC9 ++ xC10) 0 := aL.c9.app (by rw [xC9_len]) aL.c10
  obtain ⟨c, hc⟩ : ∃ c, (xC9 ++ xC10)[i]? = some c := ⟨_, List.getElem?_eq_getElem (by omega)⟩
  have e2 : (zS h 0 (xC9 ++ xC10)).2 i = c := by
    have := zS_at (h := h) (a := 0) hc
    rw [Nat.zero_add] at this
    exact this
  rw [e2]
  have := hA i c hc
  rw [Nat.zero_add] at this
  exact this
theorem Rel.start : Rel μz μz 0 0 := by
  refine ⟨⟨?_, ⟨rfl, rfl, rfl, rfl, rfl⟩, fun s hs => absurd hs (Nat.not_lt_zero _), fun s hs => absurd hs (Nat.not_lt_zero _), fun s hs => absurd hs (Nat.not_lt_zero _)⟩, rfl, ⟨0, by omega, rfl, rfl, fun s hs => absurd hs (Nat.not_lt_zero _)⟩, ⟨⟨fun hp => absurd hp (Nat.lt_irrefl _), rfl, rfl, rfl⟩, fun s hs => absurd hs (Nat.not_lt_zero _), ⟨0, by omega, rfl, rfl⟩, fun s hs => absurd hs (Nat.not_lt_zero _)⟩, ⟨0, 0, by omega, by omega, rfl, rfl, rfl, fun s hs => absurd hs (Nat.not_lt_zero _)⟩, ?_, ⟨0, by omega, rfl, rfl, fun s hs => absurd hs (Nat.not_lt_zero _)⟩, ⟨0, by omega, rfl, rfl, fun s hs => absurd hs (Nat.not_lt_zero _)⟩, ?_⟩
  · exact ⟨rfl, by omega, rfl, by omega, ⟨0, 0, 0, rfl, by omega, rfl, by omega, rfl, by omega⟩, fun s hs => absurd hs (Nat.not_lt_zero _), fun s hs => absurd hs (Nat.not_lt_zero _)⟩
  · intro i hi
    have e : μz 138 i = 0 := rfl
    rcases (show i = 0 ∨ i = 1 by omega) with rfl | rfl
    · exact ⟨rfl, fun q => absurd e q⟩
    · exact ⟨rfl, fun q => absurd e q⟩
  · intro s hs
    refine ⟨?_, rfl⟩
    show o7 s = 1
    unfold o7
    rw [if_pos hs]
