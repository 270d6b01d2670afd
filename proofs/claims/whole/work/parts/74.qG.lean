def Rc (μ : Me) (hs : Int32) (k c : Nat) (f : Nat → Int32) (B : sB3) (g : Nat → Int32) (B' : sB3) : Prop := ∀ r, mB2 μ hs k (r + c + 1) B f = (nx g k).elim B' (fun g' => mB2 μ hs k r B' g')
theorem Rc.one {μ : Me} {hs : Int32} {k : Nat} {f : Nat → Int32} {B : sB3} : Rc μ hs k 0 f B f (uB μ hs k B f) := by
  intro r
  rw [Nat.add_zero, mB2]
theorem Rc.comp {μ : Me} {hs : Int32} {k c1 c2 : Nat} {f g f2 g2 : Nat → Int32} {B B1 B2 : sB3} (h1 : Rc μ hs k c1 f B g B1) (e : nx g k = some f2) (h2 : Rc μ hs k c2 f2 B1 g2 B2) : Rc μ hs k (c1 + c2 + 1) f B g2 B2 := by
  intro r
  rw [show r + (c1 + c2 + 1) + 1 = (r + c2 + 1) + c1 + 1 by omega, h1 (r + c2 + 1), e]
  exact h2 r
theorem vS_split {f : Nat → Int32} {a k : Nat} {x : Int32} (h : a < k) : vS f a k x ↔ f a = x ∨ vS f (a + 1) k x := by
  constructor
  · rintro ⟨t, q1, q2, q3⟩
    by_cases e : t = a
    · subst e; exact Or.inl q3
    · exact Or.inr ⟨t, by omega, q2, q3⟩
  · rintro (q | ⟨t, q1, q2, q3⟩)
    · exact ⟨a, Nat.le_refl _, h, q⟩
    · exact ⟨t, by omega, q2, q3⟩
theorem pW_cg {μ : Me} {hs : Int32} {f f' : Nat → Int32} : ∀ i, (∀ t, t < i → f' t = f t) → pW μ hs f' i = pW μ hs f i := by
  intro i
  induction i with
  | zero => intro _; rfl
  | succ i ih => intro h; rw [pW, pW, ih (fun t q => h t (by omega)), h i (by omega)]
theorem wOf_cg {f f' : Nat → Int32} : ∀ i, (∀ t, t < i → f' t = f t) → mWOf f' i = mWOf f i := by
  intro i
  induction i with
  | zero => intro _; rfl
  | succ i ih => intro h; rw [mWOf, mWOf, ih (fun t q => h t (by omega)), h i (by omega)]
theorem bits_next {f : Nat → Int32} {op used : Int32} {n z dp s : Nat} (h7 : n ≤ 7) (hz : z ≤ 7) (hdp : dp < z) (hr : rOk f z n) (hs : s < n) (es : f dp = nI s) (hb : ∀ q, q < n → (sBit (op &&& (used ^^^ (-1))) (nI q) = true ↔ vS f dp z (nI q))) : ∀ q, q < n → (sBit (op &&& ((used ||| ((1 : Int32) <<< (nI s &&& 31))) ^^^ (-1))) (nI q) = true ↔ vS f (dp + 1) z (nI q)) := by
  intro q hq
  rw [bit_rest (by omega) (by omega), Bool.and_eq_true, hb q hq, vS_split hdp]
  constructor
  · rintro ⟨w | w, w2⟩
    · exfalso
      rw [es] at w
      have := (nI_eq (a := s) (b := q) (by omega) (by omega)).mp w
      subst this
      simp at w2
    · exact w
  · intro w
    refine ⟨Or.inr w, ?_⟩
    obtain ⟨t, q1, q2, q3⟩ := w
    have : ¬ q = s := fun e => by
      subst e
      have := hr.2 t dp q2 hdp (q3.trans es.symm)
      omega
    rw [decide_eq_false this]; rfl
theorem ext_run {μ : Me} {hs op : Int32} {n z : Nat} (h7 : n ≤ 7) (hz : z ≤ 7) : ∀ (m dp r : Nat) (f : Nat → Int32) (B : sB3) (used : Int32), m + dp = z → m < r → rOk f z n → aSc f dp z → (∀ s, s < n → (sBit (op &&& (used ^^^ (-1))) (nI s) = true ↔ vS f dp z (nI s))) → ∃ (c : Nat) (g : Nat → Int32), c + 1 ≤ 7 ^ m ∧ Rc μ hs z c f B g (sExt0 μ n hs op (nI z) r dp used (pW μ hs f dp).1 (pW μ hs f dp).2.1 (pW μ hs f dp).2.2 (mWOf f dp) B) ∧ dSc g dp z ∧ rOk g z n ∧ (∀ t, t < dp → g t = f t) ∧ (∀ x, vS g dp z x ↔ vS f dp z x) := by
  intro m
  induction m with
  | zero =>
    intro dp r f B used hm hr hf ha hb
    obtain ⟨r, rfl⟩ : ∃ r', r = r' + 1 := ⟨r - 1, by omega⟩
    have e : dp = z := by omega
    subst e
    rw [sExt0, if_pos (Int32.le_refl _)]
    exact ⟨0, f, by decide, Rc.one, fun s t q1 q2 q3 => by omega, hf, fun _ _ => rfl, fun _ => Iff.rfl⟩
  | succ m ih =>
    intro dp r f B used hm hr hf ha hb
    obtain ⟨r, rfl⟩ : ∃ r', r = r' + 1 := ⟨r - 1, by omega⟩
    have hdz : dp < z := by omega
    rw [sExt0, if_neg (fun w => by have := (nI_leI (a := z) (b := dp) (by omega) (by omega)).mp w; omega)]
    have step : ∀ s, s ≤ n → ((∀ q, q < s → ¬ vS f dp z (nI q)) ∧ sFold (sF μ hs op (fun used' yd' sc' gv' rw' B' => sExt0 μ n hs op (nI z) r (dp + 1) used' yd' sc' gv' rw' B') dp used (pW μ hs f dp).1 (pW μ hs f dp).2.1 (pW μ hs f dp).2.2 (mWOf f dp)) s B = B) ∨ ∃ (c : Nat) (g : Nat → Int32) (p : Nat), c + 1 ≤ s * 7 ^ m ∧ Rc μ hs z c f B g (sFold (sF μ hs op (fun used' yd' sc' gv' rw' B' => sExt0 μ n hs op (nI z) r (dp + 1) used' yd' sc' gv' rw' B') dp used (pW μ hs f dp).1 (pW μ hs f dp).2.1 (pW μ hs f dp).2.2 (mWOf f dp)) s B) ∧ dSc g (dp + 1) z ∧ rOk g z n ∧ (∀ t, t < dp → g t = f t) ∧ (∀ x, vS g dp z x ↔ vS f dp z x) ∧ p < s ∧ g dp = nI p ∧ ∀ q, q < s → vS f dp z (nI q) → q ≤ p := by
      intro s
      induction s with
      | zero => intro _; exact Or.inl ⟨fun q h => absurd h (Nat.not_lt_zero _), rfl⟩
      | succ s ihs =>
        intro hs1
        have H := ihs (by omega)
        rw [sFold]
        generalize sFold (sF μ hs op (fun used' yd' sc' gv' rw' B' => sExt0 μ n hs op (nI z) r (dp + 1) used' yd' sc' gv' rw' B') dp used (pW μ hs f dp).1 (pW μ hs f dp).2.1 (pW μ hs f dp).2.2 (mWOf f dp)) s B = C at H ⊢
        unfold sF
        by_cases hv : vS f dp z (nI s)
        · rw [if_pos ((hb s (by omega)).mpr hv)]
          have run : ∀ f', rOk f' z n → aSc f' (dp + 1) z → (∀ t, t < dp → f' t = f t) → f' dp = nI s → (∀ x, vS f' dp z x ↔ vS f dp z x) → ∃ (c : Nat) (g : Nat → Int32), c + 1 ≤ 7 ^ m ∧ Rc μ hs z c f' C g (sExt0 μ n hs op (nI z) r (dp + 1) (used ||| ((1 : Int32) <<< (nI s &&& 31))) (μ 11 s) (sGone μ hs dp (pW μ hs f dp).1 (pW μ hs f dp).2.1 s) (sGot μ hs dp (pW μ hs f dp).1 (pW μ hs f dp).2.1 (pW μ hs f dp).2.2 s) (mWOf f dp * 10 + nI s + 1) C) ∧ dSc g (dp + 1) z ∧ rOk g z n ∧ (∀ t, t < dp → g t = f t) ∧ (∀ x, vS g dp z x ↔ vS f dp z x) ∧ g dp = nI s := by
            intro f' r1 r2 r3 r4 r5
            obtain ⟨c, g, g1, g2, g3, g4, g5, g6⟩ := ih (dp + 1) r f' C (used ||| ((1 : Int32) <<< (nI s &&& 31))) (by omega) (by omega) r1 r2 (bits_next h7 hz hdz r1 (by omega) r4 (fun q hq => (hb q hq).trans (r5 _).symm))
            rw [pW, mWOf, r4, cl_nI (by omega), pW_cg dp r3, wOf_cg dp r3, Int32.mul_comm 10] at g2
            have gd : g dp = nI s := (g5 dp (by omega)).trans r4
            refine ⟨c, g, g1, g2, g3, g4, fun t ht => (g5 t (by omega)).trans (r3 t ht), fun x => ?_, gd⟩
            rw [← r5 x, vS_split hdz, vS_split hdz, g6 x, gd, r4]
          rcases H with ⟨hA, hC⟩ | ⟨c, g, p, k1, k2, k3, k4, k5, k6, k7, k8, k9⟩
          · have ed : f dp = nI s := by
              obtain ⟨t, q1, q2, q3⟩ := hv
              by_cases e : t = dp
              · rw [← e]; exact q3
              · obtain ⟨q0, hq0, eq0⟩ := hf.1 dp hdz
                have lt := ha dp t (Nat.le_refl _) (by omega) q2
                rw [q3, eq0] at lt
                have := (nI_ltI (a := q0) (b := s) (by omega) (by omega)).mp lt
                exact absurd ⟨dp, Nat.le_refl _, hdz, eq0⟩ (hA q0 this)
            obtain ⟨c, g, g1, g2, g3, g4, g5, g6, g7⟩ := run f hf (fun a b q1 q2 q3 => ha a b (by omega) q2 q3) (fun _ _ => rfl) ed (fun _ => Iff.rfl)
            rw [hC] at g2 ⊢
            refine Or.inr ⟨c, g, s, ?_, g2, g3, g4, g5, g6, by omega, g7, fun q hq _ => by omega⟩
            rw [Nat.add_mul]; omega
          · obtain ⟨t, q1, q2, q3⟩ := (k6 _).mpr hv
            have htd : t ≠ dp := fun e => by
              subst e
              rw [k8] at q3
              have := (nI_eq (a := p) (b := s) (by omega) (by omega)).mp q3
              omega
            have hlt : g dp < g (dp + 1) := by
              rw [k8]
              by_cases e : t = dp + 1
              · rw [← e, q3]; exact nI_lt k7 (by omega)
              · have := k3 (dp + 1) t (Nat.le_refl _) (by omega) q2
                rw [q3] at this
                exact Int32.lt_trans (nI_lt k7 (by omega)) this
            obtain ⟨f', J, n1, n2, n3, n4, n5, n6, n7, n8, n9⟩ := nx_go (f := g) (k := z) (p := dp) hz (by omega) k3 hlt
            have r1 := k4.nxt n1
            have eJ : g J = nI s := by
              obtain ⟨q, hq, eq⟩ := k4.1 J n3
              have hpq : p < q := by
                rw [k8, eq] at n6
                have h1 := (nI_leI (a := p) (b := q) (by omega) (by omega)).mp n6
                rcases Nat.eq_or_lt_of_le h1 with e | e
                · exfalso
                  have := k4.2 dp J hdz n3 (by rw [k8, eq, e])
                  omega
                · exact e
              have hqs : q ≤ s := by
                have := n7 t (by omega) q2 (by rw [k8, q3]; exact nI_le (by omega) (by omega))
                rw [eq, q3] at this
                exact (nI_leI (a := q) (b := s) (by omega) (by omega)).mp this
              have hqs2 : ¬ q < s := fun w => by
                have := k9 q w ((k6 _).mp ⟨J, by omega, n3, eq⟩)
                omega
              rw [eq, show q = s by omega]
            obtain ⟨c2, g', g1, g2, g3, g4, g5, g6, g7⟩ := run f' r1 n8 (fun t ht => (n4 t ht).trans (k5 t ht)) (n5.trans eJ) (fun x => (n9 x).trans (k6 x))
            refine Or.inr ⟨c + c2 + 1, g', s, ?_, k2.comp n1 g2, g3, g4, g5, g6, by omega, g7, fun q hq _ => by omega⟩
            rw [Nat.add_mul]; omega
        · rw [if_neg (fun w => hv ((hb s (by omega)).mp w))]
          rcases H with ⟨hA, hC⟩ | ⟨c, g, p, k1, k2, k3, k4, k5, k6, k7, k8, k9⟩
          · refine Or.inl ⟨fun q hq w => ?_, hC⟩
            by_cases e : q = s
            · subst e; exact hv w
            · exact hA q (by omega) w
          · refine Or.inr ⟨c, g, p, ?_, k2, k3, k4, k5, k6, by omega, k8, fun q hq w => ?_⟩
            · rw [Nat.add_mul]; omega
            · by_cases e : q = s
              · subst e; exact absurd w hv
              · exact k9 q (by omega) w
    rcases step n (Nat.le_refl _) with ⟨hA, -⟩ | ⟨c, g, p, k1, k2, k3, k4, k5, k6, k7, k8, k9⟩
    · obtain ⟨q0, hq0, eq0⟩ := hf.1 dp hdz
      exact absurd ⟨dp, Nat.le_refl _, hdz, eq0⟩ (hA q0 hq0)
    · refine ⟨c, g, ?_, k2, ?_, k4, k5, k6⟩
      · rw [Nat.pow_succ, Nat.mul_comm]
        exact Nat.le_trans k1 (Nat.mul_le_mul_right _ h7)
      · intro a b q1 q2 q3
        by_cases e : a = dp
        · subst e
          obtain ⟨q, hq, eq⟩ := k4.1 b q3
          have hqp := k9 q hq ((k6 _).mp ⟨b, by omega, q3, eq⟩)
          have hne : q ≠ p := fun w => by
            have := k4.2 a b hdz q3 (by rw [k8, eq, w])
            omega
          rw [k8, eq]
          exact nI_lt (by omega) (by omega)
        · exact k3 a b (by omega) q2 q3
