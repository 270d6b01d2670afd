def sExt0 (μ : Me) (n : Nat) (hs op sz : Int32) : Nat → Nat → Int32 → Int32 → Int32 → Int32 → Int32 → sB3 → sB3
  | 0, _, _, _, _, _, _, B => B
  | r + 1, dp, used, yd, sc, gv, rw, B =>
    if sz ≤ nI dp then (if sBeat B.2.1 B.2.2 gv (sc + sBetw μ 10 yd 0) then (rw, gv, sc + sBetw μ 10 yd 0) else B)
    else sFold (sF μ hs op (fun used' yd' sc' gv' rw' B' => sExt0 μ n hs op sz r (dp + 1) used' yd' sc' gv' rw' B') dp used yd sc gv rw) n B
def cG (μ : Me) (n : Nat) : Prop := n ≤ 7 ∧ (∃ r0 r1 r2 : Nat, μ 10 0 = nI r0 ∧ r0 ≤ 90 ∧ μ 10 1 = nI r1 ∧ r1 ≤ 99 ∧ μ 10 2 = nI r2 ∧ r2 ≤ 30) ∧ ∀ s, s < n → ∃ y : Nat, μ 11 s = nI y ∧ y ≤ 99
theorem RS.cG {μ ν : Me} {n d : Nat} (h : RS μ ν n d) : cG μ n := by
  obtain ⟨⟨a1, a2, a3, a4, ⟨r0, r1, r2, e0, h0, e1, h1, e2, h2⟩, a6, a7⟩, ⟨-, -, b0, b1, b2⟩, c, -⟩ := h
  exact ⟨a2, ⟨r0, r1, r2, b0.trans e0, h0, b1.trans e1, h1, b2.trans e2, h2⟩, fun s hs => by obtain ⟨y, ey, hy⟩ := a6 s hs; exact ⟨y, (c s hs).1.trans ey, hy⟩⟩
theorem abs_d {a b : Nat} (ha : a ≤ 99) (hb : b ≤ 99) : ∃ c : Nat, sAbs (nI a - nI b) = nI c ∧ c ≤ 99 ∧ a ≤ c + b := by
  rw [abs_far ha hb]
  unfold sFar
  rcases Nat.le_total a b with q | q
  · rw [if_pos (nI_le q (by omega)), pk_sub q]; exact ⟨b - a, rfl, by omega, by omega⟩
  · by_cases e : a = b
    · subst e; rw [if_pos (nI_le q (by omega)), pk_sub q]; exact ⟨a - a, rfl, by omega, by omega⟩
    · rw [if_neg (fun w => by have := (nI_leI (a := a) (b := b) (by omega) (by omega)).mp w; omega), pk_sub q]; exact ⟨a - b, rfl, by omega, by omega⟩
def nW (dp : Nat) (yd sc gv : Int32) : Prop := ∃ y t a : Nat, yd = nI y ∧ y ≤ 99 ∧ sc = nI t ∧ t ≤ 10000 * dp ∧ gv = nI a ∧ a ≤ dp
theorem nW.child {μ : Me} {n dp s : Nat} {hs yd sc gv : Int32} (hg : cG μ n) (hd : dp < 7) (h : nW dp yd sc gv) (hsn : s < n) : nW (dp + 1) (μ 11 s) (sGone μ hs dp yd sc s) (sGot μ hs dp yd sc gv s) ∧ sGot μ hs dp yd sc gv s ≤ gv + 1 ∧ sc + sBetw μ 10 yd 0 ≤ sGone μ hs dp yd sc s + sBetw μ 10 (μ 11 s) 0 := by
  obtain ⟨y, t, a, rfl, hy, rfl, ht, rfl, ha⟩ := h
  obtain ⟨-, ⟨r0, r1, r2, e0, h0, e1, h1, e2, h2⟩, hy1⟩ := hg
  obtain ⟨y1, ey1, hy1⟩ := hy1 s hsn
  obtain ⟨c, ec, hc, hcy⟩ := abs_d hy hy1
  have eT : sTh μ (nI y) (nI t) s = nI (t + c * r1) := by unfold sTh sBetw; rw [ey1, ec, e1, pk_mul, nI_add]
  have hcr : c * r1 ≤ 99 * 99 := Nat.mul_le_mul hc h1
  have eG : ∃ e : Nat, e ≤ 120 ∧ sGone μ hs dp (nI y) (nI t) s = nI (t + c * r1 + e) := by
    unfold sGone sDoor
    rw [eT, e0, e2]
    generalize sRings (nI (dp + 1)) hs = rg
    generalize sBec μ hs dp (nI y) (nI t) s = bc
    by_cases k2 : bc = 2
    · rw [if_pos k2]
      cases rg with
      | true => exact ⟨r0, by omega, by rw [if_pos rfl, show (0 : Int32) = nI 0 from rfl, nI_add, nI_add]; rfl⟩
      | false => exact ⟨0, by omega, by rw [if_neg (by decide), show (0 : Int32) = nI 0 from rfl, nI_add, nI_add]⟩
    · rw [if_neg k2]
      cases rg with
      | true => exact ⟨r0 + r2, by omega, by rw [if_pos rfl, nI_add, nI_add]⟩
      | false => exact ⟨r2, by omega, by rw [if_neg (by decide), show (0 : Int32) = nI 0 from rfl, nI_add, nI_add, Nat.zero_add]⟩
  obtain ⟨e, he, eG⟩ := eG
  have eO : (∃ a' : Nat, sGot μ hs dp (nI y) (nI t) (nI a) s = nI a' ∧ a' ≤ a + 1) := by
    unfold sGot
    split
    · exact ⟨a + 1, nI_1 a, Nat.le_refl _⟩
    · exact ⟨a, rfl, by omega⟩
  obtain ⟨a', ea', ha'⟩ := eO
  have hyr : y * r1 ≤ c * r1 + y1 * r1 := by rw [← Nat.add_mul]; exact Nat.mul_le_mul_right _ hcy
  have hyr1 : y1 * r1 ≤ 99 * 99 := Nat.mul_le_mul hy1 h1
  refine ⟨⟨y1, t + c * r1 + e, a', ey1, hy1, eG, by omega, ea', by omega⟩, ?_, ?_⟩
  · rw [ea', nI_1]; exact nI_le ha' (by omega)
  · unfold sBetw
    rw [eG, ey1, abs_n hy, abs_n hy1, e1, pk_mul, pk_mul, nI_add, nI_add]
    exact nI_le (by omega) (by omega)
theorem beat_mono {hd bk mo so mo' so' : Int32} (h : ¬ sBeat hd bk mo so = true) (h1 : mo' ≤ mo) (h2 : so ≤ so') : ¬ sBeat hd bk mo' so' = true := by
  unfold sBeat at h ⊢
  simp only [Bool.or_eq_true, Bool.and_eq_true, decide_eq_true_iff, Bool.not_eq_true', decide_eq_false_iff_not, not_or, not_and] at h ⊢
  obtain ⟨g1, g2⟩ := h
  refine ⟨fun q => g1 (Int32.lt_of_lt_of_le q h1), fun q w => ?_⟩
  have e : mo = hd := Int32.le_antisymm (Int32.not_lt.mp g1) (by rw [← q]; exact h1)
  exact g2 e (fun z => w (Int32.le_trans z h2))
theorem fold_id {F : Nat → sB3 → sB3} {B : sB3} : ∀ n, (∀ s, s < n → F s B = B) → sFold F n B = B := by
  intro n
  induction n with
  | zero => intro _; rfl
  | succ n ih => intro h; rw [sFold, ih (fun s q => h s (by omega))]; exact h n (by omega)
theorem fold_cg {F G : Nat → sB3 → sB3} {B : sB3} : ∀ n, (∀ s, s < n → ∀ C, F s C = G s C) → sFold F n B = sFold G n B := by
  intro n
  induction n with
  | zero => intro _; rfl
  | succ n ih => intro h; rw [sFold, sFold, ih (fun s q => h s (by omega))]; exact h n (by omega) _
theorem gv_top {gv : Int32} {z dp : Nat} : gv + nI (z + dp) - nI dp = gv + nI z := by
  rw [← nI_add, ← Int32.add_assoc]
  exact Int32.add_sub_cancel _ _
theorem ext0_n {μ : Me} {n z : Nat} {hs op : Int32} (hg : cG μ n) (hz : z ≤ 7) : ∀ (m dp r : Nat) (used yd sc gv rw : Int32) (B : sB3), m + dp = z → m < r → nW dp yd sc gv → ¬ sBeat B.2.1 B.2.2 (gv + nI z - nI dp) (sc + sBetw μ 10 yd 0) = true → sExt0 μ n hs op (nI z) r dp used yd sc gv rw B = B := by
  intro m
  induction m with
  | zero =>
    intro dp r used yd sc gv rw B hm hr hw hb
    obtain ⟨r, rfl⟩ : ∃ r', r = r' + 1 := ⟨r - 1, by omega⟩
    have e : dp = z := by omega
    subst e
    rw [sExt0, if_pos (Int32.le_refl _)]
    have eg : gv + nI dp - nI dp = gv := Int32.add_sub_cancel _ _
    rw [eg] at hb
    rw [if_neg hb]
  | succ m ih =>
    intro dp r used yd sc gv rw B hm hr hw hb
    obtain ⟨r, rfl⟩ : ∃ r', r = r' + 1 := ⟨r - 1, by omega⟩
    rw [sExt0, if_neg (fun w => by have := (nI_leI (a := z) (b := dp) (by omega) (by omega)).mp w; omega)]
    refine fold_id n (fun s hs' => ?_)
    unfold sF
    split
    · obtain ⟨c1, c2, c3⟩ := hw.child (hs := hs) hg (by omega) hs'
      refine ih (dp + 1) r _ _ _ _ _ B (by omega) (by omega) c1 (beat_mono hb ?_ c3)
      obtain ⟨-, -, a', -, -, -, -, ea', ha'⟩ := c1
      obtain ⟨-, -, a, -, -, -, -, rfl, ha⟩ := hw
      rw [ea'] at c2 ⊢
      have q := (nI_leI (a := a') (b := a + 1) (by omega) (by omega)).mp (by rw [← nI_1]; exact c2)
      rw [nI_add, nI_add, pk_sub (by omega), pk_sub (by omega)]
      exact nI_le (by omega) (by omega)
    · rfl
theorem ext_0 {μ : Me} {n z : Nat} {hs op : Int32} (hg : cG μ n) (hz : z ≤ 7) : ∀ (m dp r : Nat) (used yd sc gv rw : Int32) (B : sB3), m + dp = z → m < r → nW dp yd sc gv → sExt μ n hs op (nI z) r dp used yd sc gv rw B = sExt0 μ n hs op (nI z) r dp used yd sc gv rw B := by
  intro m
  induction m with
  | zero =>
    intro dp r used yd sc gv rw B hm hr hw
    by_cases hb : sBeat B.2.1 B.2.2 (gv + nI z - nI dp) (sc + sBetw μ 10 yd 0) = true
    · obtain ⟨r, rfl⟩ : ∃ r', r = r' + 1 := ⟨r - 1, by omega⟩
      have e : dp = z := by omega
      subst e
      have eg : gv + nI dp - nI dp = gv := Int32.add_sub_cancel _ _
      rw [sExt, sExt0, if_pos hb, if_pos (Int32.le_refl _), if_pos (Int32.le_refl _)]
      rw [eg] at hb
      rw [if_pos hb]
    · rw [ext0_n hg hz 0 dp r used yd sc gv rw B hm hr hw hb]
      obtain ⟨r, rfl⟩ : ∃ r', r = r' + 1 := ⟨r - 1, by omega⟩
      rw [sExt, if_neg hb]
  | succ m ih =>
    intro dp r used yd sc gv rw B hm hr hw
    by_cases hb : sBeat B.2.1 B.2.2 (gv + nI z - nI dp) (sc + sBetw μ 10 yd 0) = true
    · obtain ⟨r, rfl⟩ : ∃ r', r = r' + 1 := ⟨r - 1, by omega⟩
      have hn : ¬ (nI z : Int32) ≤ nI dp := fun w => by have := (nI_leI (a := z) (b := dp) (by omega) (by omega)).mp w; omega
      rw [sExt, sExt0, if_pos hb, if_neg hn, if_neg hn, if_pos (show (nI dp : Int32) < 7 from nI_lt (b := 7) (by omega) (by decide))]
      refine fold_cg n (fun s hs' C => ?_)
      unfold sF
      split
      · exact ih (dp + 1) r _ _ _ _ _ C (by omega) (by omega) (hw.child hg (by omega) hs').1
      · rfl
    · rw [ext0_n hg hz (m + 1) dp r used yd sc gv rw B hm hr hw hb]
      obtain ⟨r, rfl⟩ : ∃ r', r = r' + 1 := ⟨r - 1, by omega⟩
      rw [sExt, if_neg hb]
