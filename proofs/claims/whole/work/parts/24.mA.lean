def mAt (ν : Me) : Nat := (ν 136 15).toNatClampNeg
def mLen (ν : Me) : Nat := (ν 136 14).toNatClampNeg
def mPos (ν : Me) : Nat := sSkip (ν 146) (mLen ν - mAt ν) (mAt ν)
def mHere (ν : Me) : Int32 × Me := (sLook (ν 146) (mLen ν) (mPos ν), mu ν 136 15 (nI (mPos ν)))
def mFail (ν : Me) (k w : Int32) : Me := if ν 136 17 = 0 then mu (mu ν 136 17 k) 136 18 w else ν
def mWant (ν : Me) (good : Bool) (k w : Int32) : Me := if good then ν else mFail ν k w
def mOkB (ν : Me) : Bool := decide (ν 136 17 = 0)
def mDig (f : Nat → Int32) : Nat → Nat → Int32 → Nat × Int32
  | 0, t, v => (t, v)
  | m + 1, t, v => if sIsFig (f t) then mDig f m (t + 1) (if v ≤ 99999 then 10 * v + f t - 48 else v) else (t, v)
def mNumE (ν : Me) (d : Nat × Int32) : Int32 × Me := (d.2, mWant (mu ν 136 15 (nI d.1)) (!decide (5 ≤ nI d.1 - ν 136 16)) 2 (ν 136 16))
def mNumB (ν : Me) : Int32 × Me := if mOkB ν then mNumE ν (mDig (ν 146) (mLen ν - mAt ν) (mAt ν) 0) else (0, ν)
def mNumA (ν : Me) : Me := mu (mHere ν).2 136 16 ((mHere ν).2 136 15)
def mNum (ν : Me) : Int32 × Me := if ν 136 17 ≤ 0 then mNumB (mWant (mNumA ν) (sIsFig (mHere ν).1) 1 (mNumA ν 136 15)) else (0, ν)
def mInM (ν : Me) (v lo hi : Int32) : Me := mWant ν (if ν 136 17 ≤ 0 then sWithin v lo hi else true) 2 (ν 136 16)
def mIn (ν : Me) (lo hi : Int32) : Int32 × Me := (if mInM (mNum ν).2 (mNum ν).1 lo hi 136 17 ≤ 0 then (mNum ν).1 else 0, mInM (mNum ν).2 (mNum ν).1 lo hi)
/-- the text's own numbers in the model -/
def uOk (B : Nat) (ν : Me) : Prop := ∃ l t : Nat, ν 136 14 = nI l ∧ l ≤ 240 ∧ ν 136 15 = nI t ∧ t ≤ B
theorem uOk.r {B l t : Nat} {ν : Me} (h1 : ν 136 14 = nI l) (h2 : l ≤ 240) (h3 : ν 136 15 = nI t) (h4 : t ≤ B) (hB : B ≤ 100000) : mLen ν = l ∧ mAt ν = t := by
  unfold mLen mAt
  rw [h1, h3, cl_nI (by omega), cl_nI (by omega)]
  exact ⟨rfl, rfl⟩
theorem mDig_le (f : Nat → Int32) : ∀ (m t : Nat) (v : Int32), (mDig f m t v).1 ≤ t + m := by
  intro m
  induction m with
  | zero => intro t v; exact Nat.le_refl _
  | succ m ih =>
    intro t v
    rw [mDig]
    split
    · have := ih (t + 1) (if v ≤ 99999 then 10 * v + f t - 48 else v); omega
    · show t ≤ _; omega
theorem uOk.mset {B a j : Nat} {x : Int32} {ν : Me} (h : uOk B ν) (hj : a = 136 → j ≠ 14 ∧ j ≠ 15) : uOk B (mu ν a j x) := by
  obtain ⟨l, t, h1, h2, h3, h4⟩ := h
  refine ⟨l, t, ?_, h2, ?_, h4⟩
  · rw [mu_at, if_neg]
    · exact h1
    · rintro ⟨q1, q2⟩; exact (hj q1.symm).1 q2.symm
  · rw [mu_at, if_neg]
    · exact h3
    · rintro ⟨q1, q2⟩; exact (hj q1.symm).2 q2.symm
theorem uOk.at {B B' t' : Nat} {ν : Me} (h : uOk B ν) (ht : t' ≤ B') : uOk B' (mu ν 136 15 (nI t')) := by
  obtain ⟨l, t, h1, h2, h3, h4⟩ := h
  exact ⟨l, t', by rw [mu_nj (by decide)]; exact h1, h2, mu_same _ _ _ _, ht⟩
theorem uOk.fail {B : Nat} {k w : Int32} {ν : Me} (h : uOk B ν) : uOk B (mFail ν k w) := by
  unfold mFail
  split
  · exact (h.mset (fun _ => ⟨by decide, by decide⟩)).mset (fun _ => ⟨by decide, by decide⟩)
  · exact h
theorem uOk.want {B : Nat} {g : Bool} {k w : Int32} {ν : Me} (h : uOk B ν) : uOk B (mWant ν g k w) := by
  unfold mWant; split
  · exact h
  · exact h.fail
theorem uOk.pos {B : Nat} {ν : Me} (h : uOk B ν) (hB : 240 ≤ B) (hB9 : B ≤ 100000) : mPos ν ≤ B := by
  obtain ⟨l, t, h1, h2, h3, h4⟩ := h
  obtain ⟨e1, e2⟩ := uOk.r h1 h2 h3 h4 hB9
  unfold mPos
  rw [e1, e2]
  have := sSkip_le (ν 146) (l - t) t
  omega
theorem uOk.here {B : Nat} {ν : Me} (h : uOk B ν) (hB : 240 ≤ B) (hB9 : B ≤ 100000) : uOk B (mHere ν).2 := h.at (h.pos hB hB9)
theorem uOk.inc {B : Nat} {ν : Me} (h : uOk B ν) : uOk (B + 1) (mu ν 136 15 (ν 136 15 + 1)) := by
  obtain ⟨l, t, h1, h2, h3, h4⟩ := h
  refine ⟨l, t + 1, by rw [mu_nj (by decide)]; exact h1, h2, ?_, by omega⟩
  rw [mu_same, h3, nI_1]
theorem uOk.numB {B : Nat} {ν : Me} (h : uOk B ν) (hB : 240 ≤ B) (hB9 : B ≤ 100000) : uOk B (mNumB ν).2 := by
  have hd : (mDig (ν 146) (mLen ν - mAt ν) (mAt ν) 0).1 ≤ B := by
    obtain ⟨l, t, h1, h2, h3, h4⟩ := h
    obtain ⟨e1, e2⟩ := uOk.r h1 h2 h3 h4 hB9
    rw [e1, e2]
    have := mDig_le (ν 146) (l - t) t 0
    omega
  unfold mNumB; split
  · exact (h.at hd).want
  · exact h
theorem uOk.numA {B : Nat} {ν : Me} (h : uOk B ν) (hB : 240 ≤ B) (hB9 : B ≤ 100000) : uOk B (mNumA ν) := (h.here hB hB9).mset (fun _ => ⟨by decide, by decide⟩)
theorem uOk.num {B : Nat} {ν : Me} (h : uOk B ν) (hB : 240 ≤ B) (hB9 : B ≤ 100000) : uOk B (mNum ν).2 := by
  unfold mNum; split
  · exact (h.numA hB hB9).want.numB hB hB9
  · exact h
theorem uOk.inn {B : Nat} {lo hi : Int32} {ν : Me} (h : uOk B ν) (hB : 240 ≤ B) (hB9 : B ≤ 100000) : uOk B (mIn ν lo hi).2 := (h.num hB hB9).want
theorem uOk.up {B B' : Nat} {ν : Me} (h : uOk B ν) (hB : B ≤ B') : uOk B' ν := by
  obtain ⟨l, t, h1, h2, h3, h4⟩ := h
  exact ⟨l, t, h1, h2, h3, Nat.le_trans h4 hB⟩
theorem wide_lt (a b : Int32) : a.toInt64 < b.toInt64 ↔ a < b := by
  simp [Int64.lt_iff_toInt_lt, Int32.lt_iff_toInt_lt]
def qFeed (ν : Me) (l : Nat) (x : Int32) : Int32 × Me := if sWithin x 0 255 then (if l < 240 then (nI (l + 1), mu (mu ν 146 l x) 136 14 (nI (l + 1))) else (-1000000004, ν)) else (-1000000002, ν)
set_option maxHeartbeats 4000000 in
set_option maxRecDepth 100000 in
theorem c_X10_in {σ : aS} {v lo hi : Int64} (x a b : Int32) (e1 : v = x.toInt64) (e2 : lo = a.toInt64) (e3 : hi = b.toInt64) : AC 0 0 0 mX10_in [.long v, .long lo, .long hi] σ (a_eq (some (.int (b2i (sWithin x a b)))) σ) := by
  refine AC.of (L := [some (.long v), none, some (.long lo), none, some (.long hi), none]) (j := 0) (by decide) rfl (Nat.le_of_ble_eq_true rfl) ?_
  refine AW.lload_n (n := 1) dX10_in_0 rfl rfl ?_
  refine AW.lload_n (n := 2) dX10_in_1 rfl rfl ?_
  refine AW.lcmp (n := 3) dX10_in_2 rfl ?_
  refine AW.if_lt (n := 6) (t := 17) dX10_in_3 rfl rfl (fun h3 => ?_) (fun h3 => ?_)
  · refine AW.iconst (n := 18) (v := 0) dX10_in_17 rfl rfl ?_
    refine AW.iret dX10_in_18 rfl rfl (Nat.zero_le _) (Nat.zero_le _) ?_
    subst e1; subst e2; subst e3
    rw [lg_cmp_lt, wide_lt] at h3
    exact ⟨by simp [sWithin, b2i, h3], rfl⟩
  · refine AW.lload_n (n := 7) dX10_in_6 rfl rfl ?_
    refine AW.lload (n := 9) dX10_in_7 rfl rfl ?_
    refine AW.lcmp (n := 10) dX10_in_9 rfl ?_
    refine AW.if_gt (n := 13) (t := 17) dX10_in_10 rfl rfl (fun h10 => ?_) (fun h10 => ?_)
    · refine AW.iconst (n := 18) (v := 0) dX10_in_17 rfl rfl ?_
      refine AW.iret dX10_in_18 rfl rfl (Nat.zero_le _) (Nat.zero_le _) ?_
      subst e1; subst e2; subst e3
      rw [lg_cmp_lt, wide_lt] at h3
      rw [lg_cmp_gt, wide_lt] at h10
      exact ⟨by simp [sWithin, b2i, h3, h10], rfl⟩
    · refine AW.iconst (n := 14) (v := 1) dX10_in_13 rfl rfl ?_
      refine AW.goto (t := 18) dX10_in_14 rfl ?_
      refine AW.iret dX10_in_18 rfl rfl (Nat.zero_le _) (Nat.zero_le _) ?_
      subst e1; subst e2; subst e3
      rw [lg_cmp_lt, wide_lt] at h3
      rw [lg_cmp_gt, wide_lt] at h10
      exact ⟨by simp [sWithin, b2i, h3, h10], rfl⟩
set_option maxHeartbeats 4000000 in
set_option maxRecDepth 100000 in
theorem c_X10_one {σ : aS} {b : Bool}  : AC 0 0 0 mX10_one [.int (b2i b)] σ (a_eq (some (.int (b2i b))) σ) := by
  refine AC.of (L := [some (.int (b2i b))]) (j := 0) (by decide) rfl (Nat.le_of_ble_eq_true rfl) ?_
  refine AW.iload_n (n := 1) dX10_one_0 rfl rfl ?_
  refine AW.bif_eq (n := 4) (t := 8) dX10_one_1 rfl rfl (fun h1 => ?_) (fun h1 => ?_)
  · refine AW.iconst (n := 9) (v := 0) dX10_one_8 rfl rfl ?_
    refine AW.iret dX10_one_9 rfl rfl (Nat.zero_le _) (Nat.zero_le _) ?_
    exact ⟨by rw [h1]; rfl, rfl⟩
  · refine AW.iconst (n := 5) (v := 1) dX10_one_4 rfl rfl ?_
    refine AW.goto (t := 9) dX10_one_5 rfl ?_
    refine AW.iret dX10_one_9 rfl rfl (Nat.zero_le _) (Nat.zero_le _) ?_
    exact ⟨by rw [h1]; rfl, rfl⟩
theorem and1 (x : Int32) : x &&& 1 = 0 ∨ x &&& 1 = 1 := by
  have h : ∀ b : BitVec 32, b &&& 1#32 = 0#32 ∨ b &&& 1#32 = 1#32 := by
    intro b
    have : b &&& 1#32 = BitVec.ofNat 32 (b.toNat % 2) := by
      apply BitVec.eq_of_toNat_eq
      simp [BitVec.toNat_and, Nat.and_one_is_mod]
      omega
    rw [this]
    rcases (show b.toNat % 2 = 0 ∨ b.toNat % 2 = 1 by omega) with q | q <;> rw [q] <;> simp
  rcases h x.toBitVec with q | q
  · left; apply Int32.toBitVec_inj.mp; simpa using q
  · right; apply Int32.toBitVec_inj.mp; simpa using q
theorem sBit_1 {x s : Int32} : sBit x s = true ↔ (x >>> (s &&& 31)) &&& 1 = 1 := by
  unfold sBit
  rcases and1 (x >>> (s &&& 31)) with q | q <;> rw [q] <;> decide
def sFar (x y : Int32) : Int32 := if y ≤ x then x - y else y - x
set_option maxHeartbeats 4000000 in
set_option maxRecDepth 100000 in
theorem c_X10_has {σ : aS} {x s : Int32}  : AC 0 0 0 mX10_has [.int x, .int s] σ (a_eq (some (.int (b2i (sBit x s)))) σ) := by
  refine AC.of (L := [some (.int x), some (.int s)]) (j := 0) (by decide) rfl (Nat.le_of_ble_eq_true rfl) ?_
  refine AW.iload_n (n := 1) dX10_has_0 rfl rfl ?_
  refine AW.iload_n (n := 2) dX10_has_1 rfl rfl ?_
  refine AW.ishr (n := 3) dX10_has_2 rfl ?_
  refine AW.iconst (n := 4) (v := 1) dX10_has_3 rfl rfl ?_
  refine AW.iand (n := 5) dX10_has_4 rfl ?_
  refine AW.iconst (n := 6) (v := 1) dX10_has_5 rfl rfl ?_
  refine AW.icmp_ne (n := 9) (t := 13) dX10_has_6 rfl rfl (fun h6 => ?_) (fun h6 => ?_)
  · refine AW.iconst (n := 14) (v := 0) dX10_has_13 rfl rfl ?_
    refine AW.iret dX10_has_14 rfl rfl (Nat.zero_le _) (Nat.zero_le _) ?_
    have q : sBit x s = false := by
      cases q9 : sBit x s
      · rfl
      · exact absurd (sBit_1.mp q9) h6
    exact ⟨by rw [q]; rfl, rfl⟩
  · refine AW.iconst (n := 10) (v := 1) dX10_has_9 rfl rfl ?_
    refine AW.goto (t := 14) dX10_has_10 rfl ?_
    refine AW.iret dX10_has_14 rfl rfl (Nat.zero_le _) (Nat.zero_le _) ?_
    exact ⟨by rw [sBit_1.mpr h6]; rfl, rfl⟩
set_option maxHeartbeats 4000000 in
set_option maxRecDepth 100000 in
theorem c_X10_far {σ : aS} {x y : Int32}  : AC 0 0 0 mX10_far [.int x, .int y] σ (a_eq (some (.int (sFar x y))) σ) := by
  refine AC.of (L := [some (.int x), some (.int y)]) (j := 0) (by decide) rfl (Nat.le_of_ble_eq_true rfl) ?_
  refine AW.iload_n (n := 1) dX10_far_0 rfl rfl ?_
  refine AW.iload_n (n := 2) dX10_far_1 rfl rfl ?_
  refine AW.icmp_ge (n := 5) (t := 11) dX10_far_2 rfl rfl (fun h2 => ?_) (fun h2 => ?_)
  · refine AW.iload_n (n := 12) dX10_far_11 rfl rfl ?_
    refine AW.iload_n (n := 13) dX10_far_12 rfl rfl ?_
    refine AW.isub (n := 14) dX10_far_13 rfl ?_
    refine AW.iret dX10_far_14 rfl rfl (Nat.zero_le _) (Nat.zero_le _) ?_
    exact ⟨by simp [sFar, h2], rfl⟩
  · refine AW.iload_n (n := 6) dX10_far_5 rfl rfl ?_
    refine AW.iload_n (n := 7) dX10_far_6 rfl rfl ?_
    refine AW.isub (n := 8) dX10_far_7 rfl ?_
    refine AW.goto (t := 14) dX10_far_8 rfl ?_
    refine AW.iret dX10_far_14 rfl rfl (Nat.zero_le _) (Nat.zero_le _) ?_
    exact ⟨by simp [sFar, h2], rfl⟩
set_option maxHeartbeats 4000000 in
set_option maxRecDepth 100000 in
theorem l_X10_here {μ : Me} {e : Nat × (Nat → aC)} {l : Nat} (hl : μ 136 14 = nI l) (hl9 : l ≤ 240) : ∀ (m : Nat) (t : Nat), l - t < m → t ≤ 100000 → AW none 0 0 0 mX10_here 0 0 0 [some (.ref 136)] [] (wS (mu μ 136 15 (nI t)) e) (a_eq (some (.int (sLook (μ 146) l (sSkip (μ 146) (l - t) t)))) (wS (mu μ 136 15 (nI (sSkip (μ 146) (l - t) t))) e)) := by
  intro m
  induction m with
  | zero => intro t hm; exact absurd hm (Nat.not_lt_zero _)
  | succ m ih =>
    intro t hm hc
    have ea : (mu μ 136 15 (nI t)) 136 15 = nI t := mu_same _ _ _ _
    have el : (mu μ 136 15 (nI t)) 136 14 = nI l := (mu_nj (by decide)).trans hl
    have e2 : (mu μ 136 15 (nI t)) 146 = μ 146 := mu_ne (by decide)
    refine AW.aload_n (n := 1) dX10_here_0 rfl rfl ?_
    refine AW.gi (n := 4) dX10_here_1 fl_X10_77 s_136 rfl rfl ?_
    refine AW.aload_n (n := 5) dX10_here_4 rfl rfl ?_
    refine AW.gi (n := 8) dX10_here_5 fl_X10_73 s_136 rfl rfl ?_
    rw [ea, el]
    refine AW.icmp_ge (n := 11) (t := 38) dX10_here_8 rfl rfl (fun h8 => ?_) (fun h8 => ?_)
    · have ht : l ≤ t := le_lit (b := l) (x := nI t) rfl (by omega) (by omega) h8
      have e9 : sSkip (μ 146) (l - t) t = t := by rw [show l - t = 0 by omega, sSkip]
      have e8 : sLook (μ 146) l t = -1 := by unfold sLook; rw [if_neg (by omega)]
      rw [e9, e8]
      refine AW.aload_n (n := 39) dX10_here_38 rfl rfl ?_
      refine AW.gi (n := 42) dX10_here_39 fl_X10_77 s_136 rfl rfl ?_
      refine AW.aload_n (n := 43) dX10_here_42 rfl rfl ?_
      refine AW.gi (n := 46) dX10_here_43 fl_X10_73 s_136 rfl rfl ?_
      rw [ea, el]
      refine AW.icmp_ge (n := 49) (t := 61) dX10_here_46 rfl rfl (fun h46 => ?_) (fun h46 => ?_)
      · refine AW.iconst (n := 62) (v := -1) dX10_here_61 rfl rfl ?_
        refine AW.iret dX10_here_62 rfl rfl (Nat.zero_le _) (Nat.zero_le _) ?_
        exact ⟨rfl, rfl⟩
      · exact absurd h8 h46
    · have ht : t < l := nle_lit (b := l) (x := nI t) rfl (by omega) (by omega) h8
      have hs : l - t = (l - (t + 1)) + 1 := by omega
      refine AW.aload_n (n := 12) dX10_here_11 rfl rfl ?_
      refine AW.gr (n := 15) dX10_here_12 fl_X10_38 s_136 rfl rfl ?_
      refine AW.aload_n (n := 16) dX10_here_15 rfl rfl ?_
      refine AW.gi (n := 19) dX10_here_16 fl_X10_77 s_136 rfl rfl ?_
      refine AW.ia (n := 20) t dX10_here_19 s_146 ea (by omega) (by decide) rfl ?_
      refine AW.bipush (n := 22) (v := 32) dX10_here_20 rfl rfl ?_
      rw [e2]
      refine AW.icmp_ne (n := 25) (t := 38) dX10_here_22 rfl rfl (fun h22 => ?_) (fun h22 => ?_)
      · have e9 : sSkip (μ 146) (l - t) t = t := by rw [hs, sSkip, if_neg h22]
        have e8 : sLook (μ 146) l t = μ 146 t := by unfold sLook; rw [if_pos ht]
        rw [e9, e8]
        refine AW.aload_n (n := 39) dX10_here_38 rfl rfl ?_
        refine AW.gi (n := 42) dX10_here_39 fl_X10_77 s_136 rfl rfl ?_
        refine AW.aload_n (n := 43) dX10_here_42 rfl rfl ?_
        refine AW.gi (n := 46) dX10_here_43 fl_X10_73 s_136 rfl rfl ?_
        rw [ea, el]
        refine AW.icmp_ge (n := 49) (t := 61) dX10_here_46 rfl rfl (fun h46 => ?_) (fun h46 => ?_)
        · exact absurd h46 h8
        · refine AW.aload_n (n := 50) dX10_here_49 rfl rfl ?_
          refine AW.gr (n := 53) dX10_here_50 fl_X10_38 s_136 rfl rfl ?_
          refine AW.aload_n (n := 54) dX10_here_53 rfl rfl ?_
          refine AW.gi (n := 57) dX10_here_54 fl_X10_77 s_136 rfl rfl ?_
          refine AW.ia (n := 58) t dX10_here_57 s_146 ea (by omega) (by decide) rfl ?_
          refine AW.goto (t := 62) dX10_here_58 rfl ?_
          refine AW.iret dX10_here_62 rfl rfl (Nat.zero_le _) (Nat.zero_le _) ?_
          exact ⟨by rw [e2], rfl⟩
      · refine AW.aload_n (n := 26) dX10_here_25 rfl rfl ?_
        refine AW.dup (n := 27) dX10_here_26 rfl rfl ?_
        refine AW.gi (n := 30) dX10_here_27 fl_X10_77 s_136 rfl rfl ?_
        refine AW.iconst (n := 31) (v := 1) dX10_here_30 rfl rfl ?_
        refine AW.iadd (n := 32) dX10_here_31 rfl ?_
        refine AW.pi (n := 35) dX10_here_32 fp_X10_77 s_136 rfl ⟨rfl, rfl⟩ rfl ?_
        refine AW.goto (t := 0) dX10_here_35 rfl ?_
        rw [ea]
        have e9 : sSkip (μ 146) (l - t) t = sSkip (μ 146) (l - (t + 1)) (t + 1) := by rw [hs, sSkip, if_pos h22]
        rw [e9]
        refine AW.eqS (by rw [mu_mu, nI_1]) (ih (t + 1) (by omega) (by omega))
set_option maxHeartbeats 4000000 in
set_option maxRecDepth 100000 in
theorem c_X10_here {μ : Me} {e : Nat × (Nat → aC)} {B : Nat} (ho : uOk B μ) (hB : B ≤ 100000) : AC 0 0 0 mX10_here [.ref 136] (wS μ e) (a_eq (some (.int ((mHere μ).1))) (wS ((mHere μ).2) e)) := by
  refine AC.of (L := [some (.ref 136)]) (j := 0) (by decide) rfl (Nat.le_of_ble_eq_true rfl) ?_
  obtain ⟨l, t, h1, h2, h3, h4⟩ := ho
  obtain ⟨e1, e2⟩ := uOk.r h1 h2 h3 h4 hB
  have h := l_X10_here (e := e) h1 h2 (l - t + 1) t (by omega) (by omega)
  rw [mu_self' h3] at h
  unfold mHere mPos
  rw [e1, e2]
  exact h
set_option maxHeartbeats 4000000 in
set_option maxRecDepth 100000 in
theorem c_X10_want {μ : Me} {e : Nat × (Nat → aC)} {g : Bool} {kk w : Int32}  : AC 0 0 0 mX10_want [.ref 136, .int (b2i g), .int kk, .int w] (wS μ e) (a_eq (some (.int (b2i (mOkB (mWant μ g kk w))))) (wS (mWant μ g kk w) e)) := by
  refine AC.of (L := [some (.ref 136), some (.int (b2i g)), some (.int kk), some (.int w)]) (j := 0) (by decide) rfl (Nat.le_of_ble_eq_true rfl) ?_
  refine AW.iload_n (n := 1) dX10_want_0 rfl rfl ?_
  refine AW.bif_ne (n := 4) (t := 21) dX10_want_1 rfl rfl (fun h1 => ?_) (fun h1 => ?_)
  · refine AW.aload_n (n := 22) dX10_want_21 rfl rfl ?_
    refine AW.gi (n := 25) dX10_want_22 fl_X10_80 s_136 rfl rfl ?_
    refine AW.if_ne (n := 28) (t := 32) dX10_want_25 rfl rfl (fun h25 => ?_) (fun h25 => ?_)
    · refine AW.iconst (n := 33) (v := 0) dX10_want_32 rfl rfl ?_
      refine AW.iret dX10_want_33 rfl rfl (Nat.zero_le _) (Nat.zero_le _) ?_
      have e9 : mWant μ g kk w = μ := by rw [mWant, if_pos h1]
      rw [e9]
      exact ⟨by rw [mOkB, decide_eq_false h25]; rfl, rfl⟩
    · refine AW.iconst (n := 29) (v := 1) dX10_want_28 rfl rfl ?_
      refine AW.goto (t := 33) dX10_want_29 rfl ?_
      refine AW.iret dX10_want_33 rfl rfl (Nat.zero_le _) (Nat.zero_le _) ?_
      have e9 : mWant μ g kk w = μ := by rw [mWant, if_pos h1]
      rw [e9]
      exact ⟨by rw [mOkB, decide_eq_true h25]; rfl, rfl⟩
  · refine AW.aload_n (n := 5) dX10_want_4 rfl rfl ?_
    refine AW.gi (n := 8) dX10_want_5 fl_X10_80 s_136 rfl rfl ?_
    refine AW.if_ne (n := 11) (t := 21) dX10_want_8 rfl rfl (fun h8 => ?_) (fun h8 => ?_)
    · refine AW.aload_n (n := 22) dX10_want_21 rfl rfl ?_
      refine AW.gi (n := 25) dX10_want_22 fl_X10_80 s_136 rfl rfl ?_
      refine AW.if_ne (n := 28) (t := 32) dX10_want_25 rfl rfl (fun h25 => ?_) (fun h25 => ?_)
      · refine AW.iconst (n := 33) (v := 0) dX10_want_32 rfl rfl ?_
        refine AW.iret dX10_want_33 rfl rfl (Nat.zero_le _) (Nat.zero_le _) ?_
        have e9 : mWant μ g kk w = μ := by rw [mWant, if_neg (by rw [h1]; decide), mFail, if_neg h8]
        rw [e9]
        exact ⟨by rw [mOkB, decide_eq_false h25]; rfl, rfl⟩
      · refine AW.iconst (n := 29) (v := 1) dX10_want_28 rfl rfl ?_
        refine AW.goto (t := 33) dX10_want_29 rfl ?_
        refine AW.iret dX10_want_33 rfl rfl (Nat.zero_le _) (Nat.zero_le _) ?_
        have e9 : mWant μ g kk w = μ := by rw [mWant, if_neg (by rw [h1]; decide), mFail, if_neg h8]
        rw [e9]
        exact ⟨by rw [mOkB, decide_eq_true h25]; rfl, rfl⟩
    · refine AW.aload_n (n := 12) dX10_want_11 rfl rfl ?_
      refine AW.iload_n (n := 13) dX10_want_12 rfl rfl ?_
      refine AW.pi (n := 16) dX10_want_13 fp_X10_80 s_136 rfl ⟨rfl, rfl⟩ rfl ?_
      refine AW.aload_n (n := 17) dX10_want_16 rfl rfl ?_
      refine AW.iload_n (n := 18) dX10_want_17 rfl rfl ?_
      refine AW.pi (n := 21) dX10_want_18 fp_X10_41 s_136 rfl ⟨rfl, rfl⟩ rfl ?_
      refine AW.aload_n (n := 22) dX10_want_21 rfl rfl ?_
      refine AW.gi (n := 25) dX10_want_22 fl_X10_80 s_136 rfl rfl ?_
      refine AW.if_ne (n := 28) (t := 32) dX10_want_25 rfl rfl (fun h25 => ?_) (fun h25 => ?_)
      · refine AW.iconst (n := 33) (v := 0) dX10_want_32 rfl rfl ?_
        refine AW.iret dX10_want_33 rfl rfl (Nat.zero_le _) (Nat.zero_le _) ?_
        have e9 : mWant μ g kk w = mu (mu μ 136 17 kk) 136 18 w := by rw [mWant, if_neg (by rw [h1]; decide), mFail, if_pos h8]
        rw [e9]
        exact ⟨by rw [mOkB, decide_eq_false h25]; rfl, rfl⟩
      · refine AW.iconst (n := 29) (v := 1) dX10_want_28 rfl rfl ?_
        refine AW.goto (t := 33) dX10_want_29 rfl ?_
        refine AW.iret dX10_want_33 rfl rfl (Nat.zero_le _) (Nat.zero_le _) ?_
        have e9 : mWant μ g kk w = mu (mu μ 136 17 kk) 136 18 w := by rw [mWant, if_neg (by rw [h1]; decide), mFail, if_pos h8]
        rw [e9]
        exact ⟨by rw [mOkB, decide_eq_true h25]; rfl, rfl⟩
set_option maxHeartbeats 4000000 in
set_option maxRecDepth 100000 in
theorem c_X10_feed {μ : Me} {e : Nat × (Nat → aC)} {l : Nat} {x : Int32} (hl : μ 136 14 = nI l) (hl9 : l ≤ 240) : AC 1 0 0 mX10_feed [.ref 136, .int x] (wS μ e) (a_eq (some (.int ((qFeed μ l x).1))) (wS ((qFeed μ l x).2) e)) := by
  refine AC.of (L := [some (.ref 136), some (.int x)]) (j := 0) (by decide) rfl (Nat.le_of_ble_eq_true rfl) ?_
  refine AW.iload_n (n := 1) dX10_feed_0 rfl rfl ?_
  refine AW.i2l (n := 2) dX10_feed_1 rfl ?_
  refine AW.lconst (n := 3) (v := 0) dX10_feed_2 rfl rfl ?_
  refine AW.ldc2 (n := 6) dX10_feed_3 kl_X10_66 rfl ?_
  refine AW.es3i (Mc := mX10_in) (n := 9) dX10_feed_6 lk_X10_68 k_mX10_in (c_X10_in _ 0 255 rfl (by decide) (by decide)) (Nat.le_of_ble_eq_true rfl) (by decide) (Nat.zero_le _) (Nat.zero_le _) rfl ?_
  refine AW.bif_ne (n := 12) (t := 15) dX10_feed_9 rfl rfl (fun h9 => ?_) (fun h9 => ?_)
  · refine AW.aload_n (n := 16) dX10_feed_15 rfl rfl ?_
    refine AW.gi (n := 19) dX10_feed_16 fl_X10_73 s_136 rfl rfl ?_
    refine AW.sipush (n := 22) (v := 240) dX10_feed_19 rfl rfl ?_
    refine AW.icmp_ne (n := 25) (t := 28) dX10_feed_22 rfl rfl (fun h22 => ?_) (fun h22 => ?_)
    · have hq : l ≠ 240 := fun q => h22 (by rw [hl, q]; rfl)
      refine AW.aload_n (n := 29) dX10_feed_28 rfl rfl ?_
      refine AW.gr (n := 32) dX10_feed_29 fl_X10_38 s_136 rfl rfl ?_
      refine AW.aload_n (n := 33) dX10_feed_32 rfl rfl ?_
      refine AW.gi (n := 36) dX10_feed_33 fl_X10_73 s_136 rfl rfl ?_
      refine AW.iload_n (n := 37) dX10_feed_36 rfl rfl ?_
      refine AW.is (n := 38) l dX10_feed_37 s_146 hl (by omega) (by decide) rfl ?_
      refine AW.aload_n (n := 39) dX10_feed_38 rfl rfl ?_
      refine AW.dup (n := 40) dX10_feed_39 rfl rfl ?_
      refine AW.gi (n := 43) dX10_feed_40 fl_X10_73 s_136 rfl rfl ?_
      refine AW.iconst (n := 44) (v := 1) dX10_feed_43 rfl rfl ?_
      refine AW.iadd (n := 45) dX10_feed_44 rfl ?_
      refine AW.pi (n := 48) dX10_feed_45 fp_X10_73 s_136 rfl ⟨rfl, rfl⟩ rfl ?_
      refine AW.aload_n (n := 49) dX10_feed_48 rfl rfl ?_
      refine AW.gi (n := 52) dX10_feed_49 fl_X10_73 s_136 rfl rfl ?_
      refine AW.iret dX10_feed_52 rfl rfl (Nat.zero_le _) (Nat.zero_le _) ?_
      exact ⟨by simp [qFeed, h9, show l < 240 by omega, mu_at, hl, nI_1], by simp [qFeed, h9, show l < 240 by omega, mu_at, hl, nI_1]⟩
    · have hq : l = 240 := (nI_eq (a := l) (b := 240) (by omega) (by omega)).mp (by rw [← hl]; exact h22)
      refine AW.ldc (n := 27) dX10_feed_25 kc_X10_76 rfl ?_
      refine AW.iret dX10_feed_27 rfl rfl (Nat.zero_le _) (Nat.zero_le _) ?_
      exact ⟨by simp [qFeed, h9, hq], by simp [qFeed, h9, hq]⟩
  · refine AW.ldc (n := 14) dX10_feed_12 kc_X10_72 rfl ?_
    refine AW.iret dX10_feed_14 rfl rfl (Nat.zero_le _) (Nat.zero_le _) ?_
    exact ⟨by simp [qFeed, h9], by simp [qFeed, h9]⟩
set_option maxHeartbeats 4000000 in
set_option maxRecDepth 100000 in
theorem l_X10_num_49 {μ : Me} {e : Nat × (Nat → aC)} {l : Nat} {c : Int32} (hl : μ 136 14 = nI l) (hl9 : l ≤ 240) : ∀ (m : Nat) (t : Nat) (v : Int32), l - t < m → t ≤ 100000 → AW none 1 0 0 mX10_takeNumber 0 0 49 [some (.ref 136), some (.int c), some (.int v), none] [] (wS (mu μ 136 15 (nI t)) e) (a_eq (some (.int (mNumE μ (mDig (μ 146) (l - t) t v)).1)) (wS (mNumE μ (mDig (μ 146) (l - t) t v)).2 e)) := by
  intro m
  induction m with
  | zero => intro t v hm; exact absurd hm (Nat.not_lt_zero _)
  | succ m ih =>
    intro t v hm hc
    have ea : (mu μ 136 15 (nI t)) 136 15 = nI t := mu_same _ _ _ _
    have ef : (mu μ 136 15 (nI t)) 136 16 = μ 136 16 := mu_nj (by decide)
    have el : (mu μ 136 15 (nI t)) 136 14 = nI l := (mu_nj (by decide)).trans hl
    have e2 : (mu μ 136 15 (nI t)) 146 = μ 146 := mu_ne (by decide)
    refine AW.aload_n (n := 50) dX10_takeNumber_49 rfl rfl ?_
    refine AW.gi (n := 53) dX10_takeNumber_50 fl_X10_77 s_136 rfl rfl ?_
    refine AW.aload_n (n := 54) dX10_takeNumber_53 rfl rfl ?_
    refine AW.gi (n := 57) dX10_takeNumber_54 fl_X10_73 s_136 rfl rfl ?_
    rw [ea, el]
    refine AW.icmp_ge (n := 60) (t := 123) dX10_takeNumber_57 rfl rfl (fun h57 => ?_) (fun h57 => ?_)
    · have ht : l ≤ t := le_lit (b := l) (x := nI t) rfl (by omega) (by omega) h57
      have e9 : mDig (μ 146) (l - t) t v = (t, v) := by rw [show l - t = 0 by omega, mDig]
      rw [e9]
      refine AW.aload_n (n := 124) dX10_takeNumber_123 rfl rfl ?_
      refine AW.aload_n (n := 125) dX10_takeNumber_124 rfl rfl ?_
      refine AW.gi (n := 128) dX10_takeNumber_125 fl_X10_77 s_136 rfl rfl ?_
      refine AW.aload_n (n := 129) dX10_takeNumber_128 rfl rfl ?_
      refine AW.gi (n := 132) dX10_takeNumber_129 fl_X10_87 s_136 rfl rfl ?_
      refine AW.isub (n := 133) dX10_takeNumber_132 rfl ?_
      refine AW.iconst (n := 134) (v := 5) dX10_takeNumber_133 rfl rfl ?_
      rw [ea, ef]
      refine AW.icmp_ge (n := 137) (t := 141) dX10_takeNumber_134 rfl rfl (fun h134 => ?_) (fun h134 => ?_)
      · refine AW.iconst (n := 142) (v := 0) dX10_takeNumber_141 rfl rfl ?_
        refine AW.iconst (n := 143) (v := 2) dX10_takeNumber_142 rfl rfl ?_
        refine AW.aload_n (n := 144) dX10_takeNumber_143 rfl rfl ?_
        refine AW.gi (n := 147) dX10_takeNumber_144 fl_X10_87 s_136 rfl rfl ?_
        rw [ef]
        refine AW.ev3i (Mc := mX10_want) (n := 150) dX10_takeNumber_147 lk_X10_94 k_mX10_want s_136 rfl rfl (c_X10_want (g := false)) (Nat.le_of_ble_eq_true rfl) (by decide) (Nat.zero_le _) (Nat.zero_le _) rfl ?_
        refine AW.ist3 (n := 151) dX10_takeNumber_150 (Nat.le_of_ble_eq_true rfl) rfl rfl ?_
        refine AW.iload_n (n := 152) dX10_takeNumber_151 rfl rfl ?_
        refine AW.iret dX10_takeNumber_152 rfl rfl (Nat.zero_le _) (Nat.zero_le _) ?_
        exact ⟨rfl, by simp [mNumE, h134]⟩
      · refine AW.iconst (n := 138) (v := 1) dX10_takeNumber_137 rfl rfl ?_
        refine AW.goto (t := 142) dX10_takeNumber_138 rfl ?_
        refine AW.iconst (n := 143) (v := 2) dX10_takeNumber_142 rfl rfl ?_
        refine AW.aload_n (n := 144) dX10_takeNumber_143 rfl rfl ?_
        refine AW.gi (n := 147) dX10_takeNumber_144 fl_X10_87 s_136 rfl rfl ?_
        rw [ef]
        refine AW.ev3i (Mc := mX10_want) (n := 150) dX10_takeNumber_147 lk_X10_94 k_mX10_want s_136 rfl rfl (c_X10_want (g := true)) (Nat.le_of_ble_eq_true rfl) (by decide) (Nat.zero_le _) (Nat.zero_le _) rfl ?_
        refine AW.ist3 (n := 151) dX10_takeNumber_150 (Nat.le_of_ble_eq_true rfl) rfl rfl ?_
        refine AW.iload_n (n := 152) dX10_takeNumber_151 rfl rfl ?_
        refine AW.iret dX10_takeNumber_152 rfl rfl (Nat.zero_le _) (Nat.zero_le _) ?_
        exact ⟨rfl, by simp [mNumE, h134]⟩
    · have ht : t < l := nle_lit (b := l) (x := nI t) rfl (by omega) (by omega) h57
      have hs : l - t = (l - (t + 1)) + 1 := by omega
      refine AW.aload_n (n := 61) dX10_takeNumber_60 rfl rfl ?_
      refine AW.gr (n := 64) dX10_takeNumber_61 fl_X10_38 s_136 rfl rfl ?_
      refine AW.aload_n (n := 65) dX10_takeNumber_64 rfl rfl ?_
      refine AW.gi (n := 68) dX10_takeNumber_65 fl_X10_77 s_136 rfl rfl ?_
      refine AW.ia (n := 69) t dX10_takeNumber_68 s_146 ea (by omega) (by decide) rfl ?_
      rw [e2]
      refine AW.i2l (n := 70) dX10_takeNumber_69 rfl ?_
      refine AW.ldc2 (n := 73) dX10_takeNumber_70 kl_X10_90 rfl ?_
      refine AW.ldc2 (n := 76) dX10_takeNumber_73 kl_X10_92 rfl ?_
      refine AW.es3i (Mc := mX10_in) (n := 79) dX10_takeNumber_76 lk_X10_68 k_mX10_in (c_X10_in _ 48 57 rfl (by decide) (by decide)) (Nat.le_of_ble_eq_true rfl) (by decide) (Nat.zero_le _) (Nat.zero_le _) rfl ?_
      change AW _ _ _ _ _ _ _ _ _ (.int (b2i (sIsFig (μ 146 t))) :: _) _ _
      refine AW.bif_eq (n := 82) (t := 123) dX10_takeNumber_79 rfl rfl (fun h79 => ?_) (fun h79 => ?_)
      · have e9 : mDig (μ 146) (l - t) t v = (t, v) := by rw [hs, mDig, h79]; rfl
        rw [e9]
        refine AW.aload_n (n := 124) dX10_takeNumber_123 rfl rfl ?_
        refine AW.aload_n (n := 125) dX10_takeNumber_124 rfl rfl ?_
        refine AW.gi (n := 128) dX10_takeNumber_125 fl_X10_77 s_136 rfl rfl ?_
        refine AW.aload_n (n := 129) dX10_takeNumber_128 rfl rfl ?_
        refine AW.gi (n := 132) dX10_takeNumber_129 fl_X10_87 s_136 rfl rfl ?_
        refine AW.isub (n := 133) dX10_takeNumber_132 rfl ?_
        refine AW.iconst (n := 134) (v := 5) dX10_takeNumber_133 rfl rfl ?_
        rw [ea, ef]
        refine AW.icmp_ge (n := 137) (t := 141) dX10_takeNumber_134 rfl rfl (fun h134 => ?_) (fun h134 => ?_)
        · refine AW.iconst (n := 142) (v := 0) dX10_takeNumber_141 rfl rfl ?_
          refine AW.iconst (n := 143) (v := 2) dX10_takeNumber_142 rfl rfl ?_
          refine AW.aload_n (n := 144) dX10_takeNumber_143 rfl rfl ?_
          refine AW.gi (n := 147) dX10_takeNumber_144 fl_X10_87 s_136 rfl rfl ?_
          rw [ef]
          refine AW.ev3i (Mc := mX10_want) (n := 150) dX10_takeNumber_147 lk_X10_94 k_mX10_want s_136 rfl rfl (c_X10_want (g := false)) (Nat.le_of_ble_eq_true rfl) (by decide) (Nat.zero_le _) (Nat.zero_le _) rfl ?_
          refine AW.ist3 (n := 151) dX10_takeNumber_150 (Nat.le_of_ble_eq_true rfl) rfl rfl ?_
          refine AW.iload_n (n := 152) dX10_takeNumber_151 rfl rfl ?_
          refine AW.iret dX10_takeNumber_152 rfl rfl (Nat.zero_le _) (Nat.zero_le _) ?_
          exact ⟨rfl, by simp [mNumE, h134]⟩
        · refine AW.iconst (n := 138) (v := 1) dX10_takeNumber_137 rfl rfl ?_
          refine AW.goto (t := 142) dX10_takeNumber_138 rfl ?_
          refine AW.iconst (n := 143) (v := 2) dX10_takeNumber_142 rfl rfl ?_
          refine AW.aload_n (n := 144) dX10_takeNumber_143 rfl rfl ?_
          refine AW.gi (n := 147) dX10_takeNumber_144 fl_X10_87 s_136 rfl rfl ?_
          rw [ef]
          refine AW.ev3i (Mc := mX10_want) (n := 150) dX10_takeNumber_147 lk_X10_94 k_mX10_want s_136 rfl rfl (c_X10_want (g := true)) (Nat.le_of_ble_eq_true rfl) (by decide) (Nat.zero_le _) (Nat.zero_le _) rfl ?_
          refine AW.ist3 (n := 151) dX10_takeNumber_150 (Nat.le_of_ble_eq_true rfl) rfl rfl ?_
          refine AW.iload_n (n := 152) dX10_takeNumber_151 rfl rfl ?_
          refine AW.iret dX10_takeNumber_152 rfl rfl (Nat.zero_le _) (Nat.zero_le _) ?_
          exact ⟨rfl, by simp [mNumE, h134]⟩
      · refine AW.iload_n (n := 83) dX10_takeNumber_82 rfl rfl ?_
        refine AW.ldc (n := 85) dX10_takeNumber_83 kc_X10_98 rfl ?_
        refine AW.icmp_le (n := 88) (t := 92) dX10_takeNumber_85 rfl rfl (fun h85 => ?_) (fun h85 => ?_)
        · refine AW.bipush (n := 94) (v := 10) dX10_takeNumber_92 rfl rfl ?_
          refine AW.iload_n (n := 95) dX10_takeNumber_94 rfl rfl ?_
          refine AW.imul (n := 96) dX10_takeNumber_95 rfl ?_
          refine AW.aload_n (n := 97) dX10_takeNumber_96 rfl rfl ?_
          refine AW.gr (n := 100) dX10_takeNumber_97 fl_X10_38 s_136 rfl rfl ?_
          refine AW.aload_n (n := 101) dX10_takeNumber_100 rfl rfl ?_
          refine AW.gi (n := 104) dX10_takeNumber_101 fl_X10_77 s_136 rfl rfl ?_
          refine AW.ia (n := 105) t dX10_takeNumber_104 s_146 ea (by omega) (by decide) rfl ?_
          rw [e2]
          refine AW.iadd (n := 106) dX10_takeNumber_105 rfl ?_
          refine AW.bipush (n := 108) (v := 48) dX10_takeNumber_106 rfl rfl ?_
          refine AW.isub (n := 109) dX10_takeNumber_108 rfl ?_
          refine AW.ist2 (n := 110) dX10_takeNumber_109 (Nat.le_of_ble_eq_true rfl) rfl rfl ?_
          refine AW.aload_n (n := 111) dX10_takeNumber_110 rfl rfl ?_
          refine AW.dup (n := 112) dX10_takeNumber_111 rfl rfl ?_
          refine AW.gi (n := 115) dX10_takeNumber_112 fl_X10_77 s_136 rfl rfl ?_
          refine AW.iconst (n := 116) (v := 1) dX10_takeNumber_115 rfl rfl ?_
          refine AW.iadd (n := 117) dX10_takeNumber_116 rfl ?_
          refine AW.pi (n := 120) dX10_takeNumber_117 fp_X10_77 s_136 rfl ⟨rfl, rfl⟩ rfl ?_
          refine AW.goto (t := 49) dX10_takeNumber_120 rfl ?_
          rw [ea]
          have e9 : mDig (μ 146) (l - t) t v = mDig (μ 146) (l - (t + 1)) (t + 1) (if v ≤ 99999 then 10 * v + μ 146 t - 48 else v) := by rw [hs, mDig, h79]; rfl
          rw [e9]
          rw [if_pos h85]
          refine AW.eqS (by rw [mu_mu, nI_1]) (ih (t + 1) _ (by omega) (by omega))
        · refine AW.iload_n (n := 89) dX10_takeNumber_88 rfl rfl ?_
          refine AW.goto (t := 109) dX10_takeNumber_89 rfl ?_
          refine AW.ist2 (n := 110) dX10_takeNumber_109 (Nat.le_of_ble_eq_true rfl) rfl rfl ?_
          refine AW.aload_n (n := 111) dX10_takeNumber_110 rfl rfl ?_
          refine AW.dup (n := 112) dX10_takeNumber_111 rfl rfl ?_
          refine AW.gi (n := 115) dX10_takeNumber_112 fl_X10_77 s_136 rfl rfl ?_
          refine AW.iconst (n := 116) (v := 1) dX10_takeNumber_115 rfl rfl ?_
          refine AW.iadd (n := 117) dX10_takeNumber_116 rfl ?_
          refine AW.pi (n := 120) dX10_takeNumber_117 fp_X10_77 s_136 rfl ⟨rfl, rfl⟩ rfl ?_
          refine AW.goto (t := 49) dX10_takeNumber_120 rfl ?_
          rw [ea]
          have e9 : mDig (μ 146) (l - t) t v = mDig (μ 146) (l - (t + 1)) (t + 1) (if v ≤ 99999 then 10 * v + μ 146 t - 48 else v) := by rw [hs, mDig, h79]; rfl
          rw [e9]
          rw [if_neg h85]
          refine AW.eqS (by rw [mu_mu, nI_1]) (ih (t + 1) _ (by omega) (by omega))
