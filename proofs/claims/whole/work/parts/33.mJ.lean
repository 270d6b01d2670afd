theorem p72 (i : Nat) : (72 : Int32) + 18 * nI i = nI (72 + 18 * i) := by rw [← nI_add, ← pk_mul]; rfl
def mGr (a b : Int32) (f g h : Nat → Int32) (n d : Nat) : Prop := a = nI n ∧ n ≤ 7 ∧ b = nI d ∧ d ≤ 12 ∧ (∃ r0 r1 r2 : Nat, f 0 = nI r0 ∧ r0 ≤ 90 ∧ f 1 = nI r1 ∧ r1 ≤ 99 ∧ f 2 = nI r2 ∧ r2 ≤ 30) ∧ (∀ s, s < n → ∃ y : Nat, g s = nI y ∧ y ≤ 99) ∧ (∀ s, s < n → h s = -1 ∨ ∃ j : Nat, h s = nI j ∧ j < 7)
def mG (ν : Me) (n d : Nat) : Prop := mGr (ν 136 8) (ν 136 11) (ν 139) (ν 140) (ν 143) n d
theorem mG.of {ν ν' : Me} {n d : Nat} (h : mG ν n d) (e1 : ν' 136 8 = ν 136 8) (e2 : ν' 136 11 = ν 136 11) (e3 : ν' 139 = ν 139) (e4 : ν' 140 = ν 140) (e5 : ν' 143 = ν 143) : mG ν' n d := by
  unfold mG at h ⊢
  rw [e1, e2, e3, e4, e5]
  exact h
theorem mG.mu {ν : Me} {n d a j : Nat} {x : Int32} (h : mG ν n d) (q : a = 137 ∨ a = 147 ∨ (a = 136 ∧ 13 ≤ j) ∨ 147 ≤ a) : mG (mu ν a j x) n d := by
  refine h.of ?_ ?_ ?_ ?_ ?_
  · rw [mu_at, if_neg (by omega)]
  · rw [mu_at, if_neg (by omega)]
  · rw [mu_ne (by omega)]
  · rw [mu_ne (by omega)]
  · rw [mu_ne (by omega)]
theorem mG.cpy {ν : Me} {n d x y : Nat} (h : mG ν n d) : ∀ i, mG (mCpy ν x y i) n d := by
  intro i
  induction i with
  | zero => exact h
  | succ i ih => exact ih.mu (Or.inl rfl)
theorem mG.copy {ν : Me} {n d x y : Nat} (h : mG ν n d) : mG (mCopy ν x y) n d := h.cpy 18
theorem mG.remL {ν : Me} {n d : Nat} (h : mG ν n d) : ∀ i, mG (mRemL ν i) n d := by
  intro i
  induction i with
  | zero => exact h
  | succ i ih => exact ih.copy
theorem mG.rem {ν : Me} {n d u : Nat} (h : mG ν n d) : mG (mRem ν u) n d := by
  unfold mRem
  split
  · exact (((h.remL 29).mu (by omega)).copy).mu (by omega)
  · exact h.copy.mu (by omega)
theorem cpy_ne {ν : Me} {x y a : Nat} (h : a ≠ 137) : ∀ i, mCpy ν x y i a = ν a := by
  intro i
  induction i with
  | zero => rfl
  | succ i ih => rw [mCpy, mu_ne h, ih]
theorem remL_ne {ν : Me} {a : Nat} (h : a ≠ 137) : ∀ i, mRemL ν i a = ν a := by
  intro i
  induction i with
  | zero => rfl
  | succ i ih => rw [mRemL, mCopy, cpy_ne h, ih]
def mVisA (ν : Me) (b s : Nat) (rg : Bool) : Int32 × Me := (if rg then ν 139 0 else 0, mu (mu ν 137 (b + s) 2) 136 20 (ν 136 20 + 1))
def mVisB (ν : Me) (b s : Nat) (rg nb : Bool) : Int32 × Me :=
  let m1 := mu ν 137 (b + s) (if nb then 3 else 4)
  let m2 := mu m1 137 (b + 7 + s) (m1 137 (b + 7 + s) + b2i nb)
  let m3 := mu m2 136 21 (m2 136 21 ||| (b2i (!nb) <<< (nI s &&& 31)))
  ((if rg then ν 139 0 else 0) + ν 139 2, mu m3 137 (b + 16) (m3 137 (b + 16) + b2i (!nb)))
def mHand (ν : Me) (s : Nat) (tm : Int32) (rg : Bool) : Bool := rg && mIsIn ν (nI s) (tm / 3600) && !decide (ν 142 s ≤ mDinAt ν (tm / 3600))
def mNb (ν : Me) (b s : Nat) (tm : Int32) : Bool := !decide (ν 143 s = -1) && mIsIn ν (ν 143 s) (tm / 3600) && !decide (ν 144 s ≤ ν 137 (b + 7 + s))
def mVisit (ν : Me) (b s : Nat) (tm : Int32) (rg : Bool) : Int32 × Me := if mHand ν s tm rg then mVisA ν b s rg else mVisB ν b s rg (mNb ν b s tm)
def mRing (haste : Int32) (tn : Nat) : Bool := decide (haste = 0) || !decide (nI tn - nI tn / (5 - haste) * (5 - haste) = 0)
theorem p7 (b s : Nat) : nI b + 7 + nI s = nI (b + 7 + s) := by rw [← nI_add, ← nI_add]; rfl
set_option maxHeartbeats 4000000 in
set_option maxRecDepth 100000 in
theorem l_X10_rem11 {μ : Me} {e : Nat × (Nat → aC)}  (hu : μ 136 22 = nI 30) : ∀ (m : Nat) (i : Nat), 29 - i < m → i ≤ 29 → AW none 1 0 0 mX10_remember 0 0 11 [some (.ref 136), some (.int (nI (i + 1)))] [] (wS (mRemL μ i) e) (a_eq none (wS (mRem μ 30) e)) := by
  intro m
  induction m with
  | zero => intro i hm; exact absurd hm (Nat.not_lt_zero _)
  | succ m ih =>
    intro i hm hc
    refine AW.iload_n (n := 12) dX10_remember_11 rfl rfl ?_
    refine AW.bipush (n := 14) (v := 30) dX10_remember_12 rfl rfl ?_
    refine AW.icmp_ge (n := 17) (t := 43) dX10_remember_14 rfl rfl (fun h14 => ?_) (fun h14 => ?_)
    · have hi : i = 29 := by have := le_lit (b := 30) (x := nI (i + 1)) rfl (by omega) (by omega) h14; omega
      subst hi
      refine AW.aload_n (n := 44) dX10_remember_43 rfl rfl ?_
      refine AW.dup (n := 45) dX10_remember_44 rfl rfl ?_
      refine AW.gi (n := 48) dX10_remember_45 fl_X10_143 s_136 rfl rfl ?_
      refine AW.iconst (n := 49) (v := 1) dX10_remember_48 rfl rfl ?_
      refine AW.isub (n := 50) dX10_remember_49 rfl ?_
      refine AW.pi (n := 53) dX10_remember_50 fp_X10_143 s_136 rfl ⟨rfl, rfl⟩ rfl ?_
      refine AW.aload_n (n := 54) dX10_remember_53 rfl rfl ?_
      refine AW.iconst (n := 55) (v := 0) dX10_remember_54 rfl rfl ?_
      refine AW.bipush (n := 57) (v := 72) dX10_remember_55 rfl rfl ?_
      refine AW.bipush (n := 59) (v := 18) dX10_remember_57 rfl rfl ?_
      refine AW.aload_n (n := 60) dX10_remember_59 rfl rfl ?_
      refine AW.gi (n := 63) dX10_remember_60 fl_X10_143 s_136 rfl rfl ?_
      refine AW.imul (n := 64) dX10_remember_63 rfl ?_
      refine AW.iadd (n := 65) dX10_remember_64 rfl ?_
      have e29 : mu (mRemL μ 29) 136 22 (mRemL μ 29 136 22 - 1) = mu (mRemL μ 29) 136 22 (nI 29) := by rw [remL_ne (by decide), hu]; rfl
      rw [e29, mu_same, p72]
      refine AW.ev2v (Mc := mX10_copy) (n := 68) dX10_remember_65 lk_X10_192 k_mX10_copy s_136 rfl rfl (c_X10_copy (x := 0) (y := 72 + 18 * 29) (by omega) (by omega)) (Nat.le_of_ble_eq_true rfl) (by decide) (Nat.zero_le _) (Nat.zero_le _) rfl ?_
      refine AW.aload_n (n := 69) dX10_remember_68 rfl rfl ?_
      refine AW.dup (n := 70) dX10_remember_69 rfl rfl ?_
      refine AW.gi (n := 73) dX10_remember_70 fl_X10_143 s_136 rfl rfl ?_
      refine AW.iconst (n := 74) (v := 1) dX10_remember_73 rfl rfl ?_
      refine AW.iadd (n := 75) dX10_remember_74 rfl ?_
      refine AW.pi (n := 78) dX10_remember_75 fp_X10_143 s_136 rfl ⟨rfl, rfl⟩ rfl ?_
      refine AW.ret dX10_remember_78 rfl (Nat.zero_le _) (Nat.zero_le _) ?_
      refine ⟨rfl, ?_⟩
      rw [mRem, if_pos rfl, mCopy, cpy_ne (by decide), mu_same]
      rfl
    · have hi : i < 29 := by have := nle_lit (b := 30) (x := nI (i + 1)) rfl (by omega) (by omega) h14; omega
      refine AW.aload_n (n := 18) dX10_remember_17 rfl rfl ?_
      refine AW.bipush (n := 20) (v := 72) dX10_remember_18 rfl rfl ?_
      refine AW.bipush (n := 22) (v := 18) dX10_remember_20 rfl rfl ?_
      refine AW.iload_n (n := 23) dX10_remember_22 rfl rfl ?_
      refine AW.imul (n := 24) dX10_remember_23 rfl ?_
      refine AW.iadd (n := 25) dX10_remember_24 rfl ?_
      refine AW.bipush (n := 27) (v := 72) dX10_remember_25 rfl rfl ?_
      refine AW.bipush (n := 29) (v := 18) dX10_remember_27 rfl rfl ?_
      refine AW.iload_n (n := 30) dX10_remember_29 rfl rfl ?_
      refine AW.iconst (n := 31) (v := 1) dX10_remember_30 rfl rfl ?_
      refine AW.isub (n := 32) dX10_remember_31 rfl ?_
      refine AW.imul (n := 33) dX10_remember_32 rfl ?_
      refine AW.iadd (n := 34) dX10_remember_33 rfl ?_
      rw [nI_pred, p72, p72]
      refine AW.ev2v (Mc := mX10_copy) (n := 37) dX10_remember_34 lk_X10_192 k_mX10_copy s_136 rfl rfl (c_X10_copy (x := 72 + 18 * (i + 1)) (y := 72 + 18 * i) (by omega) (by omega)) (Nat.le_of_ble_eq_true rfl) (by decide) (Nat.zero_le _) (Nat.zero_le _) rfl ?_
      refine AW.inc1 (n := 40) (1) dX10_remember_37 rfl (Nat.le_of_ble_eq_true rfl) rfl rfl ?_
      refine AW.goto (t := 11) dX10_remember_40 rfl ?_
      rw [nI_1]
      exact ih (i + 1) (by omega) (by omega)
set_option maxHeartbeats 4000000 in
set_option maxRecDepth 100000 in
theorem c_X10_remember {μ : Me} {e : Nat × (Nat → aC)} {u : Nat} (hu : μ 136 22 = nI u) (hu9 : u ≤ 30) : AC 1 0 0 mX10_remember [.ref 136] (wS μ e) (a_eq none (wS (mRem μ u) e)) := by
  refine AC.of (L := [some (.ref 136), none]) (j := 1) (by decide) rfl (Nat.le_of_ble_eq_true rfl) ?_
  refine AW.aload_n (n := 1) dX10_remember_0 rfl rfl ?_
  refine AW.gi (n := 4) dX10_remember_1 fl_X10_143 s_136 rfl rfl ?_
  refine AW.bipush (n := 6) (v := 30) dX10_remember_4 rfl rfl ?_
  refine AW.icmp_ne (n := 9) (t := 53) dX10_remember_6 rfl rfl (fun h6 => ?_) (fun h6 => ?_)
  · have h30 : ¬ u = 30 := by rintro rfl; exact h6 hu
    refine AW.aload_n (n := 54) dX10_remember_53 rfl rfl ?_
    refine AW.iconst (n := 55) (v := 0) dX10_remember_54 rfl rfl ?_
    refine AW.bipush (n := 57) (v := 72) dX10_remember_55 rfl rfl ?_
    refine AW.bipush (n := 59) (v := 18) dX10_remember_57 rfl rfl ?_
    refine AW.aload_n (n := 60) dX10_remember_59 rfl rfl ?_
    refine AW.gi (n := 63) dX10_remember_60 fl_X10_143 s_136 rfl rfl ?_
    refine AW.imul (n := 64) dX10_remember_63 rfl ?_
    refine AW.iadd (n := 65) dX10_remember_64 rfl ?_
    rw [hu, p72]
    refine AW.ev2v (Mc := mX10_copy) (n := 68) dX10_remember_65 lk_X10_192 k_mX10_copy s_136 rfl rfl (c_X10_copy (x := 0) (y := 72 + 18 * u) (by omega) (by omega)) (Nat.le_of_ble_eq_true rfl) (by decide) (Nat.zero_le _) (Nat.zero_le _) rfl ?_
    refine AW.aload_n (n := 69) dX10_remember_68 rfl rfl ?_
    refine AW.dup (n := 70) dX10_remember_69 rfl rfl ?_
    refine AW.gi (n := 73) dX10_remember_70 fl_X10_143 s_136 rfl rfl ?_
    refine AW.iconst (n := 74) (v := 1) dX10_remember_73 rfl rfl ?_
    refine AW.iadd (n := 75) dX10_remember_74 rfl ?_
    refine AW.pi (n := 78) dX10_remember_75 fp_X10_143 s_136 rfl ⟨rfl, rfl⟩ rfl ?_
    refine AW.ret dX10_remember_78 rfl (Nat.zero_le _) (Nat.zero_le _) ?_
    refine ⟨rfl, ?_⟩
    rw [mRem, if_neg h30, mCopy, cpy_ne (by decide), hu, nI_1]
  · have h30 : u = 30 := by rw [hu] at h6; exact (nI_eq (by omega) (by omega)).mp h6
    subst h30
    refine AW.iconst (n := 10) (v := 1) dX10_remember_9 rfl rfl ?_
    refine AW.ist1 (n := 11) dX10_remember_10 (Nat.le_of_ble_eq_true rfl) rfl rfl ?_
    exact l_X10_rem11 hu 30 0 (by omega) (by omega)
set_option maxHeartbeats 4000000 in
set_option maxRecDepth 100000 in
theorem l_X10_vis126 {μ : Me} {e : Nat × (Nat → aC)} {b s : Nat} {tm : Int32} {rg : Bool} (hb : b ≤ 54) (hs : s < 7) : ∀ nb : Bool, AW none 2 0 0 mX10_visit 0 0 128 [some (.ref 136), some (.int (nI b)), some (.int (nI s)), some (.int tm), some (.int (b2i rg)), some (.int (tm / 3600)), some (.int (if rg then μ 139 0 else 0)), some (.int (b2i nb))] [] (wS μ e) (a_eq (some (.int (mVisB μ b s rg nb).1)) (wS (mVisB μ b s rg nb).2 e)) := by
  intro nb
  cases nb with
  | true =>
    refine AW.aload_n (n := 129) dX10_visit_128 rfl rfl ?_
    refine AW.gr (n := 132) dX10_visit_129 fl_X10_7 s_136 rfl rfl ?_
    refine AW.iload_n (n := 133) dX10_visit_132 rfl rfl ?_
    refine AW.iload_n (n := 134) dX10_visit_133 rfl rfl ?_
    refine AW.iadd (n := 135) dX10_visit_134 rfl ?_
    refine AW.iload (n := 137) dX10_visit_135 rfl rfl ?_
    refine AW.if_eq (n := 140) (t := 144) dX10_visit_137 rfl rfl (fun h137 => ?_) (fun h137 => ?_)
    · exact absurd h137 (by decide)
    · refine AW.iconst (n := 141) (v := 3) dX10_visit_140 rfl rfl ?_
      refine AW.goto (t := 145) dX10_visit_141 rfl ?_
      refine AW.is (n := 146) (b + s) dX10_visit_145 s_137 (nI_add b s) (by omega) (by decide) rfl ?_
      refine AW.aload_n (n := 147) dX10_visit_146 rfl rfl ?_
      refine AW.gr (n := 150) dX10_visit_147 fl_X10_7 s_136 rfl rfl ?_
      refine AW.iload_n (n := 151) dX10_visit_150 rfl rfl ?_
      refine AW.bipush (n := 153) (v := 7) dX10_visit_151 rfl rfl ?_
      refine AW.iadd (n := 154) dX10_visit_153 rfl ?_
      refine AW.iload_n (n := 155) dX10_visit_154 rfl rfl ?_
      refine AW.iadd (n := 156) dX10_visit_155 rfl ?_
      refine AW.dup2 (n := 157) dX10_visit_156 rfl rfl rfl ?_
      refine AW.ia (n := 158) (b + 7 + s) dX10_visit_157 s_137 (p7 b s) (by omega) (by decide) rfl ?_
      refine AW.iload (n := 160) dX10_visit_158 rfl rfl ?_
      refine AW.es1i (Mc := mX10_one) (n := 163) dX10_visit_160 lk_X10_160 k_mX10_one (c_X10_one (b := true)) (Nat.le_of_ble_eq_true rfl) (by decide) (Nat.zero_le _) (Nat.zero_le _) rfl ?_
      refine AW.iadd (n := 164) dX10_visit_163 rfl ?_
      refine AW.is (n := 165) (b + 7 + s) dX10_visit_164 s_137 (p7 b s) (by omega) (by decide) rfl ?_
      refine AW.aload_n (n := 166) dX10_visit_165 rfl rfl ?_
      refine AW.dup (n := 167) dX10_visit_166 rfl rfl ?_
      refine AW.gi (n := 170) dX10_visit_167 fl_X10_179 s_136 rfl rfl ?_
      refine AW.iload (n := 172) dX10_visit_170 rfl rfl ?_
      refine AW.if_ne (n := 175) (t := 179) dX10_visit_172 rfl rfl (fun h172 => ?_) (fun h172 => ?_)
      · refine AW.iconst (n := 180) (v := 0) dX10_visit_179 rfl rfl ?_
        refine AW.es1i (Mc := mX10_one) (n := 183) dX10_visit_180 lk_X10_160 k_mX10_one (c_X10_one (b := false)) (Nat.le_of_ble_eq_true rfl) (by decide) (Nat.zero_le _) (Nat.zero_le _) rfl ?_
        refine AW.iload_n (n := 184) dX10_visit_183 rfl rfl ?_
        refine AW.ishl (n := 185) dX10_visit_184 rfl ?_
        refine AW.ior (n := 186) dX10_visit_185 rfl ?_
        refine AW.pi (n := 189) dX10_visit_186 fp_X10_179 s_136 rfl ⟨rfl, rfl⟩ rfl ?_
        refine AW.aload_n (n := 190) dX10_visit_189 rfl rfl ?_
        refine AW.gr (n := 193) dX10_visit_190 fl_X10_7 s_136 rfl rfl ?_
        refine AW.iload_n (n := 194) dX10_visit_193 rfl rfl ?_
        refine AW.bipush (n := 196) (v := 16) dX10_visit_194 rfl rfl ?_
        refine AW.iadd (n := 197) dX10_visit_196 rfl ?_
        refine AW.dup2 (n := 198) dX10_visit_197 rfl rfl rfl ?_
        refine AW.ia (n := 199) (b + 16) dX10_visit_198 s_137 (nI_add b 16) (by omega) (by decide) rfl ?_
        refine AW.iload (n := 201) dX10_visit_199 rfl rfl ?_
        refine AW.if_ne (n := 204) (t := 208) dX10_visit_201 rfl rfl (fun h201 => ?_) (fun h201 => ?_)
        · refine AW.iconst (n := 209) (v := 0) dX10_visit_208 rfl rfl ?_
          refine AW.es1i (Mc := mX10_one) (n := 212) dX10_visit_209 lk_X10_160 k_mX10_one (c_X10_one (b := false)) (Nat.le_of_ble_eq_true rfl) (by decide) (Nat.zero_le _) (Nat.zero_le _) rfl ?_
          refine AW.iadd (n := 213) dX10_visit_212 rfl ?_
          refine AW.is (n := 214) (b + 16) dX10_visit_213 s_137 (nI_add b 16) (by omega) (by decide) rfl ?_
          refine AW.iload (n := 216) dX10_visit_214 rfl rfl ?_
          refine AW.aload_n (n := 217) dX10_visit_216 rfl rfl ?_
          refine AW.gr (n := 220) dX10_visit_217 fl_X10_17 s_136 rfl rfl ?_
          refine AW.iconst (n := 221) (v := 2) dX10_visit_220 rfl rfl ?_
          refine AW.ia (n := 222) 2 dX10_visit_221 s_139 rfl (by decide) (by decide) rfl ?_
          refine AW.iadd (n := 223) dX10_visit_222 rfl ?_
          refine AW.iret dX10_visit_223 rfl rfl (Nat.zero_le _) (Nat.zero_le _) ?_
          exact ⟨by simp [mVisB, mu_at], by simp [mVisB, b2i]⟩
        · exact absurd h201 (by decide)
      · exact absurd h172 (by decide)
  | false =>
    refine AW.aload_n (n := 129) dX10_visit_128 rfl rfl ?_
    refine AW.gr (n := 132) dX10_visit_129 fl_X10_7 s_136 rfl rfl ?_
    refine AW.iload_n (n := 133) dX10_visit_132 rfl rfl ?_
    refine AW.iload_n (n := 134) dX10_visit_133 rfl rfl ?_
    refine AW.iadd (n := 135) dX10_visit_134 rfl ?_
    refine AW.iload (n := 137) dX10_visit_135 rfl rfl ?_
    refine AW.if_eq (n := 140) (t := 144) dX10_visit_137 rfl rfl (fun h137 => ?_) (fun h137 => ?_)
    · refine AW.iconst (n := 145) (v := 4) dX10_visit_144 rfl rfl ?_
      refine AW.is (n := 146) (b + s) dX10_visit_145 s_137 (nI_add b s) (by omega) (by decide) rfl ?_
      refine AW.aload_n (n := 147) dX10_visit_146 rfl rfl ?_
      refine AW.gr (n := 150) dX10_visit_147 fl_X10_7 s_136 rfl rfl ?_
      refine AW.iload_n (n := 151) dX10_visit_150 rfl rfl ?_
      refine AW.bipush (n := 153) (v := 7) dX10_visit_151 rfl rfl ?_
      refine AW.iadd (n := 154) dX10_visit_153 rfl ?_
      refine AW.iload_n (n := 155) dX10_visit_154 rfl rfl ?_
      refine AW.iadd (n := 156) dX10_visit_155 rfl ?_
      refine AW.dup2 (n := 157) dX10_visit_156 rfl rfl rfl ?_
      refine AW.ia (n := 158) (b + 7 + s) dX10_visit_157 s_137 (p7 b s) (by omega) (by decide) rfl ?_
      refine AW.iload (n := 160) dX10_visit_158 rfl rfl ?_
      refine AW.es1i (Mc := mX10_one) (n := 163) dX10_visit_160 lk_X10_160 k_mX10_one (c_X10_one (b := false)) (Nat.le_of_ble_eq_true rfl) (by decide) (Nat.zero_le _) (Nat.zero_le _) rfl ?_
      refine AW.iadd (n := 164) dX10_visit_163 rfl ?_
      refine AW.is (n := 165) (b + 7 + s) dX10_visit_164 s_137 (p7 b s) (by omega) (by decide) rfl ?_
      refine AW.aload_n (n := 166) dX10_visit_165 rfl rfl ?_
      refine AW.dup (n := 167) dX10_visit_166 rfl rfl ?_
      refine AW.gi (n := 170) dX10_visit_167 fl_X10_179 s_136 rfl rfl ?_
      refine AW.iload (n := 172) dX10_visit_170 rfl rfl ?_
      refine AW.if_ne (n := 175) (t := 179) dX10_visit_172 rfl rfl (fun h172 => ?_) (fun h172 => ?_)
      · exact absurd h172 (by decide)
      · refine AW.iconst (n := 176) (v := 1) dX10_visit_175 rfl rfl ?_
        refine AW.goto (t := 180) dX10_visit_176 rfl ?_
        refine AW.es1i (Mc := mX10_one) (n := 183) dX10_visit_180 lk_X10_160 k_mX10_one (c_X10_one (b := true)) (Nat.le_of_ble_eq_true rfl) (by decide) (Nat.zero_le _) (Nat.zero_le _) rfl ?_
        refine AW.iload_n (n := 184) dX10_visit_183 rfl rfl ?_
        refine AW.ishl (n := 185) dX10_visit_184 rfl ?_
        refine AW.ior (n := 186) dX10_visit_185 rfl ?_
        refine AW.pi (n := 189) dX10_visit_186 fp_X10_179 s_136 rfl ⟨rfl, rfl⟩ rfl ?_
        refine AW.aload_n (n := 190) dX10_visit_189 rfl rfl ?_
        refine AW.gr (n := 193) dX10_visit_190 fl_X10_7 s_136 rfl rfl ?_
        refine AW.iload_n (n := 194) dX10_visit_193 rfl rfl ?_
        refine AW.bipush (n := 196) (v := 16) dX10_visit_194 rfl rfl ?_
        refine AW.iadd (n := 197) dX10_visit_196 rfl ?_
        refine AW.dup2 (n := 198) dX10_visit_197 rfl rfl rfl ?_
        refine AW.ia (n := 199) (b + 16) dX10_visit_198 s_137 (nI_add b 16) (by omega) (by decide) rfl ?_
        refine AW.iload (n := 201) dX10_visit_199 rfl rfl ?_
        refine AW.if_ne (n := 204) (t := 208) dX10_visit_201 rfl rfl (fun h201 => ?_) (fun h201 => ?_)
        · exact absurd h201 (by decide)
        · refine AW.iconst (n := 205) (v := 1) dX10_visit_204 rfl rfl ?_
          refine AW.goto (t := 209) dX10_visit_205 rfl ?_
          refine AW.es1i (Mc := mX10_one) (n := 212) dX10_visit_209 lk_X10_160 k_mX10_one (c_X10_one (b := true)) (Nat.le_of_ble_eq_true rfl) (by decide) (Nat.zero_le _) (Nat.zero_le _) rfl ?_
          refine AW.iadd (n := 213) dX10_visit_212 rfl ?_
          refine AW.is (n := 214) (b + 16) dX10_visit_213 s_137 (nI_add b 16) (by omega) (by decide) rfl ?_
          refine AW.iload (n := 216) dX10_visit_214 rfl rfl ?_
          refine AW.aload_n (n := 217) dX10_visit_216 rfl rfl ?_
          refine AW.gr (n := 220) dX10_visit_217 fl_X10_17 s_136 rfl rfl ?_
          refine AW.iconst (n := 221) (v := 2) dX10_visit_220 rfl rfl ?_
          refine AW.ia (n := 222) 2 dX10_visit_221 s_139 rfl (by decide) (by decide) rfl ?_
          refine AW.iadd (n := 223) dX10_visit_222 rfl ?_
          refine AW.iret dX10_visit_223 rfl rfl (Nat.zero_le _) (Nat.zero_le _) ?_
          exact ⟨by simp [mVisB, mu_at], by simp [mVisB, b2i]⟩
    · exact absurd h137 (by decide)
set_option maxHeartbeats 4000000 in
set_option maxRecDepth 100000 in
theorem l_X10_vis76 {μ : Me} {e : Nat × (Nat → aC)} {b s n d : Nat} {tm : Int32} {rg : Bool} {L7 : Option Value} (hb : b ≤ 54) (hG : mG μ n d) (hs : s < n) : AW none 2 0 0 mX10_visit 0 0 76 [some (.ref 136), some (.int (nI b)), some (.int (nI s)), some (.int tm), some (.int (b2i rg)), some (.int (tm / 3600)), some (.int (if rg then μ 139 0 else 0)), L7] [] (wS μ e) (a_eq (some (.int (mVisB μ b s rg (mNb μ b s tm)).1)) (wS (mVisB μ b s rg (mNb μ b s tm)).2 e)) := by
  have h7 := hG.2.1
  have hv := hG.2.2.2.2.2.2 s hs
  refine AW.aload_n (n := 77) dX10_visit_76 rfl rfl ?_
  refine AW.gr (n := 80) dX10_visit_77 fl_X10_29 s_136 rfl rfl ?_
  refine AW.iload_n (n := 81) dX10_visit_80 rfl rfl ?_
  refine AW.ia (n := 82) s dX10_visit_81 s_143 rfl (by omega) (by decide) rfl ?_
  refine AW.iconst (n := 83) (v := -1) dX10_visit_82 rfl rfl ?_
  refine AW.icmp_eq (n := 86) (t := 125) dX10_visit_83 rfl rfl (fun h83 => ?_) (fun h83 => ?_)
  · refine AW.iconst (n := 126) (v := 0) dX10_visit_125 rfl rfl ?_
    refine AW.ist7 (n := 128) dX10_visit_126 (Nat.le_of_ble_eq_true rfl) rfl rfl ?_
    have e9 : mNb μ b s tm = false := by simp [mNb, h83]
    rw [e9]
    exact l_X10_vis126 hb (by omega) false
  · refine AW.aload_n (n := 87) dX10_visit_86 rfl rfl ?_
    refine AW.aload_n (n := 88) dX10_visit_87 rfl rfl ?_
    refine AW.gr (n := 91) dX10_visit_88 fl_X10_29 s_136 rfl rfl ?_
    refine AW.iload_n (n := 92) dX10_visit_91 rfl rfl ?_
    refine AW.ia (n := 93) s dX10_visit_92 s_143 rfl (by omega) (by decide) rfl ?_
    refine AW.iload (n := 95) dX10_visit_93 rfl rfl ?_
    obtain ⟨j, hj, hj7⟩ := hv.resolve_left h83
    rw [hj]
    refine AW.ev2i (Mc := mX10_isInAt) (n := 98) dX10_visit_95 lk_X10_173 k_mX10_isInAt s_136 rfl rfl (c_X10_isInAt (j := j) (by omega)) (Nat.le_of_ble_eq_true rfl) (by decide) (Nat.zero_le _) (Nat.zero_le _) rfl ?_
    refine AW.bif_eq (n := 101) (t := 125) dX10_visit_98 rfl rfl (fun h98 => ?_) (fun h98 => ?_)
    · refine AW.iconst (n := 126) (v := 0) dX10_visit_125 rfl rfl ?_
      refine AW.ist7 (n := 128) dX10_visit_126 (Nat.le_of_ble_eq_true rfl) rfl rfl ?_
      rw [← hj] at h98
      have e9 : mNb μ b s tm = false := by simp [mNb, h83, h98]
      rw [e9]
      exact l_X10_vis126 hb (by omega) false
    · refine AW.aload_n (n := 102) dX10_visit_101 rfl rfl ?_
      refine AW.gr (n := 105) dX10_visit_102 fl_X10_7 s_136 rfl rfl ?_
      refine AW.iload_n (n := 106) dX10_visit_105 rfl rfl ?_
      refine AW.bipush (n := 108) (v := 7) dX10_visit_106 rfl rfl ?_
      refine AW.iadd (n := 109) dX10_visit_108 rfl ?_
      refine AW.iload_n (n := 110) dX10_visit_109 rfl rfl ?_
      refine AW.iadd (n := 111) dX10_visit_110 rfl ?_
      refine AW.ia (n := 112) (b + 7 + s) dX10_visit_111 s_137 (p7 b s) (by omega) (by decide) rfl ?_
      refine AW.aload_n (n := 113) dX10_visit_112 rfl rfl ?_
      refine AW.gr (n := 116) dX10_visit_113 fl_X10_32 s_136 rfl rfl ?_
      refine AW.iload_n (n := 117) dX10_visit_116 rfl rfl ?_
      refine AW.ia (n := 118) s dX10_visit_117 s_144 rfl (by omega) (by decide) rfl ?_
      refine AW.icmp_ge (n := 121) (t := 125) dX10_visit_118 rfl rfl (fun h118 => ?_) (fun h118 => ?_)
      · refine AW.iconst (n := 126) (v := 0) dX10_visit_125 rfl rfl ?_
        refine AW.ist7 (n := 128) dX10_visit_126 (Nat.le_of_ble_eq_true rfl) rfl rfl ?_
        rw [← hj] at h98
        have e9 : mNb μ b s tm = false := by simp [mNb, h83, h98, h118]
        rw [e9]
        exact l_X10_vis126 hb (by omega) false
      · refine AW.iconst (n := 122) (v := 1) dX10_visit_121 rfl rfl ?_
        refine AW.goto (t := 126) dX10_visit_122 rfl ?_
        refine AW.ist7 (n := 128) dX10_visit_126 (Nat.le_of_ble_eq_true rfl) rfl rfl ?_
        rw [← hj] at h98
        have e9 : mNb μ b s tm = true := by simp [mNb, h83, h98, h118]
        rw [e9]
        exact l_X10_vis126 hb (by omega) true
set_option maxHeartbeats 4000000 in
set_option maxRecDepth 100000 in
theorem c_X10_visit {μ : Me} {e : Nat × (Nat → aC)} {b s t n d : Nat} {tm : Int32} {rg : Bool} (hb : b ≤ 54) (hG : mG μ n d) (hs : s < n) (ht : tm = nI t) (ht9 : t < 2147483648) : AC 2 0 0 mX10_visit [.ref 136, .int (nI b), .int (nI s), .int tm, .int (b2i rg)] (wS μ e) (a_eq (some (.int ((mVisit μ b s tm rg).1))) (wS ((mVisit μ b s tm rg).2) e)) := by
  refine AC.of (L := [some (.ref 136), some (.int (nI b)), some (.int (nI s)), some (.int tm), some (.int (b2i rg)), none, none, none]) (j := 3) (by decide) rfl (Nat.le_of_ble_eq_true rfl) ?_
  have h7 := hG.2.1
  have hh : tm / 3600 = nI (t / 3600) := by rw [ht]; exact pk_div (d := 3600) ht9 (by decide) (by decide)
  refine AW.iload_n (n := 1) dX10_visit_0 rfl rfl ?_
  refine AW.sipush (n := 4) (v := 3600) dX10_visit_1 rfl rfl ?_
  refine AW.idiv (n := 5) dX10_visit_4 (by decide) rfl ?_
  refine AW.ist5 (n := 7) dX10_visit_5 (Nat.le_of_ble_eq_true rfl) rfl rfl ?_
  refine AW.iload (n := 9) dX10_visit_7 rfl rfl ?_
  refine AW.bif_eq (n := 12) (t := 21) dX10_visit_9 rfl rfl (fun h9 => ?_) (fun h9 => ?_)
  · refine AW.iconst (n := 22) (v := 0) dX10_visit_21 rfl rfl ?_
    refine AW.ist6 (n := 24) dX10_visit_22 (Nat.le_of_ble_eq_true rfl) rfl rfl ?_
    refine AW.iload (n := 26) dX10_visit_24 rfl rfl ?_
    refine AW.bif_eq (n := 29) (t := 76) dX10_visit_26 rfl rfl (fun h26 => ?_) (fun h26 => ?_)
    · have e8 : mHand μ s tm rg = false := by simp [mHand, h9, h26]
      rw [mVisit, e8, if_neg (by decide)]
      refine AW.eqL ?_ (l_X10_vis76 (rg := rg) (L7 := none) hb hG hs)
      simp [h9]
    · exact absurd (h9.symm.trans h26) (by decide)
  · refine AW.aload_n (n := 13) dX10_visit_12 rfl rfl ?_
    refine AW.gr (n := 16) dX10_visit_13 fl_X10_17 s_136 rfl rfl ?_
    refine AW.iconst (n := 17) (v := 0) dX10_visit_16 rfl rfl ?_
    refine AW.ia (n := 18) 0 dX10_visit_17 s_139 rfl (by decide) (by decide) rfl ?_
    refine AW.goto (t := 22) dX10_visit_18 rfl ?_
    refine AW.ist6 (n := 24) dX10_visit_22 (Nat.le_of_ble_eq_true rfl) rfl rfl ?_
    refine AW.iload (n := 26) dX10_visit_24 rfl rfl ?_
    refine AW.bif_eq (n := 29) (t := 76) dX10_visit_26 rfl rfl (fun h26 => ?_) (fun h26 => ?_)
    · exact absurd (h9.symm.trans h26) (by decide)
    · refine AW.aload_n (n := 30) dX10_visit_29 rfl rfl ?_
      refine AW.iload_n (n := 31) dX10_visit_30 rfl rfl ?_
      refine AW.iload (n := 33) dX10_visit_31 rfl rfl ?_
      refine AW.ev2i (Mc := mX10_isInAt) (n := 36) dX10_visit_33 lk_X10_173 k_mX10_isInAt s_136 rfl rfl (c_X10_isInAt (j := s) (by omega)) (Nat.le_of_ble_eq_true rfl) (by decide) (Nat.zero_le _) (Nat.zero_le _) rfl ?_
      refine AW.bif_eq (n := 39) (t := 76) dX10_visit_36 rfl rfl (fun h36 => ?_) (fun h36 => ?_)
      · have e8 : mHand μ s tm rg = false := by simp [mHand, h9, h26, h36]
        rw [mVisit, e8, if_neg (by decide)]
        refine AW.eqL ?_ (l_X10_vis76 (rg := rg) (L7 := none) hb hG hs)
        simp [h9]
      · refine AW.aload_n (n := 40) dX10_visit_39 rfl rfl ?_
        refine AW.iload (n := 42) dX10_visit_40 rfl rfl ?_
        rw [hh]
        rw [hh] at h36
        refine AW.ev1i (Mc := mX10_dinAt) (n := 45) dX10_visit_42 lk_X10_170 k_mX10_dinAt s_136 rfl rfl (c_X10_dinAt hG.2.2.1 hG.2.2.2.1 (by omega)) (Nat.le_of_ble_eq_true rfl) (by decide) (Nat.zero_le _) (Nat.zero_le _) rfl ?_
        refine AW.aload_n (n := 46) dX10_visit_45 rfl rfl ?_
        refine AW.gr (n := 49) dX10_visit_46 fl_X10_26 s_136 rfl rfl ?_
        refine AW.iload_n (n := 50) dX10_visit_49 rfl rfl ?_
        refine AW.ia (n := 51) s dX10_visit_50 s_142 rfl (by omega) (by decide) rfl ?_
        refine AW.icmp_ge (n := 54) (t := 76) dX10_visit_51 rfl rfl (fun h51 => ?_) (fun h51 => ?_)
        · have e8 : mHand μ s tm rg = false := by simp [mHand, h9, h26, h36, h51, hh]
          rw [mVisit, e8, if_neg (by decide)]
          refine AW.eqL ?_ (l_X10_vis76 (rg := rg) (L7 := none) hb hG hs)
          simp [h9, hh]
        · refine AW.aload_n (n := 55) dX10_visit_54 rfl rfl ?_
          refine AW.gr (n := 58) dX10_visit_55 fl_X10_7 s_136 rfl rfl ?_
          refine AW.iload_n (n := 59) dX10_visit_58 rfl rfl ?_
          refine AW.iload_n (n := 60) dX10_visit_59 rfl rfl ?_
          refine AW.iadd (n := 61) dX10_visit_60 rfl ?_
          refine AW.iconst (n := 62) (v := 2) dX10_visit_61 rfl rfl ?_
          refine AW.is (n := 63) (b + s) dX10_visit_62 s_137 (nI_add b s) (by omega) (by decide) rfl ?_
          refine AW.aload_n (n := 64) dX10_visit_63 rfl rfl ?_
          refine AW.dup (n := 65) dX10_visit_64 rfl rfl ?_
          refine AW.gi (n := 68) dX10_visit_65 fl_X10_176 s_136 rfl rfl ?_
          refine AW.iconst (n := 69) (v := 1) dX10_visit_68 rfl rfl ?_
          refine AW.iadd (n := 70) dX10_visit_69 rfl ?_
          refine AW.pi (n := 73) dX10_visit_70 fp_X10_176 s_136 rfl ⟨rfl, rfl⟩ rfl ?_
          refine AW.iload (n := 75) dX10_visit_73 rfl rfl ?_
          refine AW.iret dX10_visit_75 rfl rfl (Nat.zero_le _) (Nat.zero_le _) ?_
          have e8 : mHand μ s tm rg = true := by simp [mHand, hh, h9, h26, h36, h51]
          rw [mVisit, e8, if_pos rfl]
          exact ⟨by simp [mVisA, h9], by simp [mVisA, mu_at]⟩
