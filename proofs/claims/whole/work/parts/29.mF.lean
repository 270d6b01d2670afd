theorem eOk.set {ν : Me} {a j : Nat} {x : Int32} (h : eOk ν) (hj : a = 136 → j ≠ 9 ∧ j ≠ 17) : eOk (mu ν a j x) := by
  refine h.of ?_ ?_
  · rw [mu_at, if_neg]; rintro ⟨q1, q2⟩; exact (hj q1.symm).1 q2.symm
  · rw [mu_at, if_neg]; rintro ⟨q1, q2⟩; exact (hj q1.symm).2 q2.symm
theorem eOk.inTo {ν : Me} {a j : Nat} {lo hi : Int32} (h : eOk ν) (ha : a ≠ 136) : eOk (mInTo ν a j lo hi) := h.inn.set (fun q => absurd q ha)
theorem eOk.here {ν : Me} (h : eOk ν) : eOk (mHere ν).2 := h.of (mHere_j (by decide)) (mHere_j (by decide))
theorem eOk.inc {ν : Me} (h : eOk ν) : eOk (mInc ν) := h.set (fun _ => ⟨by decide, by decide⟩)
theorem eOk.rule {ν : Me} {w : Int32} (h : eOk ν) : eOk (mRule ν w) := by
  have h1 : eOk (mWant ν (decide (ν 139 3 = 0)) 3 w) := h.want 3 (by decide)
  unfold mRule; split
  · exact ((h1.inn.inTo (by decide)).inTo (by decide)).set (fun q => absurd q (by decide))
  · exact h1
theorem eOk.stop {ν : Me} {w : Int32} (h : eOk ν) : eOk (mStop ν w) := by
  have h1 : eOk (mWant ν (!decide (7 ≤ ν 136 9)) 3 w) := h.want 3 (by decide)
  unfold mStop
  split
  · next hk =>
    obtain ⟨g1, g2⟩ := mWant_ok (by decide) hk
    have h7 : mnOf ν < 7 := by
      rw [Bool.not_eq_true', decide_eq_false_iff_not] at g1
      exact nle_lit (b := 7) h.n.1 (by have := h.n.2; omega) (by omega) g1
    have h2 := ((((h1.inTo (a := 140) (j := 7 + mnOf ν) (lo := 0) (hi := 99) (by decide)).inTo (a := 141) (j := 7 + mnOf ν) (lo := 0) (hi := 4095) (by decide)).inTo (a := 142) (j := 7 + mnOf ν) (lo := 0) (hi := 9) (by decide)).set (a := 143) (j := 7 + mnOf ν) (x := -1) (fun q => absurd q (by decide))).set (a := 144) (j := 7 + mnOf ν) (x := 0) (fun q => absurd q (by decide))
    refine ⟨⟨mnOf ν + 1, mu_same _ _ _ _, by omega⟩, ?_⟩
    exact h2.2.of (mu_nj (by decide))
  · exact h1
theorem eOk.dinM {ν : Me} {dn : Nat} (h : eOk ν) : eOk (mDinM ν dn) := (h.inTo (by decide)).set (fun _ => ⟨by decide, by decide⟩)
theorem eOk.dinL : ∀ (m dn : Nat) (ν : Me), eOk ν → eOk (mDinL m dn ν) := by
  intro m
  induction m with
  | zero => intro dn ν h; exact h
  | succ m ih =>
    intro dn ν h
    rw [mDinL]
    have h2 : eOk (mWant (mHere (mDinM ν dn)).2 (decide (dn + 1 < 12)) 1 ((mHere (mDinM ν dn)).2 136 15)) := h.dinM.here.want 1 (by decide)
    split
    · split
      · split
        · exact ih _ _ h2.inc
        · exact h2
      · exact h.dinM.here
    · exact h.dinM
theorem eOk.dins {ν : Me} {w : Int32} (h : eOk ν) : eOk (mDins ν w) := by
  have h1 : eOk (mWant ν (decide (ν 136 12 = 0)) 3 w) := h.want 3 (by decide)
  unfold mDins; split
  · exact eOk.dinL _ _ _ h1
  · exact h1
theorem eOk.neiB {ν : Me} {s : Int32} (h : eOk ν) : eOk (mNeiB ν s) := by
  have h1 : eOk (mWant (mIn ν 0 (ν 136 9 - 1)).2 (!decide ((mIn ν 0 (ν 136 9 - 1)).1 = s)) 4 ((mIn ν 0 (ν 136 9 - 1)).2 136 16)) := h.inn.want 4 (by decide)
  unfold mNeiB
  dsimp only
  split
  · split
    · exact (h1.inTo (by decide)).set (fun q => absurd q (by decide))
    · exact h1
  · exact h.inn
theorem eOk.nei {ν : Me} (h : eOk ν) : eOk (mNei ν) := by
  have h1 : eOk (mWant (mIn ν 0 (ν 136 9 - 1)).2 (decide ((mIn ν 0 (ν 136 9 - 1)).2 143 (7 + (mIn ν 0 (ν 136 9 - 1)).1.toNatClampNeg) = -1)) 4 ((mIn ν 0 (ν 136 9 - 1)).2 136 16)) := h.inn.want 4 (by decide)
  unfold mNei
  dsimp only
  split
  · split
    · exact h1.neiB
    · exact h1
  · exact h.inn
theorem eOk.clause {ν : Me} (h : eOk ν) : eOk (mClause ν) := by
  have h1 : eOk (mClA ν) := h.here.inc.want 1 (by decide)
  have h2 : eOk (mWant (mClA ν) (decide ((mHere ν).1 = 110)) 1 ((mHere ν).2 136 15)) := h1.want 1 (by decide)
  unfold mClause; split
  · unfold mClauseB
    split
    · exact h1.rule
    · split
      · exact h1.stop
      · split
        · exact h1.dins
        · split
          · exact h2.nei
          · exact h2
  · exact h1
def mStrS (ν : Me) : Me :=
  if mClause ν 136 17 = 0 then
    (if mOkB (mWant (mHere (mClause ν)).2 (decide ((mHere (mClause ν)).1 = 59)) 1 ((mHere (mClause ν)).2 136 15)) then mInc (mWant (mHere (mClause ν)).2 (decide ((mHere (mClause ν)).1 = 59)) 1 ((mHere (mClause ν)).2 136 15))
      else mWant (mHere (mClause ν)).2 (decide ((mHere (mClause ν)).1 = 59)) 1 ((mHere (mClause ν)).2 136 15))
  else mClause ν
def mStrL : Nat → Me → Me
  | 0, ν => ν
  | m + 1, ν => if ν 136 17 = 0 then (if (mHere ν).1 < 0 then (mHere ν).2 else mStrL m (mStrS (mHere ν).2)) else ν
theorem uOk.strS {B : Nat} {ν : Me} (h : uOk B ν) (hB : 240 ≤ B) (hB9 : B ≤ 50000) : uOk (B + 14) (mStrS ν) ∧ mPos ν + 1 ≤ mAt (mStrS ν) := by
  obtain ⟨a1, b1⟩ := h.mclause hB (by omega)
  have a2 := a1.here (by omega) (by omega)
  have b2 : mPos ν + 1 ≤ mAt (mHere (mClause ν)).2 := by rw [at_here a1 (by omega) (by omega)]; exact Nat.le_trans b1 (pos_ge _)
  unfold mStrS; split
  · split
    · refine ⟨uOk.inc a2.want, ?_⟩
      rw [at_inc a2.want (by omega), at_want]; omega
    · exact ⟨a2.want.up (by omega), by rw [at_want]; exact b2⟩
  · exact ⟨a1.up (by omega), b1⟩
theorem eOk.strS {ν : Me} (h : eOk ν) : eOk (mStrS ν) := by
  have h1 : eOk (mWant (mHere (mClause ν)).2 (decide ((mHere (mClause ν)).1 = 59)) 1 ((mHere (mClause ν)).2 136 15)) := h.clause.here.want 1 (by decide)
  unfold mStrS; split
  · split
    · exact h1.inc
    · exact h1
  · exact h.clause
def mR0 (ν : Me) : Nat → Me
  | 0 => ν
  | i + 1 => mu (mR0 ν i) 139 (3 + i) 0
def mTk1 (ν : Me) : Nat → Me
  | 0 => ν
  | i + 1 => mu (mTk1 ν i) 139 i (mTk1 ν i 139 (3 + i))
def mTk2 (ν : Me) : Nat → Me
  | 0 => ν
  | i + 1 => mu (mTk2 ν i) 145 i (mTk2 ν i 145 (12 + i))
def mTk3S (ν : Me) (i : Nat) : Me :=
  let n1 := mu ν 140 i (ν 140 (7 + i))
  let n2 := mu n1 141 i (n1 141 (7 + i))
  let n3 := mu n2 142 i (n2 142 (7 + i))
  let n4 := mu n3 143 i (n3 143 (7 + i))
  let n5 := mu n4 144 i (n4 144 (7 + i))
  mu (mu n5 137 i 1) 137 (7 + i) 0
def mTk3 (ν : Me) : Nat → Me
  | 0 => ν
  | i + 1 => mTk3S (mTk3 ν i) i
def mTkE (ν : Me) : Me := mu (mu (mu (mu (mu (mu (mu (mu ν 137 14 0) 137 15 0) 137 16 0) 136 26 0) 136 30 0) 136 22 0) 138 0 0) 138 1 0
def mTake (ν : Me) : Me :=
  let n1 := mTk1 ν 3
  let n2 := mu n1 136 8 (n1 136 9)
  let n3 := mu n2 136 11 (n2 136 12)
  mTkE (mTk3 (mTk2 n3 12) 7)
def mStr0 (ν : Me) : Me := mR0 (mu (mu (mu (mu (mu ν 136 15 0) 136 17 0) 136 18 (-1)) 136 9 0) 136 12 0) 3
def qStreet (ν : Me) : Int32 × Me :=
  let n1 := mu (mStrL 241 (mStr0 ν)) 136 14 0
  if n1 136 17 ≤ 0 then (mTake n1 136 8, mTake n1) else (-10 - n1 136 17, n1)
set_option maxHeartbeats 4000000 in
set_option maxRecDepth 100000 in
theorem l_X10_take3 {μ : Me} {e : Nat × (Nat → aC)}   : ∀ (m : Nat) (i : Nat), 7 - i < m → i ≤ 7 → AW none 0 0 0 mX10_take 0 0 74 [some (.ref 136), some (.int (nI i))] [] (wS (mTk3 μ i) e) (a_eq none (wS (mTkE (mTk3 μ 7)) e)) := by
  intro m
  induction m with
  | zero => intro i hm; exact absurd hm (Nat.not_lt_zero _)
  | succ m ih =>
    intro i hm hc
    refine AW.iload_n (n := 75) dX10_take_74 rfl rfl ?_
    refine AW.bipush (n := 77) (v := 7) dX10_take_75 rfl rfl ?_
    refine AW.icmp_ge (n := 80) (t := 178) dX10_take_77 rfl rfl (fun h77 => ?_) (fun h77 => ?_)
    · have hi : 7 ≤ i := le_lit (b := 7) (x := nI i) rfl (by omega) (by omega) h77
      have he : i = 7 := by omega
      subst he
      refine AW.aload_n (n := 179) dX10_take_178 rfl rfl ?_
      refine AW.gr (n := 182) dX10_take_179 fl_X10_7 s_136 rfl rfl ?_
      refine AW.bipush (n := 184) (v := 14) dX10_take_182 rfl rfl ?_
      refine AW.iconst (n := 185) (v := 0) dX10_take_184 rfl rfl ?_
      refine AW.is (n := 186) 14 dX10_take_185 s_137 rfl (by decide) (by decide) rfl ?_
      refine AW.aload_n (n := 187) dX10_take_186 rfl rfl ?_
      refine AW.gr (n := 190) dX10_take_187 fl_X10_7 s_136 rfl rfl ?_
      refine AW.bipush (n := 192) (v := 15) dX10_take_190 rfl rfl ?_
      refine AW.iconst (n := 193) (v := 0) dX10_take_192 rfl rfl ?_
      refine AW.is (n := 194) 15 dX10_take_193 s_137 rfl (by decide) (by decide) rfl ?_
      refine AW.aload_n (n := 195) dX10_take_194 rfl rfl ?_
      refine AW.gr (n := 198) dX10_take_195 fl_X10_7 s_136 rfl rfl ?_
      refine AW.bipush (n := 200) (v := 16) dX10_take_198 rfl rfl ?_
      refine AW.iconst (n := 201) (v := 0) dX10_take_200 rfl rfl ?_
      refine AW.is (n := 202) 16 dX10_take_201 s_137 rfl (by decide) (by decide) rfl ?_
      refine AW.aload_n (n := 203) dX10_take_202 rfl rfl ?_
      refine AW.iconst (n := 204) (v := 0) dX10_take_203 rfl rfl ?_
      refine AW.pi (n := 207) dX10_take_204 fp_X10_137 s_136 rfl ⟨rfl, rfl⟩ rfl ?_
      refine AW.aload_n (n := 208) dX10_take_207 rfl rfl ?_
      refine AW.iconst (n := 209) (v := 0) dX10_take_208 rfl rfl ?_
      refine AW.pi (n := 212) dX10_take_209 fp_X10_140 s_136 rfl ⟨rfl, rfl⟩ rfl ?_
      refine AW.aload_n (n := 213) dX10_take_212 rfl rfl ?_
      refine AW.iconst (n := 214) (v := 0) dX10_take_213 rfl rfl ?_
      refine AW.pi (n := 217) dX10_take_214 fp_X10_143 s_136 rfl ⟨rfl, rfl⟩ rfl ?_
      refine AW.aload_n (n := 218) dX10_take_217 rfl rfl ?_
      refine AW.gr (n := 221) dX10_take_218 fl_X10_13 s_136 rfl rfl ?_
      refine AW.iconst (n := 222) (v := 0) dX10_take_221 rfl rfl ?_
      refine AW.iconst (n := 223) (v := 0) dX10_take_222 rfl rfl ?_
      refine AW.zs (n := 224) 0 dX10_take_223 s_138 rfl (by decide) (by decide) rfl rfl ?_
      refine AW.aload_n (n := 225) dX10_take_224 rfl rfl ?_
      refine AW.gr (n := 228) dX10_take_225 fl_X10_13 s_136 rfl rfl ?_
      refine AW.iconst (n := 229) (v := 1) dX10_take_228 rfl rfl ?_
      refine AW.iconst (n := 230) (v := 0) dX10_take_229 rfl rfl ?_
      refine AW.zs (n := 231) 1 dX10_take_230 s_138 rfl (by decide) (by decide) rfl rfl ?_
      refine AW.ret dX10_take_231 rfl (Nat.zero_le _) (Nat.zero_le _) ?_
      exact ⟨rfl, rfl⟩
    · have hi : i < 7 := nle_lit (b := 7) (x := nI i) rfl (by omega) (by omega) h77
      refine AW.aload_n (n := 81) dX10_take_80 rfl rfl ?_
      refine AW.gr (n := 84) dX10_take_81 fl_X10_20 s_136 rfl rfl ?_
      refine AW.iload_n (n := 85) dX10_take_84 rfl rfl ?_
      refine AW.aload_n (n := 86) dX10_take_85 rfl rfl ?_
      refine AW.gr (n := 89) dX10_take_86 fl_X10_20 s_136 rfl rfl ?_
      refine AW.bipush (n := 91) (v := 7) dX10_take_89 rfl rfl ?_
      refine AW.iload_n (n := 92) dX10_take_91 rfl rfl ?_
      refine AW.iadd (n := 93) dX10_take_92 rfl ?_
      rw [show (7 : Int32) + nI i = nI (7 + i) from nI_add 7 i]
      refine AW.ia (n := 94) (7 + i) dX10_take_93 s_140 rfl (by omega) (by decide) rfl ?_
      refine AW.is (n := 95) i dX10_take_94 s_140 rfl (by omega) (by decide) rfl ?_
      refine AW.aload_n (n := 96) dX10_take_95 rfl rfl ?_
      refine AW.gr (n := 99) dX10_take_96 fl_X10_23 s_136 rfl rfl ?_
      refine AW.iload_n (n := 100) dX10_take_99 rfl rfl ?_
      refine AW.aload_n (n := 101) dX10_take_100 rfl rfl ?_
      refine AW.gr (n := 104) dX10_take_101 fl_X10_23 s_136 rfl rfl ?_
      refine AW.bipush (n := 106) (v := 7) dX10_take_104 rfl rfl ?_
      refine AW.iload_n (n := 107) dX10_take_106 rfl rfl ?_
      refine AW.iadd (n := 108) dX10_take_107 rfl ?_
      rw [show (7 : Int32) + nI i = nI (7 + i) from nI_add 7 i]
      refine AW.ia (n := 109) (7 + i) dX10_take_108 s_141 rfl (by omega) (by decide) rfl ?_
      refine AW.is (n := 110) i dX10_take_109 s_141 rfl (by omega) (by decide) rfl ?_
      refine AW.aload_n (n := 111) dX10_take_110 rfl rfl ?_
      refine AW.gr (n := 114) dX10_take_111 fl_X10_26 s_136 rfl rfl ?_
      refine AW.iload_n (n := 115) dX10_take_114 rfl rfl ?_
      refine AW.aload_n (n := 116) dX10_take_115 rfl rfl ?_
      refine AW.gr (n := 119) dX10_take_116 fl_X10_26 s_136 rfl rfl ?_
      refine AW.bipush (n := 121) (v := 7) dX10_take_119 rfl rfl ?_
      refine AW.iload_n (n := 122) dX10_take_121 rfl rfl ?_
      refine AW.iadd (n := 123) dX10_take_122 rfl ?_
      rw [show (7 : Int32) + nI i = nI (7 + i) from nI_add 7 i]
      refine AW.ia (n := 124) (7 + i) dX10_take_123 s_142 rfl (by omega) (by decide) rfl ?_
      refine AW.is (n := 125) i dX10_take_124 s_142 rfl (by omega) (by decide) rfl ?_
      refine AW.aload_n (n := 126) dX10_take_125 rfl rfl ?_
      refine AW.gr (n := 129) dX10_take_126 fl_X10_29 s_136 rfl rfl ?_
      refine AW.iload_n (n := 130) dX10_take_129 rfl rfl ?_
      refine AW.aload_n (n := 131) dX10_take_130 rfl rfl ?_
      refine AW.gr (n := 134) dX10_take_131 fl_X10_29 s_136 rfl rfl ?_
      refine AW.bipush (n := 136) (v := 7) dX10_take_134 rfl rfl ?_
      refine AW.iload_n (n := 137) dX10_take_136 rfl rfl ?_
      refine AW.iadd (n := 138) dX10_take_137 rfl ?_
      rw [show (7 : Int32) + nI i = nI (7 + i) from nI_add 7 i]
      refine AW.ia (n := 139) (7 + i) dX10_take_138 s_143 rfl (by omega) (by decide) rfl ?_
      refine AW.is (n := 140) i dX10_take_139 s_143 rfl (by omega) (by decide) rfl ?_
      refine AW.aload_n (n := 141) dX10_take_140 rfl rfl ?_
      refine AW.gr (n := 144) dX10_take_141 fl_X10_32 s_136 rfl rfl ?_
      refine AW.iload_n (n := 145) dX10_take_144 rfl rfl ?_
      refine AW.aload_n (n := 146) dX10_take_145 rfl rfl ?_
      refine AW.gr (n := 149) dX10_take_146 fl_X10_32 s_136 rfl rfl ?_
      refine AW.bipush (n := 151) (v := 7) dX10_take_149 rfl rfl ?_
      refine AW.iload_n (n := 152) dX10_take_151 rfl rfl ?_
      refine AW.iadd (n := 153) dX10_take_152 rfl ?_
      rw [show (7 : Int32) + nI i = nI (7 + i) from nI_add 7 i]
      refine AW.ia (n := 154) (7 + i) dX10_take_153 s_144 rfl (by omega) (by decide) rfl ?_
      refine AW.is (n := 155) i dX10_take_154 s_144 rfl (by omega) (by decide) rfl ?_
      refine AW.aload_n (n := 156) dX10_take_155 rfl rfl ?_
      refine AW.gr (n := 159) dX10_take_156 fl_X10_7 s_136 rfl rfl ?_
      refine AW.iload_n (n := 160) dX10_take_159 rfl rfl ?_
      refine AW.iconst (n := 161) (v := 1) dX10_take_160 rfl rfl ?_
      refine AW.is (n := 162) i dX10_take_161 s_137 rfl (by omega) (by decide) rfl ?_
      refine AW.aload_n (n := 163) dX10_take_162 rfl rfl ?_
      refine AW.gr (n := 166) dX10_take_163 fl_X10_7 s_136 rfl rfl ?_
      refine AW.bipush (n := 168) (v := 7) dX10_take_166 rfl rfl ?_
      refine AW.iload_n (n := 169) dX10_take_168 rfl rfl ?_
      refine AW.iadd (n := 170) dX10_take_169 rfl ?_
      rw [show (7 : Int32) + nI i = nI (7 + i) from nI_add 7 i]
      refine AW.iconst (n := 171) (v := 0) dX10_take_170 rfl rfl ?_
      refine AW.is (n := 172) (7 + i) dX10_take_171 s_137 rfl (by omega) (by decide) rfl ?_
      refine AW.inc1 (n := 175) (1) dX10_take_172 rfl (Nat.le_of_ble_eq_true rfl) rfl rfl ?_
      refine AW.goto (t := 74) dX10_take_175 rfl ?_
      rw [nI_1]
      exact ih (i + 1) (by omega) (by omega)
set_option maxHeartbeats 4000000 in
set_option maxRecDepth 100000 in
theorem l_X10_take2 {μ : Me} {e : Nat × (Nat → aC)}   : ∀ (m : Nat) (i : Nat), 12 - i < m → i ≤ 12 → AW none 0 0 0 mX10_take 0 0 45 [some (.ref 136), some (.int (nI i))] [] (wS (mTk2 μ i) e) (a_eq none (wS (mTkE (mTk3 (mTk2 μ 12) 7)) e)) := by
  intro m
  induction m with
  | zero => intro i hm; exact absurd hm (Nat.not_lt_zero _)
  | succ m ih =>
    intro i hm hc
    refine AW.iload_n (n := 46) dX10_take_45 rfl rfl ?_
    refine AW.bipush (n := 48) (v := 12) dX10_take_46 rfl rfl ?_
    refine AW.icmp_ge (n := 51) (t := 72) dX10_take_48 rfl rfl (fun h48 => ?_) (fun h48 => ?_)
    · have hi : 12 ≤ i := le_lit (b := 12) (x := nI i) rfl (by omega) (by omega) h48
      have he : i = 12 := by omega
      subst he
      refine AW.iconst (n := 73) (v := 0) dX10_take_72 rfl rfl ?_
      refine AW.ist1 (n := 74) dX10_take_73 (Nat.le_of_ble_eq_true rfl) rfl rfl ?_
      exact l_X10_take3 8 0 (by omega) (by omega)
    · have hi : i < 12 := nle_lit (b := 12) (x := nI i) rfl (by omega) (by omega) h48
      refine AW.aload_n (n := 52) dX10_take_51 rfl rfl ?_
      refine AW.gr (n := 55) dX10_take_52 fl_X10_35 s_136 rfl rfl ?_
      refine AW.iload_n (n := 56) dX10_take_55 rfl rfl ?_
      refine AW.aload_n (n := 57) dX10_take_56 rfl rfl ?_
      refine AW.gr (n := 60) dX10_take_57 fl_X10_35 s_136 rfl rfl ?_
      refine AW.bipush (n := 62) (v := 12) dX10_take_60 rfl rfl ?_
      refine AW.iload_n (n := 63) dX10_take_62 rfl rfl ?_
      refine AW.iadd (n := 64) dX10_take_63 rfl ?_
      rw [show (12 : Int32) + nI i = nI (12 + i) from nI_add 12 i]
      refine AW.ia (n := 65) (12 + i) dX10_take_64 s_145 rfl (by omega) (by decide) rfl ?_
      refine AW.is (n := 66) i dX10_take_65 s_145 rfl (by omega) (by decide) rfl ?_
      refine AW.inc1 (n := 69) (1) dX10_take_66 rfl (Nat.le_of_ble_eq_true rfl) rfl rfl ?_
      refine AW.goto (t := 45) dX10_take_69 rfl ?_
      rw [nI_1]
      exact ih (i + 1) (by omega) (by omega)
set_option maxHeartbeats 4000000 in
set_option maxRecDepth 100000 in
theorem l_X10_take1 {μ : Me} {e : Nat × (Nat → aC)}   : ∀ (m : Nat) (i : Nat), 3 - i < m → i ≤ 3 → AW none 0 0 0 mX10_take 0 0 2 [some (.ref 136), some (.int (nI i))] [] (wS (mTk1 μ i) e) (a_eq none (wS (mTake μ) e)) := by
  intro m
  induction m with
  | zero => intro i hm; exact absurd hm (Nat.not_lt_zero _)
  | succ m ih =>
    intro i hm hc
    refine AW.iload_n (n := 3) dX10_take_2 rfl rfl ?_
    refine AW.iconst (n := 4) (v := 3) dX10_take_3 rfl rfl ?_
    refine AW.icmp_ge (n := 7) (t := 27) dX10_take_4 rfl rfl (fun h4 => ?_) (fun h4 => ?_)
    · have hi : 3 ≤ i := le_lit (b := 3) (x := nI i) rfl (by omega) (by omega) h4
      have he : i = 3 := by omega
      subst he
      refine AW.aload_n (n := 28) dX10_take_27 rfl rfl ?_
      refine AW.aload_n (n := 29) dX10_take_28 rfl rfl ?_
      refine AW.gi (n := 32) dX10_take_29 fl_X10_106 s_136 rfl rfl ?_
      refine AW.pi (n := 35) dX10_take_32 fp_X10_131 s_136 rfl ⟨rfl, rfl⟩ rfl ?_
      refine AW.aload_n (n := 36) dX10_take_35 rfl rfl ?_
      refine AW.aload_n (n := 37) dX10_take_36 rfl rfl ?_
      refine AW.gi (n := 40) dX10_take_37 fl_X10_109 s_136 rfl rfl ?_
      refine AW.pi (n := 43) dX10_take_40 fp_X10_134 s_136 rfl ⟨rfl, rfl⟩ rfl ?_
      refine AW.iconst (n := 44) (v := 0) dX10_take_43 rfl rfl ?_
      refine AW.ist1 (n := 45) dX10_take_44 (Nat.le_of_ble_eq_true rfl) rfl rfl ?_
      exact l_X10_take2 13 0 (by omega) (by omega)
    · have hi : i < 3 := nle_lit (b := 3) (x := nI i) rfl (by omega) (by omega) h4
      refine AW.aload_n (n := 8) dX10_take_7 rfl rfl ?_
      refine AW.gr (n := 11) dX10_take_8 fl_X10_17 s_136 rfl rfl ?_
      refine AW.iload_n (n := 12) dX10_take_11 rfl rfl ?_
      refine AW.aload_n (n := 13) dX10_take_12 rfl rfl ?_
      refine AW.gr (n := 16) dX10_take_13 fl_X10_17 s_136 rfl rfl ?_
      refine AW.iconst (n := 17) (v := 3) dX10_take_16 rfl rfl ?_
      refine AW.iload_n (n := 18) dX10_take_17 rfl rfl ?_
      refine AW.iadd (n := 19) dX10_take_18 rfl ?_
      rw [show (3 : Int32) + nI i = nI (3 + i) from nI_add 3 i]
      refine AW.ia (n := 20) (3 + i) dX10_take_19 s_139 rfl (by omega) (by decide) rfl ?_
      refine AW.is (n := 21) i dX10_take_20 s_139 rfl (by omega) (by decide) rfl ?_
      refine AW.inc1 (n := 24) (1) dX10_take_21 rfl (Nat.le_of_ble_eq_true rfl) rfl rfl ?_
      refine AW.goto (t := 2) dX10_take_24 rfl ?_
      rw [nI_1]
      exact ih (i + 1) (by omega) (by omega)
set_option maxHeartbeats 4000000 in
set_option maxRecDepth 100000 in
theorem c_X10_take {μ : Me} {e : Nat × (Nat → aC)}   : AC 0 0 0 mX10_take [.ref 136] (wS μ e) (a_eq none (wS (mTake μ) e)) := by
  refine AC.of (L := [some (.ref 136), none]) (j := 1) (by decide) rfl (Nat.le_of_ble_eq_true rfl) ?_
  refine AW.iconst (n := 1) (v := 0) dX10_take_0 rfl rfl ?_
  refine AW.ist1 (n := 2) dX10_take_1 (Nat.le_of_ble_eq_true rfl) rfl rfl ?_
  exact l_X10_take1 4 0 (by omega) (by omega)
