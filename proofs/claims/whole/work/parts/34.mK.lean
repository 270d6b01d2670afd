theorem sDivN_s (x : Int32) : ∀ k, sDivN x (k + 1) = sDivN (x / 10) k := by
  intro k
  induction k with
  | zero => rfl
  | succ k ih => rw [sDivN, ih]; rfl
theorem way_dg {c : Int32} : ∀ (m : Nat) (x used : Int32), sWay c m x used = true → ∀ k, k < dg m x → sHas c (sDivN x k - sDivN x k / 10 * 10 - 1) = true := by
  intro m
  induction m with
  | zero => intro x used _ k hk; exact absurd hk (Nat.not_lt_zero _)
  | succ m ih =>
    intro x used h k hk
    rw [dg] at hk
    by_cases h0 : x ≤ 0
    · rw [if_pos h0] at hk; exact absurd hk (Nat.not_lt_zero _)
    · rw [if_neg h0] at hk
      have h' : (if sHas c (x - x / 10 * 10 - 1) then (if sBit used (x - x / 10 * 10 - 1) then false else sWay c m (x / 10) (used ||| ((1 : Int32) <<< ((x - x / 10 * 10 - 1) &&& 31)))) else false) = true := by
        have := h
        rw [sWay, if_neg h0] at this
        exact this
      by_cases h1 : sHas c (x - x / 10 * 10 - 1) = true
      · rw [if_pos h1] at h'
        by_cases h2 : sBit used (x - x / 10 * 10 - 1) = true
        · rw [if_pos h2] at h'; exact absurd h' (by decide)
        · rw [if_neg h2] at h'
          cases k with
          | zero => exact h1
          | succ k => rw [sDivN_s]; exact ih _ _ h' k (by omega)
      · rw [if_neg h1] at h'; exact absurd h' (by decide)
def mWok (way : Int32) (n : Nat) : Prop := ∀ i, i < dg 10 way → ∃ j : Nat, j < n ∧ mStopOf way i = nI j
theorem mWok.of {c way : Int32} {n : Nat} (hn : c = nI n) (h7 : n ≤ 7) (h : sIsWay c way = true) : mWok way n := by
  intro i hi
  exact sHas_j hn h7 (way_dg 10 way 0 h _ (by omega))
theorem ra0 {h : Int32} (q : sWithin h 0 3 = true) : ¬ 5 - h = 0 := by
  obtain ⟨j, -, hj, rfl⟩ := win_j (a := 0) (b := 3) (by omega) q (by omega)
  rcases (show j = 0 ∨ j = 1 ∨ j = 2 ∨ j = 3 by omega) with rfl | rfl | rfl | rfl <;> decide
theorem far_n {a b : Nat} (ha : a ≤ 99) (hb : b ≤ 99) : ∃ k : Nat, k ≤ 99 ∧ sFar (nI a) (nI b) = nI k := by
  unfold sFar
  split
  · next h => exact ⟨a - b, by omega, pk_sub ((nI_leI (by omega) (by omega)).mp h)⟩
  · next h => exact ⟨b - a, by omega, pk_sub (by
      rcases Nat.le_total a b with q | q
      · exact q
      · exact absurd (nI_le q (by omega)) h)⟩
theorem mG.st {ν : Me} {n d j i t y : Nat} {tm yd : Int32} (hG : mG ν n d) (hj : j < n) (ht : tm = nI t) (ht9 : t ≤ 10000 * i) (hy : yd = nI y) (hy9 : y ≤ 99) : (∃ t1 : Nat, tm + sFar (ν 140 j) yd * ν 139 1 = nI t1 ∧ t1 ≤ 10000 * i + 9801) ∧ ∃ y1 : Nat, ν 140 j = nI y1 ∧ y1 ≤ 99 := by
  obtain ⟨-, -, -, -, ⟨r0, r1, r2, -, -, e1, h1, -, -⟩, hyd, -⟩ := hG
  obtain ⟨y1, ey, hy1⟩ := hyd j hj
  refine ⟨?_, y1, ey, hy1⟩
  obtain ⟨k, hk, ek⟩ := far_n hy1 hy9
  refine ⟨t + k * r1, ?_, ?_⟩
  · rw [ht, hy, ey, ek, e1, pk_mul, nI_add]
  · have : k * r1 ≤ 99 * 99 := Nat.mul_le_mul hk h1
    omega
theorem mG.vis {ν : Me} {n d b s : Nat} {tm : Int32} {rg : Bool} (hG : mG ν n d) : mG (mVisit ν b s tm rg).2 n d ∧ ∃ k : Nat, k ≤ 120 ∧ (mVisit ν b s tm rg).1 = nI k := by
  obtain ⟨-, -, -, -, ⟨r0, r1, r2, e0, h0, e1, h1, e2, h2⟩, -, -⟩ := id hG
  unfold mVisit
  split
  · refine ⟨(hG.mu (by omega)).mu (by omega), ?_⟩
    cases rg
    · exact ⟨0, by omega, rfl⟩
    · exact ⟨r0, by omega, e0⟩
  · refine ⟨(((hG.mu (by omega)).mu (by omega)).mu (by omega)).mu (by omega), ?_⟩
    cases rg
    · exact ⟨0 + r2, by omega, by rw [← nI_add, ← e2]; rfl⟩
    · exact ⟨r0 + r2, by omega, by rw [← nI_add, ← e2, ← e0]; rfl⟩
abbrev mQ : Type := Int32 × Int32 × Nat × Me
def mStT (i : Nat) (way : Int32) (q : mQ) : Int32 := q.1 + sFar (q.2.2.2 140 (mStopOf way i).toNatClampNeg) q.2.1 * q.2.2.2 139 1
def mStM (i : Nat) (way : Int32) (q : mQ) : Me := mu q.2.2.2 147 (mStopOf way i).toNatClampNeg (mStT i way q)
def mStC (b i : Nat) (way : Int32) (q : mQ) (haste : Int32) : Int32 × Me := mVisit (mStM i way q) b (mStopOf way i).toNatClampNeg (mStT i way q) (mRing haste (q.2.2.1 + 1))
def mSt (b : Nat) (way haste : Int32) (i : Nat) (q : mQ) : mQ :=
  if sCounts (mStM i way q 137 (b + (mStopOf way i).toNatClampNeg)) then (mStT i way q + (mStC b i way q haste).1, q.2.2.2 140 (mStopOf way i).toNatClampNeg, q.2.2.1 + 1, (mStC b i way q haste).2)
  else (mStT i way q, q.2.2.2 140 (mStopOf way i).toNatClampNeg, q.2.2.1, mStM i way q)
def mRL (b : Nat) (way haste : Int32) (ν : Me) : Nat → mQ
  | 0 => (0, 0, 0, ν)
  | i + 1 => mSt b way haste i (mRL b way haste ν i)
def mRE (b : Nat) (q : mQ) : Int32 × Me :=
  let tm := q.1 + q.2.1 * q.2.2.2 139 1
  let m1 := mu q.2.2.2 137 (b + 14) (q.2.2.2 137 (b + 14) + 1)
  (tm, mu m1 137 (b + 15) (m1 137 (b + 15) + tm))
def mFill (ν : Me) : Nat → Me
  | 0 => ν
  | i + 1 => mu (mFill ν i) 147 i (-1)
def mRI0 (ν : Me) : Me := mu (mu (mFill ν 7) 136 20 0) 136 21 0
def mRoundIn (ν : Me) (b : Nat) (way haste : Int32) : Int32 × Me := mRE b (mRL b way haste (mRI0 ν) (dg 10 way))
theorem mSt_c {b j i tn : Nat} {way haste tm yd T : Int32} {ν : Me} (hs : mStopOf way i = nI j) (hj : j < 7) (hT : tm + sFar (ν 140 j) yd * ν 139 1 = T) (hc : sCounts (mu ν 147 j T 137 (b + j)) = true) : mSt b way haste i (tm, yd, tn, ν) = (T + (mVisit (mu ν 147 j T) b j T (mRing haste (tn + 1))).1, ν 140 j, tn + 1, (mVisit (mu ν 147 j T) b j T (mRing haste (tn + 1))).2) := by
  subst hT
  unfold mSt mStC mStM mStT
  rw [hs, cl_nI (by omega)]
  exact if_pos hc
theorem mSt_n {b j i tn : Nat} {way haste tm yd T : Int32} {ν : Me} (hs : mStopOf way i = nI j) (hj : j < 7) (hT : tm + sFar (ν 140 j) yd * ν 139 1 = T) (hc : ¬ sCounts (mu ν 147 j T 137 (b + j)) = true) : mSt b way haste i (tm, yd, tn, ν) = (T, ν 140 j, tn, mu ν 147 j T) := by
  subst hT
  unfold mSt mStC mStM mStT
  rw [hs, cl_nI (by omega)]
  exact if_neg hc
set_option maxHeartbeats 8000000 in
set_option maxRecDepth 100000 in
theorem l_X10_rI46 {μ0 : Me} {e : Nat × (Nat → aC)} {b n d : Nat} {way haste : Int32} (hb : b ≤ 54) (hh : sWithin haste 0 3 = true) (hw : mWok way n) : ∀ (m i : Nat) (tm yd : Int32) (tn : Nat) (μ : Me) (L8 : Option Value) (t y : Nat), dg 10 way - i < m → i ≤ dg 10 way → mRL b way haste μ0 i = (tm, yd, tn, μ) → tm = nI t → t ≤ 10000 * i → yd = nI y → y ≤ 99 → tn ≤ i → mG μ n d → AW none 3 0 0 mX10_roundIn 0 0 46 [some (.ref 136), some (.int (nI b)), some (.int way), some (.int haste), some (.int tm), some (.int yd), some (.int (nI tn)), some (.int (nI i)), L8] [] (wS μ e) (a_eq (some (.int (mRE b (mRL b way haste μ0 (dg 10 way))).1)) (wS (mRE b (mRL b way haste μ0 (dg 10 way))).2 e)) := by
  intro m
  induction m with
  | zero => intro i tm yd tn μ L8 t y hm; exact absurd hm (Nat.not_lt_zero _)
  | succ m ih =>
    intro i tm yd tn μ L8 t y hm hi hq ht ht9 hy hy9 htn hG
    have hd := dg_le 10 way
    have h7 := hG.2.1
    refine AW.iload (n := 48) dX10_roundIn_46 rfl rfl ?_
    refine AW.iload_n (n := 49) dX10_roundIn_48 rfl rfl ?_
    refine AW.es1i (Mc := mX10_figures) (n := 52) dX10_roundIn_49 lk_X10_146 k_mX10_figures (c_X10_figures) (Nat.le_of_ble_eq_true rfl) (by decide) (Nat.zero_le _) (Nat.zero_le _) rfl ?_
    refine AW.icmp_ge (n := 55) (t := 172) dX10_roundIn_52 rfl rfl (fun h52 => ?_) (fun h52 => ?_)
    · have he : i = dg 10 way := by have := le_lit (b := dg 10 way) (x := nI i) rfl (by omega) (by omega) h52; omega
      subst he
      rw [hq]
      refine AW.iload (n := 174) dX10_roundIn_172 rfl rfl ?_
      refine AW.iload (n := 176) dX10_roundIn_174 rfl rfl ?_
      refine AW.aload_n (n := 177) dX10_roundIn_176 rfl rfl ?_
      refine AW.gr (n := 180) dX10_roundIn_177 fl_X10_17 s_136 rfl rfl ?_
      refine AW.iconst (n := 181) (v := 1) dX10_roundIn_180 rfl rfl ?_
      refine AW.ia (n := 182) 1 dX10_roundIn_181 s_139 rfl (by omega) (by decide) rfl ?_
      refine AW.imul (n := 183) dX10_roundIn_182 rfl ?_
      refine AW.iadd (n := 184) dX10_roundIn_183 rfl ?_
      refine AW.ist4 (n := 186) dX10_roundIn_184 (Nat.le_of_ble_eq_true rfl) rfl rfl ?_
      refine AW.aload_n (n := 187) dX10_roundIn_186 rfl rfl ?_
      refine AW.gr (n := 190) dX10_roundIn_187 fl_X10_7 s_136 rfl rfl ?_
      refine AW.iload_n (n := 191) dX10_roundIn_190 rfl rfl ?_
      refine AW.bipush (n := 193) (v := 14) dX10_roundIn_191 rfl rfl ?_
      refine AW.iadd (n := 194) dX10_roundIn_193 rfl ?_
      refine AW.dup2 (n := 195) dX10_roundIn_194 rfl rfl rfl ?_
      refine AW.ia (n := 196) (b + 14) dX10_roundIn_195 s_137 (nI_add b 14) (by omega) (by decide) rfl ?_
      refine AW.iconst (n := 197) (v := 1) dX10_roundIn_196 rfl rfl ?_
      refine AW.iadd (n := 198) dX10_roundIn_197 rfl ?_
      refine AW.is (n := 199) (b + 14) dX10_roundIn_198 s_137 (nI_add b 14) (by omega) (by decide) rfl ?_
      refine AW.aload_n (n := 200) dX10_roundIn_199 rfl rfl ?_
      refine AW.gr (n := 203) dX10_roundIn_200 fl_X10_7 s_136 rfl rfl ?_
      refine AW.iload_n (n := 204) dX10_roundIn_203 rfl rfl ?_
      refine AW.bipush (n := 206) (v := 15) dX10_roundIn_204 rfl rfl ?_
      refine AW.iadd (n := 207) dX10_roundIn_206 rfl ?_
      refine AW.dup2 (n := 208) dX10_roundIn_207 rfl rfl rfl ?_
      refine AW.ia (n := 209) (b + 15) dX10_roundIn_208 s_137 (nI_add b 15) (by omega) (by decide) rfl ?_
      refine AW.iload (n := 211) dX10_roundIn_209 rfl rfl ?_
      refine AW.iadd (n := 212) dX10_roundIn_211 rfl ?_
      refine AW.is (n := 213) (b + 15) dX10_roundIn_212 s_137 (nI_add b 15) (by omega) (by decide) rfl ?_
      refine AW.iload (n := 215) dX10_roundIn_213 rfl rfl ?_
      refine AW.iret dX10_roundIn_215 rfl rfl (Nat.zero_le _) (Nat.zero_le _) ?_
      exact ⟨rfl, rfl⟩
    · have hi2 : i < dg 10 way := nle_lit (b := dg 10 way) (x := nI i) rfl (by omega) (by omega) h52
      refine AW.iload_n (n := 56) dX10_roundIn_55 rfl rfl ?_
      refine AW.iload (n := 58) dX10_roundIn_56 rfl rfl ?_
      refine AW.es2i (Mc := mX10_stopOf) (n := 61) dX10_roundIn_58 lk_X10_182 k_mX10_stopOf (c_X10_stopOf hi2) (Nat.le_of_ble_eq_true rfl) (by decide) (Nat.zero_le _) (Nat.zero_le _) rfl ?_
      obtain ⟨j, hj, hjj⟩ := hw i hi2
      obtain ⟨⟨t1, ht1, ht19⟩, y1, ey, hy1⟩ := hG.st hj ht ht9 hy hy9
      rw [hjj]
      refine AW.ist8 (n := 63) dX10_roundIn_61 (Nat.le_of_ble_eq_true rfl) rfl rfl ?_
      refine AW.iload (n := 65) dX10_roundIn_63 rfl rfl ?_
      refine AW.aload_n (n := 66) dX10_roundIn_65 rfl rfl ?_
      refine AW.gr (n := 69) dX10_roundIn_66 fl_X10_20 s_136 rfl rfl ?_
      refine AW.iload (n := 71) dX10_roundIn_69 rfl rfl ?_
      refine AW.ia (n := 72) j dX10_roundIn_71 s_140 rfl (by omega) (by decide) rfl ?_
      refine AW.iload (n := 74) dX10_roundIn_72 rfl rfl ?_
      refine AW.es2i (Mc := mX10_far) (n := 77) dX10_roundIn_74 lk_X10_185 k_mX10_far (c_X10_far) (Nat.le_of_ble_eq_true rfl) (by decide) (Nat.zero_le _) (Nat.zero_le _) rfl ?_
      refine AW.aload_n (n := 78) dX10_roundIn_77 rfl rfl ?_
      refine AW.gr (n := 81) dX10_roundIn_78 fl_X10_17 s_136 rfl rfl ?_
      refine AW.iconst (n := 82) (v := 1) dX10_roundIn_81 rfl rfl ?_
      refine AW.ia (n := 83) 1 dX10_roundIn_82 s_139 rfl (by omega) (by decide) rfl ?_
      refine AW.imul (n := 84) dX10_roundIn_83 rfl ?_
      refine AW.iadd (n := 85) dX10_roundIn_84 rfl ?_
      refine AW.ist4 (n := 87) dX10_roundIn_85 (Nat.le_of_ble_eq_true rfl) rfl rfl ?_
      refine AW.aload_n (n := 88) dX10_roundIn_87 rfl rfl ?_
      refine AW.gr (n := 91) dX10_roundIn_88 fl_X10_20 s_136 rfl rfl ?_
      refine AW.iload (n := 93) dX10_roundIn_91 rfl rfl ?_
      refine AW.ia (n := 94) j dX10_roundIn_93 s_140 rfl (by omega) (by decide) rfl ?_
      refine AW.ist5 (n := 96) dX10_roundIn_94 (Nat.le_of_ble_eq_true rfl) rfl rfl ?_
      refine AW.aload_n (n := 97) dX10_roundIn_96 rfl rfl ?_
      refine AW.gr (n := 100) dX10_roundIn_97 fl_X10_45 s_136 rfl rfl ?_
      refine AW.iload (n := 102) dX10_roundIn_100 rfl rfl ?_
      refine AW.iload (n := 104) dX10_roundIn_102 rfl rfl ?_
      refine AW.is (n := 105) j dX10_roundIn_104 s_147 rfl (by omega) (by decide) rfl ?_
      refine AW.aload_n (n := 106) dX10_roundIn_105 rfl rfl ?_
      refine AW.gr (n := 109) dX10_roundIn_106 fl_X10_7 s_136 rfl rfl ?_
      refine AW.iload_n (n := 110) dX10_roundIn_109 rfl rfl ?_
      refine AW.iload (n := 112) dX10_roundIn_110 rfl rfl ?_
      refine AW.iadd (n := 113) dX10_roundIn_112 rfl ?_
      refine AW.ia (n := 114) (b + j) dX10_roundIn_113 s_137 (nI_add b j) (by omega) (by decide) rfl ?_
      refine AW.iconst (n := 115) (v := 1) dX10_roundIn_114 rfl rfl ?_
      refine AW.icmp_eq (n := 118) (t := 131) dX10_roundIn_115 rfl rfl (fun h115 => ?_) (fun h115 => ?_)
      · refine AW.inc6 (n := 134) (1) dX10_roundIn_131 rfl (Nat.le_of_ble_eq_true rfl) rfl rfl ?_
        rw [nI_1]
        refine AW.iload (n := 136) dX10_roundIn_134 rfl rfl ?_
        refine AW.aload_n (n := 137) dX10_roundIn_136 rfl rfl ?_
        refine AW.iload_n (n := 138) dX10_roundIn_137 rfl rfl ?_
        refine AW.iload (n := 140) dX10_roundIn_138 rfl rfl ?_
        refine AW.iload (n := 142) dX10_roundIn_140 rfl rfl ?_
        refine AW.iload_n (n := 143) dX10_roundIn_142 rfl rfl ?_
        refine AW.if_eq (n := 146) (t := 155) dX10_roundIn_143 rfl rfl (fun h143 => ?_) (fun h143 => ?_)
        · refine AW.iconst (n := 156) (v := 1) dX10_roundIn_155 rfl rfl ?_
          refine AW.goto (t := 160) dX10_roundIn_156 rfl ?_
          refine AW.ev4i (Mc := mX10_visit) (n := 163) dX10_roundIn_160 lk_X10_188 k_mX10_visit s_136 rfl rfl (c_X10_visit (rg := true) hb (hG.mu (Or.inr (Or.inl rfl))) hj ht1 (by omega)) (Nat.le_of_ble_eq_true rfl) (by decide) (Nat.zero_le _) (Nat.zero_le _) rfl ?_
          refine AW.iadd (n := 164) dX10_roundIn_163 rfl ?_
          refine AW.ist4 (n := 166) dX10_roundIn_164 (Nat.le_of_ble_eq_true rfl) rfl rfl ?_
          refine AW.inc7 (n := 169) (1) dX10_roundIn_166 rfl (Nat.le_of_ble_eq_true rfl) rfl rfl ?_
          refine AW.goto (t := 46) dX10_roundIn_169 rfl ?_
          have er : mRing haste (tn + 1) = true := by simp [mRing, h143]
          have eq : mRL b way haste μ0 (i + 1) = _ := (congrArg (mSt b way haste i) hq).trans (mSt_c (T := tm + sFar (μ 140 j) yd * μ 139 1) hjj (by omega) rfl (by simp [sCounts, h115]))
          rw [er] at eq
          obtain ⟨hG2, k, hk, ek⟩ := mG.vis (b := b) (s := j) (tm := tm + sFar (μ 140 j) yd * μ 139 1) (rg := true) (hG.mu (a := 147) (j := j) (x := tm + sFar (μ 140 j) yd * μ 139 1) (by omega))
          rw [nI_1]
          exact ih (i + 1) _ _ _ _ _ (t1 + k) y1 (by omega) (by omega) eq (by rw [ek, ht1, nI_add]) (by omega) ey hy1 (by omega) hG2
        · refine AW.iload (n := 148) dX10_roundIn_146 rfl rfl ?_
          refine AW.iconst (n := 149) (v := 5) dX10_roundIn_148 rfl rfl ?_
          refine AW.iload_n (n := 150) dX10_roundIn_149 rfl rfl ?_
          refine AW.isub (n := 151) dX10_roundIn_150 rfl ?_
          refine AW.irem (n := 152) dX10_roundIn_151 (ra0 hh) rfl ?_
          refine AW.if_eq (n := 155) (t := 159) dX10_roundIn_152 rfl rfl (fun h152 => ?_) (fun h152 => ?_)
          · refine AW.iconst (n := 160) (v := 0) dX10_roundIn_159 rfl rfl ?_
            refine AW.ev4i (Mc := mX10_visit) (n := 163) dX10_roundIn_160 lk_X10_188 k_mX10_visit s_136 rfl rfl (c_X10_visit (rg := false) hb (hG.mu (Or.inr (Or.inl rfl))) hj ht1 (by omega)) (Nat.le_of_ble_eq_true rfl) (by decide) (Nat.zero_le _) (Nat.zero_le _) rfl ?_
            refine AW.iadd (n := 164) dX10_roundIn_163 rfl ?_
            refine AW.ist4 (n := 166) dX10_roundIn_164 (Nat.le_of_ble_eq_true rfl) rfl rfl ?_
            refine AW.inc7 (n := 169) (1) dX10_roundIn_166 rfl (Nat.le_of_ble_eq_true rfl) rfl rfl ?_
            refine AW.goto (t := 46) dX10_roundIn_169 rfl ?_
            have er : mRing haste (tn + 1) = false := by simp [mRing, h143, h152]
            have eq : mRL b way haste μ0 (i + 1) = _ := (congrArg (mSt b way haste i) hq).trans (mSt_c (T := tm + sFar (μ 140 j) yd * μ 139 1) hjj (by omega) rfl (by simp [sCounts, h115]))
            rw [er] at eq
            obtain ⟨hG2, k, hk, ek⟩ := mG.vis (b := b) (s := j) (tm := tm + sFar (μ 140 j) yd * μ 139 1) (rg := false) (hG.mu (a := 147) (j := j) (x := tm + sFar (μ 140 j) yd * μ 139 1) (by omega))
            rw [nI_1]
            exact ih (i + 1) _ _ _ _ _ (t1 + k) y1 (by omega) (by omega) eq (by rw [ek, ht1, nI_add]) (by omega) ey hy1 (by omega) hG2
          · refine AW.iconst (n := 156) (v := 1) dX10_roundIn_155 rfl rfl ?_
            refine AW.goto (t := 160) dX10_roundIn_156 rfl ?_
            refine AW.ev4i (Mc := mX10_visit) (n := 163) dX10_roundIn_160 lk_X10_188 k_mX10_visit s_136 rfl rfl (c_X10_visit (rg := true) hb (hG.mu (Or.inr (Or.inl rfl))) hj ht1 (by omega)) (Nat.le_of_ble_eq_true rfl) (by decide) (Nat.zero_le _) (Nat.zero_le _) rfl ?_
            refine AW.iadd (n := 164) dX10_roundIn_163 rfl ?_
            refine AW.ist4 (n := 166) dX10_roundIn_164 (Nat.le_of_ble_eq_true rfl) rfl rfl ?_
            refine AW.inc7 (n := 169) (1) dX10_roundIn_166 rfl (Nat.le_of_ble_eq_true rfl) rfl rfl ?_
            refine AW.goto (t := 46) dX10_roundIn_169 rfl ?_
            have er : mRing haste (tn + 1) = true := by simp [mRing, h143, h152]
            have eq : mRL b way haste μ0 (i + 1) = _ := (congrArg (mSt b way haste i) hq).trans (mSt_c (T := tm + sFar (μ 140 j) yd * μ 139 1) hjj (by omega) rfl (by simp [sCounts, h115]))
            rw [er] at eq
            obtain ⟨hG2, k, hk, ek⟩ := mG.vis (b := b) (s := j) (tm := tm + sFar (μ 140 j) yd * μ 139 1) (rg := true) (hG.mu (a := 147) (j := j) (x := tm + sFar (μ 140 j) yd * μ 139 1) (by omega))
            rw [nI_1]
            exact ih (i + 1) _ _ _ _ _ (t1 + k) y1 (by omega) (by omega) eq (by rw [ek, ht1, nI_add]) (by omega) ey hy1 (by omega) hG2
      · refine AW.aload_n (n := 119) dX10_roundIn_118 rfl rfl ?_
        refine AW.gr (n := 122) dX10_roundIn_119 fl_X10_7 s_136 rfl rfl ?_
        refine AW.iload_n (n := 123) dX10_roundIn_122 rfl rfl ?_
        refine AW.iload (n := 125) dX10_roundIn_123 rfl rfl ?_
        refine AW.iadd (n := 126) dX10_roundIn_125 rfl ?_
        refine AW.ia (n := 127) (b + j) dX10_roundIn_126 s_137 (nI_add b j) (by omega) (by decide) rfl ?_
        refine AW.iconst (n := 128) (v := 4) dX10_roundIn_127 rfl rfl ?_
        refine AW.icmp_ne (n := 131) (t := 166) dX10_roundIn_128 rfl rfl (fun h128 => ?_) (fun h128 => ?_)
        · refine AW.inc7 (n := 169) (1) dX10_roundIn_166 rfl (Nat.le_of_ble_eq_true rfl) rfl rfl ?_
          refine AW.goto (t := 46) dX10_roundIn_169 rfl ?_
          have eq : mRL b way haste μ0 (i + 1) = _ := (congrArg (mSt b way haste i) hq).trans (mSt_n (T := tm + sFar (μ 140 j) yd * μ 139 1) hjj (by omega) rfl (by simp [sCounts, h115, h128]))
          rw [nI_1]
          exact ih (i + 1) _ _ _ _ _ t1 y1 (by omega) (by omega) eq ht1 (by omega) ey hy1 (by omega) (hG.mu (by omega))
        · refine AW.inc6 (n := 134) (1) dX10_roundIn_131 rfl (Nat.le_of_ble_eq_true rfl) rfl rfl ?_
          rw [nI_1]
          refine AW.iload (n := 136) dX10_roundIn_134 rfl rfl ?_
          refine AW.aload_n (n := 137) dX10_roundIn_136 rfl rfl ?_
          refine AW.iload_n (n := 138) dX10_roundIn_137 rfl rfl ?_
          refine AW.iload (n := 140) dX10_roundIn_138 rfl rfl ?_
          refine AW.iload (n := 142) dX10_roundIn_140 rfl rfl ?_
          refine AW.iload_n (n := 143) dX10_roundIn_142 rfl rfl ?_
          refine AW.if_eq (n := 146) (t := 155) dX10_roundIn_143 rfl rfl (fun h143 => ?_) (fun h143 => ?_)
          · refine AW.iconst (n := 156) (v := 1) dX10_roundIn_155 rfl rfl ?_
            refine AW.goto (t := 160) dX10_roundIn_156 rfl ?_
            refine AW.ev4i (Mc := mX10_visit) (n := 163) dX10_roundIn_160 lk_X10_188 k_mX10_visit s_136 rfl rfl (c_X10_visit (rg := true) hb (hG.mu (Or.inr (Or.inl rfl))) hj ht1 (by omega)) (Nat.le_of_ble_eq_true rfl) (by decide) (Nat.zero_le _) (Nat.zero_le _) rfl ?_
            refine AW.iadd (n := 164) dX10_roundIn_163 rfl ?_
            refine AW.ist4 (n := 166) dX10_roundIn_164 (Nat.le_of_ble_eq_true rfl) rfl rfl ?_
            refine AW.inc7 (n := 169) (1) dX10_roundIn_166 rfl (Nat.le_of_ble_eq_true rfl) rfl rfl ?_
            refine AW.goto (t := 46) dX10_roundIn_169 rfl ?_
            have er : mRing haste (tn + 1) = true := by simp [mRing, h143]
            have eq : mRL b way haste μ0 (i + 1) = _ := (congrArg (mSt b way haste i) hq).trans (mSt_c (T := tm + sFar (μ 140 j) yd * μ 139 1) hjj (by omega) rfl (by simp [sCounts, h128]))
            rw [er] at eq
            obtain ⟨hG2, k, hk, ek⟩ := mG.vis (b := b) (s := j) (tm := tm + sFar (μ 140 j) yd * μ 139 1) (rg := true) (hG.mu (a := 147) (j := j) (x := tm + sFar (μ 140 j) yd * μ 139 1) (by omega))
            rw [nI_1]
            exact ih (i + 1) _ _ _ _ _ (t1 + k) y1 (by omega) (by omega) eq (by rw [ek, ht1, nI_add]) (by omega) ey hy1 (by omega) hG2
          · refine AW.iload (n := 148) dX10_roundIn_146 rfl rfl ?_
            refine AW.iconst (n := 149) (v := 5) dX10_roundIn_148 rfl rfl ?_
            refine AW.iload_n (n := 150) dX10_roundIn_149 rfl rfl ?_
            refine AW.isub (n := 151) dX10_roundIn_150 rfl ?_
            refine AW.irem (n := 152) dX10_roundIn_151 (ra0 hh) rfl ?_
            refine AW.if_eq (n := 155) (t := 159) dX10_roundIn_152 rfl rfl (fun h152 => ?_) (fun h152 => ?_)
            · refine AW.iconst (n := 160) (v := 0) dX10_roundIn_159 rfl rfl ?_
              refine AW.ev4i (Mc := mX10_visit) (n := 163) dX10_roundIn_160 lk_X10_188 k_mX10_visit s_136 rfl rfl (c_X10_visit (rg := false) hb (hG.mu (Or.inr (Or.inl rfl))) hj ht1 (by omega)) (Nat.le_of_ble_eq_true rfl) (by decide) (Nat.zero_le _) (Nat.zero_le _) rfl ?_
              refine AW.iadd (n := 164) dX10_roundIn_163 rfl ?_
              refine AW.ist4 (n := 166) dX10_roundIn_164 (Nat.le_of_ble_eq_true rfl) rfl rfl ?_
              refine AW.inc7 (n := 169) (1) dX10_roundIn_166 rfl (Nat.le_of_ble_eq_true rfl) rfl rfl ?_
              refine AW.goto (t := 46) dX10_roundIn_169 rfl ?_
              have er : mRing haste (tn + 1) = false := by simp [mRing, h143, h152]
              have eq : mRL b way haste μ0 (i + 1) = _ := (congrArg (mSt b way haste i) hq).trans (mSt_c (T := tm + sFar (μ 140 j) yd * μ 139 1) hjj (by omega) rfl (by simp [sCounts, h128]))
              rw [er] at eq
              obtain ⟨hG2, k, hk, ek⟩ := mG.vis (b := b) (s := j) (tm := tm + sFar (μ 140 j) yd * μ 139 1) (rg := false) (hG.mu (a := 147) (j := j) (x := tm + sFar (μ 140 j) yd * μ 139 1) (by omega))
              rw [nI_1]
              exact ih (i + 1) _ _ _ _ _ (t1 + k) y1 (by omega) (by omega) eq (by rw [ek, ht1, nI_add]) (by omega) ey hy1 (by omega) hG2
            · refine AW.iconst (n := 156) (v := 1) dX10_roundIn_155 rfl rfl ?_
              refine AW.goto (t := 160) dX10_roundIn_156 rfl ?_
              refine AW.ev4i (Mc := mX10_visit) (n := 163) dX10_roundIn_160 lk_X10_188 k_mX10_visit s_136 rfl rfl (c_X10_visit (rg := true) hb (hG.mu (Or.inr (Or.inl rfl))) hj ht1 (by omega)) (Nat.le_of_ble_eq_true rfl) (by decide) (Nat.zero_le _) (Nat.zero_le _) rfl ?_
              refine AW.iadd (n := 164) dX10_roundIn_163 rfl ?_
              refine AW.ist4 (n := 166) dX10_roundIn_164 (Nat.le_of_ble_eq_true rfl) rfl rfl ?_
              refine AW.inc7 (n := 169) (1) dX10_roundIn_166 rfl (Nat.le_of_ble_eq_true rfl) rfl rfl ?_
              refine AW.goto (t := 46) dX10_roundIn_169 rfl ?_
              have er : mRing haste (tn + 1) = true := by simp [mRing, h143, h152]
              have eq : mRL b way haste μ0 (i + 1) = _ := (congrArg (mSt b way haste i) hq).trans (mSt_c (T := tm + sFar (μ 140 j) yd * μ 139 1) hjj (by omega) rfl (by simp [sCounts, h128]))
              rw [er] at eq
              obtain ⟨hG2, k, hk, ek⟩ := mG.vis (b := b) (s := j) (tm := tm + sFar (μ 140 j) yd * μ 139 1) (rg := true) (hG.mu (a := 147) (j := j) (x := tm + sFar (μ 140 j) yd * μ 139 1) (by omega))
              rw [nI_1]
              exact ih (i + 1) _ _ _ _ _ (t1 + k) y1 (by omega) (by omega) eq (by rw [ek, ht1, nI_add]) (by omega) ey hy1 (by omega) hG2
theorem fill_ne {ν : Me} {a : Nat} (h : a ≠ 147) : ∀ i, mFill ν i a = ν a := by
  intro i
  induction i with
  | zero => rfl
  | succ i ih => rw [mFill, mu_ne h, ih]
theorem mG.ri0 {ν : Me} {n d : Nat} (h : mG ν n d) : mG (mRI0 ν) n d := by
  refine mG.mu (mG.mu ?_ (by omega)) (by omega)
  exact h.of (by rw [fill_ne (by decide)]) (by rw [fill_ne (by decide)]) (fill_ne (by decide) 7) (fill_ne (by decide) 7) (fill_ne (by decide) 7)
set_option maxHeartbeats 4000000 in
set_option maxRecDepth 100000 in
theorem l_X10_rI3 {μ : Me} {e : Nat × (Nat → aC)} {b n d : Nat} {way haste : Int32} (hb : b ≤ 54) (hh : sWithin haste 0 3 = true) (hw : mWok way n) (hG : mG μ n d) : ∀ (m : Nat) (i : Nat), 7 - i < m → i ≤ 7 → AW none 3 0 0 mX10_roundIn 0 0 3 [some (.ref 136), some (.int (nI b)), some (.int way), some (.int haste), some (.int (nI i)), none, none, none, none] [] (wS (mFill μ i) e) (a_eq (some (.int (mRoundIn μ b way haste).1)) (wS (mRoundIn μ b way haste).2 e)) := by
  intro m
  induction m with
  | zero => intro i hm; exact absurd hm (Nat.not_lt_zero _)
  | succ m ih =>
    intro i hm hc
    refine AW.iload (n := 5) dX10_roundIn_3 rfl rfl ?_
    refine AW.bipush (n := 7) (v := 7) dX10_roundIn_5 rfl rfl ?_
    refine AW.icmp_ge (n := 10) (t := 24) dX10_roundIn_7 rfl rfl (fun h7 => ?_) (fun h7 => ?_)
    · have hi : i = 7 := by have := le_lit (b := 7) (x := nI i) rfl (by omega) (by omega) h7; omega
      subst hi
      refine AW.aload_n (n := 25) dX10_roundIn_24 rfl rfl ?_
      refine AW.iconst (n := 26) (v := 0) dX10_roundIn_25 rfl rfl ?_
      refine AW.pi (n := 29) dX10_roundIn_26 fp_X10_176 s_136 rfl ⟨rfl, rfl⟩ rfl ?_
      refine AW.aload_n (n := 30) dX10_roundIn_29 rfl rfl ?_
      refine AW.iconst (n := 31) (v := 0) dX10_roundIn_30 rfl rfl ?_
      refine AW.pi (n := 34) dX10_roundIn_31 fp_X10_179 s_136 rfl ⟨rfl, rfl⟩ rfl ?_
      refine AW.iconst (n := 35) (v := 0) dX10_roundIn_34 rfl rfl ?_
      refine AW.ist4 (n := 37) dX10_roundIn_35 (Nat.le_of_ble_eq_true rfl) rfl rfl ?_
      refine AW.iconst (n := 38) (v := 0) dX10_roundIn_37 rfl rfl ?_
      refine AW.ist5 (n := 40) dX10_roundIn_38 (Nat.le_of_ble_eq_true rfl) rfl rfl ?_
      refine AW.iconst (n := 41) (v := 0) dX10_roundIn_40 rfl rfl ?_
      refine AW.ist6 (n := 43) dX10_roundIn_41 (Nat.le_of_ble_eq_true rfl) rfl rfl ?_
      refine AW.iconst (n := 44) (v := 0) dX10_roundIn_43 rfl rfl ?_
      refine AW.ist7 (n := 46) dX10_roundIn_44 (Nat.le_of_ble_eq_true rfl) rfl rfl ?_
      exact l_X10_rI46 (μ0 := mRI0 μ) hb hh hw (dg 10 way + 1) 0 0 0 0 (mRI0 μ) none 0 0 (by omega) (by omega) rfl rfl (by omega) rfl (by omega) (by omega) hG.ri0
    · have hi : i < 7 := nle_lit (b := 7) (x := nI i) rfl (by omega) (by omega) h7
      refine AW.aload_n (n := 11) dX10_roundIn_10 rfl rfl ?_
      refine AW.gr (n := 14) dX10_roundIn_11 fl_X10_45 s_136 rfl rfl ?_
      refine AW.iload (n := 16) dX10_roundIn_14 rfl rfl ?_
      refine AW.iconst (n := 17) (v := -1) dX10_roundIn_16 rfl rfl ?_
      refine AW.is (n := 18) i dX10_roundIn_17 s_147 rfl (by omega) (by decide) rfl ?_
      refine AW.inc4 (n := 21) (1) dX10_roundIn_18 rfl (Nat.le_of_ble_eq_true rfl) rfl rfl ?_
      refine AW.goto (t := 3) dX10_roundIn_21 rfl ?_
      rw [nI_1]
      exact ih (i + 1) (by omega) (by omega)
set_option maxHeartbeats 4000000 in
set_option maxRecDepth 100000 in
theorem c_X10_roundIn {μ : Me} {e : Nat × (Nat → aC)} {b n d : Nat} {way haste : Int32} (hb : b ≤ 54) (hh : sWithin haste 0 3 = true) (hw : mWok way n) (hG : mG μ n d) : AC 3 0 0 mX10_roundIn [.ref 136, .int (nI b), .int way, .int haste] (wS μ e) (a_eq (some (.int ((mRoundIn μ b way haste).1))) (wS ((mRoundIn μ b way haste).2) e)) := by
  refine AC.of (L := [some (.ref 136), some (.int (nI b)), some (.int way), some (.int haste), none, none, none, none, none]) (j := 5) (by decide) rfl (Nat.le_of_ble_eq_true rfl) ?_
  refine AW.iconst (n := 1) (v := 0) dX10_roundIn_0 rfl rfl ?_
  refine AW.ist4 (n := 3) dX10_roundIn_1 (Nat.le_of_ble_eq_true rfl) rfl rfl ?_
  exact l_X10_rI3 hb hh hw hG 8 0 (by omega) (by omega)
set_option maxHeartbeats 4000000 in
set_option maxRecDepth 100000 in
theorem c_X10_tryRound {μ : Me} {e : Nat × (Nat → aC)} {n d : Nat} {way haste : Int32} (hh : sWithin haste 0 3 = true) (hw : mWok way n) (hG : mG μ n d) : AC 4 0 0 mX10_tryRound [.ref 136, .int way, .int haste] (wS μ e) (a_eq (some (.int ((mRoundIn (mCopy μ 0 18) 18 way haste).1))) (wS ((mRoundIn (mCopy μ 0 18) 18 way haste).2) e)) := by
  refine AC.of (L := [some (.ref 136), some (.int way), some (.int haste)]) (j := 0) (by decide) rfl (Nat.le_of_ble_eq_true rfl) ?_
  refine AW.aload_n (n := 1) dX10_tryRound_0 rfl rfl ?_
  refine AW.iconst (n := 2) (v := 0) dX10_tryRound_1 rfl rfl ?_
  refine AW.bipush (n := 4) (v := 18) dX10_tryRound_2 rfl rfl ?_
  refine AW.ev2v (Mc := mX10_copy) (n := 7) dX10_tryRound_4 lk_X10_192 k_mX10_copy s_136 rfl rfl (c_X10_copy (x := 0) (y := 18) (by omega) (by omega)) (Nat.le_of_ble_eq_true rfl) (by decide) (Nat.zero_le _) (Nat.zero_le _) rfl ?_
  refine AW.aload_n (n := 8) dX10_tryRound_7 rfl rfl ?_
  refine AW.bipush (n := 10) (v := 18) dX10_tryRound_8 rfl rfl ?_
  refine AW.iload_n (n := 11) dX10_tryRound_10 rfl rfl ?_
  refine AW.iload_n (n := 12) dX10_tryRound_11 rfl rfl ?_
  refine AW.ev3i (Mc := mX10_roundIn) (n := 15) dX10_tryRound_12 lk_X10_196 k_mX10_roundIn s_136 rfl rfl (c_X10_roundIn (b := 18) (by omega) hh hw hG.copy) (Nat.le_of_ble_eq_true rfl) (by decide) (Nat.zero_le _) (Nat.zero_le _) rfl ?_
  refine AW.iret dX10_tryRound_15 rfl rfl (Nat.zero_le _) (Nat.zero_le _) ?_
  exact ⟨rfl, rfl⟩
