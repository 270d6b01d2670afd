theorem ts_out (N : Nat) (x : Int32) (hN : N < 2147483648) (h : ∀ k : Nat, k ≤ N → ¬ x = nI k) : x.toInt < 0 ∨ (N : Int) < x.toInt := by
  by_cases h0 : x < 0
  · left
    have := Int32.lt_iff_toInt_lt.mp h0
    simpa using this
  · right
    obtain ⟨j, hj, rfl⟩ := nI_of h0
    rw [nI_toInt hj]
    have : ¬ j ≤ N := fun q => h j q rfl
    omega
def oFeed (μ : Me) (l : Nat) (x : Int32) : Int32 × Me := if sWithin x 0 255 then (if l < 240 then (nI (l + 1), sTAdd μ l x) else (-1000000004, μ)) else (-1000000002, μ)
def oTold (μ : Me) (n : Nat) (w : Int32) : Int32 :=
  if w = 0 then μ 10 0 else if w = 1 then μ 10 1 else if w = 2 then μ 10 2 else if w = 3 then μ 10 3 else if w = 4 then μ 1 1 else if w = 5 then μ 17 2 else if w = 6 then μ 17 3 else if w = 7 then μ 17 4
  else if w = 8 then sWhich (μ 18) 1 n else if w = 9 then sWhich (μ 18) 2 n else if w = 10 then sWhich (μ 18) 3 n else if w = 11 then sWhich (μ 18) 4 n else if w = 12 then μ 120 2 else if w = 13 then μ 123 2 else if w = 14 then μ 28 2 else -1000000002
def oStop (μ : Me) (s w : Int32) : Int32 := if sHas (μ 10 3) s then
    (if w = 0 then μ 11 s.toNatClampNeg else if w = 1 then μ 12 s.toNatClampNeg else if w = 2 then μ 13 s.toNatClampNeg else if w = 3 then μ 18 s.toNatClampNeg else if w = 4 then μ 14 s.toNatClampNeg else if w = 5 then μ 15 s.toNatClampNeg else if w = 6 then μ 19 s.toNatClampNeg else -1000000002)
  else -1000000001
def oDin (μ : Me) (h : Int32) : Int32 := if sWithin h 0 11 then sDinOf (μ 10 4) (μ 16) h else -1000000002
def sRef (μ : Me) (way h : Int32) : Int32 := if sIsWay (μ 10 3) way then (if sWithin h 0 3 then 0 else -1000000002) else -1000000001
def sDrive (μ : Me) (way h : Int32) : Me := sCopy (sRun μ way 17 h) 17 24
def oRound (μ : Me) (x y : Nat) (way h : Int32) : Int32 × Me :=
  if sRef μ way h = 0 then (if μ 17 2 ≤ 9000 then (sDrive (sPush μ x y 17) way h 23 2, sDrive (sPush μ x y 17) way h) else (-1000000004, μ)) else (sRef μ way h, μ)
def oFetch (μ : Me) (x y : Nat) (s : Int32) : Int32 × Me :=
  if sHas (μ 10 3) s then (if μ 18 s.toNatClampNeg = 3 then (1, mu (sPush μ x y 17) 18 s.toNatClampNeg 2) else if μ 18 s.toNatClampNeg = 4 then (0, mu (sPush μ x y 17) 18 s.toNatClampNeg 2) else (-1000000003, μ)) else (-1000000001, μ)
def oOrder (μ : Me) (x y : Nat) (s : Int32) : Int32 × Me :=
  if sHas (μ 10 3) s then (if μ 18 s.toNatClampNeg = 2 then (1, mu (sPush μ x y 17) 18 s.toNatClampNeg 1) else (-1000000003, μ)) else (-1000000001, μ)
def oThank (μ : Me) (x y : Nat) (s : Int32) : Int32 × Me :=
  if sHas (μ 10 3) s then (if μ 14 s.toNatClampNeg = -1 then (-1000000003, μ) else (sPush μ x y 17 19 s.toNatClampNeg, mu (sPush μ x y 17) 19 s.toNatClampNeg 0)) else (-1000000001, μ)
def oUndo (μ : Me) (x y : Nat) (n : Int32) : Int32 × Me :=
  if sWithin n 1 30 then (if n ≤ μ 28 2 then (sPop μ x y n.toNatClampNeg 17 17 2, sPop μ x y n.toNatClampNeg 17) else (-1000000003, μ)) else (-1000000002, μ)
def sDice (μ : Me) : Me := mu μ 0 11 ((μ 0 11).toInt64 * 1103515245 + 12345 &&& 2147483647).toInt32
def sDraw (μ : Me) (n : Int32) : Int32 := if 1 ≤ n then sDice μ 0 11 / 65536 - sDice μ 0 11 / 65536 / n * n else 0
def sObd (μ : Me) : Me :=
  let s := sDraw μ (μ 10 3)
  if sHas (μ 10 3) s then (if sDice μ 18 s.toNatClampNeg = 2 then mu (sDice μ) 18 s.toNatClampNeg 1 else sDice μ) else sDice μ
theorem sPush_ne {μ : Me} {x y d i : Nat} (h1 : i < 28 ∨ 120 ≤ i) (hx : x < 30) : sPush μ x y d i = μ i := by
  unfold sPush
  rw [mu_ne (by omega), mu_ne (by omega), sCopy_ne (by omega) (by omega) (by omega)]
set_option maxHeartbeats 4000000 in
set_option maxRecDepth 100000 in
theorem c_X9_feed {μ : Me} {e : Nat × (Nat → aC)} {l : Nat} {x : Int32} (hl : μ 1 1 = nI l) (hl9 : l ≤ 240) : AC 1 0 0 mX9_feed [.ref 0, .int x] (wS μ e) (a_eq (some (.int ((oFeed μ l x).1))) (wS ((oFeed μ l x).2) e)) := by
  refine AC.of (L := [some (.ref 0), some (.int x)]) (j := 0) (by decide) rfl (Nat.le_of_ble_eq_true rfl) ?_
  refine AW.iload_n (n := 1) dX9_feed_0 rfl rfl ?_
  refine AW.iconst (n := 2) (v := 0) dX9_feed_1 rfl rfl ?_
  refine AW.sipush (n := 5) (v := 255) dX9_feed_2 rfl rfl ?_
  refine AW.es3i (Mc := mX9_within) (n := 8) dX9_feed_5 lk_X9_79 k_mX9_within (c_X9_within) (Nat.le_of_ble_eq_true rfl) (by decide) (Nat.zero_le _) (Nat.zero_le _) rfl ?_
  refine AW.bif_ne (n := 11) (t := 14) dX9_feed_8 rfl rfl (fun h8 => ?_) (fun h8 => ?_)
  · refine AW.aload_n (n := 15) dX9_feed_14 rfl rfl ?_
    refine AW.gr (n := 18) dX9_feed_15 fl_X9_10 s_0 rfl rfl ?_
    refine AW.iload_n (n := 19) dX9_feed_18 rfl rfl ?_
    refine AW.ev1i (Mc := mX7_add) (n := 22) dX9_feed_19 lk_X9_84 k_mX7_add s_1 rfl rfl (c_X7_add hl hl9) (Nat.le_of_ble_eq_true rfl) (by decide) (Nat.zero_le _) (Nat.zero_le _) rfl ?_
    refine AW.bif_eq (n := 25) (t := 35) dX9_feed_22 rfl rfl (fun h22 => ?_) (fun h22 => ?_)
    · refine AW.ldc (n := 37) dX9_feed_35 kc_X9_91 rfl ?_
      refine AW.iret dX9_feed_37 rfl rfl (Nat.zero_le _) (Nat.zero_le _) ?_
      have q : ¬ l < 240 := by simpa using h22
      exact ⟨by simp [oFeed, h8, q], by simp [oFeed, h8, q]⟩
    · refine AW.aload_n (n := 26) dX9_feed_25 rfl rfl ?_
      refine AW.gr (n := 29) dX9_feed_26 fl_X9_10 s_0 rfl rfl ?_
      refine AW.gi (n := 32) dX9_feed_29 fl_X9_88 s_1 rfl rfl ?_
      refine AW.goto (t := 37) dX9_feed_32 rfl ?_
      refine AW.iret dX9_feed_37 rfl rfl (Nat.zero_le _) (Nat.zero_le _) ?_
      have q : l < 240 := by simpa using h22
      exact ⟨by simp [oFeed, h8, q, sTAdd, mu_at], by simp [oFeed, h8, q]⟩
  · refine AW.ldc (n := 13) dX9_feed_11 kc_X9_83 rfl ?_
    refine AW.iret dX9_feed_13 rfl rfl (Nat.zero_le _) (Nat.zero_le _) ?_
    exact ⟨by simp [oFeed, h8], by simp [oFeed, h8]⟩
set_option maxHeartbeats 4000000 in
set_option maxRecDepth 100000 in
theorem c_X9_fault {μ : Me} {e : Nat × (Nat → aC)}   : AC 0 0 0 mX9_fault [.ref 0] (wS μ e) (a_eq (some (.int (μ 1 3))) (wS μ e)) := by
  refine AC.of (L := [some (.ref 0)]) (j := 0) (by decide) rfl (Nat.le_of_ble_eq_true rfl) ?_
  refine AW.aload_n (n := 1) dX9_fault_0 rfl rfl ?_
  refine AW.gr (n := 4) dX9_fault_1 fl_X9_10 s_0 rfl rfl ?_
  refine AW.gi (n := 7) dX9_fault_4 fl_X9_120 s_1 rfl rfl ?_
  refine AW.iret dX9_fault_7 rfl rfl (Nat.zero_le _) (Nat.zero_le _) ?_
  exact ⟨rfl, rfl⟩
set_option maxHeartbeats 4000000 in
set_option maxRecDepth 100000 in
theorem c_X9_told {μ : Me} {e : Nat × (Nat → aC)} {n : Nat} {w : Int32} (hn : μ 10 3 = nI n) (h7 : n ≤ 7) : AC 1 0 0 mX9_told [.ref 0, .int w] (wS μ e) (a_eq (some (.int (oTold μ n w))) (wS μ e)) := by
  refine AC.of (L := [some (.ref 0), some (.int w)]) (j := 0) (by decide) rfl (Nat.le_of_ble_eq_true rfl) ?_
  refine AW.iload_n (n := 1) dX9_told_0 rfl rfl ?_
  by_cases q0 : w = 0
  · subst q0
    refine AW.tsIn (t := 76) (o := 75) dX9_told_1 (by decide) (by decide) rfl rfl ?_
    refine AW.aload_n (n := 77) dX9_told_76 rfl rfl ?_
    refine AW.gr (n := 80) dX9_told_77 fl_X9_23 s_0 rfl rfl ?_
    refine AW.gi (n := 83) dX9_told_80 fl_X9_123 s_10 rfl rfl ?_
    refine AW.iret dX9_told_83 rfl rfl (Nat.zero_le _) (Nat.zero_le _) ?_
    exact ⟨by simp [oTold], rfl⟩
  by_cases q1 : w = 1
  · subst q1
    refine AW.tsIn (t := 84) (o := 83) dX9_told_1 (by decide) (by decide) rfl rfl ?_
    refine AW.aload_n (n := 85) dX9_told_84 rfl rfl ?_
    refine AW.gr (n := 88) dX9_told_85 fl_X9_23 s_0 rfl rfl ?_
    refine AW.gi (n := 91) dX9_told_88 fl_X9_126 s_10 rfl rfl ?_
    refine AW.iret dX9_told_91 rfl rfl (Nat.zero_le _) (Nat.zero_le _) ?_
    exact ⟨by simp [oTold], rfl⟩
  by_cases q2 : w = 2
  · subst q2
    refine AW.tsIn (t := 92) (o := 91) dX9_told_1 (by decide) (by decide) rfl rfl ?_
    refine AW.aload_n (n := 93) dX9_told_92 rfl rfl ?_
    refine AW.gr (n := 96) dX9_told_93 fl_X9_23 s_0 rfl rfl ?_
    refine AW.gi (n := 99) dX9_told_96 fl_X9_129 s_10 rfl rfl ?_
    refine AW.iret dX9_told_99 rfl rfl (Nat.zero_le _) (Nat.zero_le _) ?_
    exact ⟨by simp [oTold], rfl⟩
  by_cases q3 : w = 3
  · subst q3
    refine AW.tsIn (t := 100) (o := 99) dX9_told_1 (by decide) (by decide) rfl rfl ?_
    refine AW.aload_n (n := 101) dX9_told_100 rfl rfl ?_
    refine AW.gr (n := 104) dX9_told_101 fl_X9_23 s_0 rfl rfl ?_
    refine AW.gi (n := 107) dX9_told_104 fl_X9_117 s_10 rfl rfl ?_
    refine AW.iret dX9_told_107 rfl rfl (Nat.zero_le _) (Nat.zero_le _) ?_
    exact ⟨by simp [oTold], rfl⟩
  by_cases q4 : w = 4
  · subst q4
    refine AW.tsIn (t := 108) (o := 107) dX9_told_1 (by decide) (by decide) rfl rfl ?_
    refine AW.aload_n (n := 109) dX9_told_108 rfl rfl ?_
    refine AW.gr (n := 112) dX9_told_109 fl_X9_10 s_0 rfl rfl ?_
    refine AW.gi (n := 115) dX9_told_112 fl_X9_88 s_1 rfl rfl ?_
    refine AW.iret dX9_told_115 rfl rfl (Nat.zero_le _) (Nat.zero_le _) ?_
    exact ⟨by simp [oTold], rfl⟩
  by_cases q5 : w = 5
  · subst q5
    refine AW.tsIn (t := 116) (o := 115) dX9_told_1 (by decide) (by decide) rfl rfl ?_
    refine AW.aload_n (n := 117) dX9_told_116 rfl rfl ?_
    refine AW.gr (n := 120) dX9_told_117 fl_X9_29 s_0 rfl rfl ?_
    refine AW.gi (n := 123) dX9_told_120 fl_X9_132 s_17 rfl rfl ?_
    refine AW.iret dX9_told_123 rfl rfl (Nat.zero_le _) (Nat.zero_le _) ?_
    exact ⟨by simp [oTold], rfl⟩
  by_cases q6 : w = 6
  · subst q6
    refine AW.tsIn (t := 124) (o := 123) dX9_told_1 (by decide) (by decide) rfl rfl ?_
    refine AW.aload_n (n := 125) dX9_told_124 rfl rfl ?_
    refine AW.gr (n := 128) dX9_told_125 fl_X9_29 s_0 rfl rfl ?_
    refine AW.gi (n := 131) dX9_told_128 fl_X9_135 s_17 rfl rfl ?_
    refine AW.iret dX9_told_131 rfl rfl (Nat.zero_le _) (Nat.zero_le _) ?_
    exact ⟨by simp [oTold], rfl⟩
  by_cases q7 : w = 7
  · subst q7
    refine AW.tsIn (t := 132) (o := 131) dX9_told_1 (by decide) (by decide) rfl rfl ?_
    refine AW.aload_n (n := 133) dX9_told_132 rfl rfl ?_
    refine AW.gr (n := 136) dX9_told_133 fl_X9_29 s_0 rfl rfl ?_
    refine AW.gi (n := 139) dX9_told_136 fl_X9_138 s_17 rfl rfl ?_
    refine AW.iret dX9_told_139 rfl rfl (Nat.zero_le _) (Nat.zero_le _) ?_
    exact ⟨by simp [oTold], rfl⟩
  by_cases q8 : w = 8
  · subst q8
    refine AW.tsIn (t := 140) (o := 139) dX9_told_1 (by decide) (by decide) rfl rfl ?_
    refine AW.aload_n (n := 141) dX9_told_140 rfl rfl ?_
    refine AW.gr (n := 144) dX9_told_141 fl_X9_29 s_0 rfl rfl ?_
    refine AW.iconst (n := 145) (v := 1) dX9_told_144 rfl rfl ?_
    refine AW.aload_n (n := 146) dX9_told_145 rfl rfl ?_
    refine AW.gr (n := 149) dX9_told_146 fl_X9_23 s_0 rfl rfl ?_
    refine AW.gi (n := 152) dX9_told_149 fl_X9_117 s_10 rfl rfl ?_
    rw [hn]
    refine AW.ev2i (Mc := mX1_which) (n := 155) dX9_told_152 lk_X9_141 k_mX1_which s_17 rfl rfl (c_X1_which (a := 17) (n := n) sD_17 h7) (Nat.le_of_ble_eq_true rfl) (by decide) (Nat.zero_le _) (Nat.zero_le _) rfl ?_
    refine AW.iret dX9_told_155 rfl rfl (Nat.zero_le _) (Nat.zero_le _) ?_
    exact ⟨by simp [oTold], rfl⟩
  by_cases q9 : w = 9
  · subst q9
    refine AW.tsIn (t := 156) (o := 155) dX9_told_1 (by decide) (by decide) rfl rfl ?_
    refine AW.aload_n (n := 157) dX9_told_156 rfl rfl ?_
    refine AW.gr (n := 160) dX9_told_157 fl_X9_29 s_0 rfl rfl ?_
    refine AW.iconst (n := 161) (v := 2) dX9_told_160 rfl rfl ?_
    refine AW.aload_n (n := 162) dX9_told_161 rfl rfl ?_
    refine AW.gr (n := 165) dX9_told_162 fl_X9_23 s_0 rfl rfl ?_
    refine AW.gi (n := 168) dX9_told_165 fl_X9_117 s_10 rfl rfl ?_
    rw [hn]
    refine AW.ev2i (Mc := mX1_which) (n := 171) dX9_told_168 lk_X9_141 k_mX1_which s_17 rfl rfl (c_X1_which (a := 17) (n := n) sD_17 h7) (Nat.le_of_ble_eq_true rfl) (by decide) (Nat.zero_le _) (Nat.zero_le _) rfl ?_
    refine AW.iret dX9_told_171 rfl rfl (Nat.zero_le _) (Nat.zero_le _) ?_
    exact ⟨by simp [oTold], rfl⟩
  by_cases q10 : w = 10
  · subst q10
    refine AW.tsIn (t := 172) (o := 171) dX9_told_1 (by decide) (by decide) rfl rfl ?_
    refine AW.aload_n (n := 173) dX9_told_172 rfl rfl ?_
    refine AW.gr (n := 176) dX9_told_173 fl_X9_29 s_0 rfl rfl ?_
    refine AW.iconst (n := 177) (v := 3) dX9_told_176 rfl rfl ?_
    refine AW.aload_n (n := 178) dX9_told_177 rfl rfl ?_
    refine AW.gr (n := 181) dX9_told_178 fl_X9_23 s_0 rfl rfl ?_
    refine AW.gi (n := 184) dX9_told_181 fl_X9_117 s_10 rfl rfl ?_
    rw [hn]
    refine AW.ev2i (Mc := mX1_which) (n := 187) dX9_told_184 lk_X9_141 k_mX1_which s_17 rfl rfl (c_X1_which (a := 17) (n := n) sD_17 h7) (Nat.le_of_ble_eq_true rfl) (by decide) (Nat.zero_le _) (Nat.zero_le _) rfl ?_
    refine AW.iret dX9_told_187 rfl rfl (Nat.zero_le _) (Nat.zero_le _) ?_
    exact ⟨by simp [oTold], rfl⟩
  by_cases q11 : w = 11
  · subst q11
    refine AW.tsIn (t := 188) (o := 187) dX9_told_1 (by decide) (by decide) rfl rfl ?_
    refine AW.aload_n (n := 189) dX9_told_188 rfl rfl ?_
    refine AW.gr (n := 192) dX9_told_189 fl_X9_29 s_0 rfl rfl ?_
    refine AW.iconst (n := 193) (v := 4) dX9_told_192 rfl rfl ?_
    refine AW.aload_n (n := 194) dX9_told_193 rfl rfl ?_
    refine AW.gr (n := 197) dX9_told_194 fl_X9_23 s_0 rfl rfl ?_
    refine AW.gi (n := 200) dX9_told_197 fl_X9_117 s_10 rfl rfl ?_
    rw [hn]
    refine AW.ev2i (Mc := mX1_which) (n := 203) dX9_told_200 lk_X9_141 k_mX1_which s_17 rfl rfl (c_X1_which (a := 17) (n := n) sD_17 h7) (Nat.le_of_ble_eq_true rfl) (by decide) (Nat.zero_le _) (Nat.zero_le _) rfl ?_
    refine AW.iret dX9_told_203 rfl rfl (Nat.zero_le _) (Nat.zero_le _) ?_
    exact ⟨by simp [oTold], rfl⟩
  by_cases q12 : w = 12
  · subst q12
    refine AW.tsIn (t := 204) (o := 203) dX9_told_1 (by decide) (by decide) rfl rfl ?_
    refine AW.aload_n (n := 205) dX9_told_204 rfl rfl ?_
    refine AW.gr (n := 208) dX9_told_205 fl_X9_53 s_0 rfl rfl ?_
    refine AW.gi (n := 211) dX9_told_208 fl_X9_145 s_120 rfl rfl ?_
    refine AW.iret dX9_told_211 rfl rfl (Nat.zero_le _) (Nat.zero_le _) ?_
    exact ⟨by simp [oTold], rfl⟩
  by_cases q13 : w = 13
  · subst q13
    refine AW.tsIn (t := 212) (o := 211) dX9_told_1 (by decide) (by decide) rfl rfl ?_
    refine AW.aload_n (n := 213) dX9_told_212 rfl rfl ?_
    refine AW.gr (n := 216) dX9_told_213 fl_X9_60 s_0 rfl rfl ?_
    refine AW.gi (n := 219) dX9_told_216 fl_X9_148 s_123 rfl rfl ?_
    refine AW.iret dX9_told_219 rfl rfl (Nat.zero_le _) (Nat.zero_le _) ?_
    exact ⟨by simp [oTold], rfl⟩
  by_cases q14 : w = 14
  · subst q14
    refine AW.tsIn (t := 220) (o := 219) dX9_told_1 (by decide) (by decide) rfl rfl ?_
    refine AW.aload_n (n := 221) dX9_told_220 rfl rfl ?_
    refine AW.gr (n := 224) dX9_told_221 fl_X9_46 s_0 rfl rfl ?_
    refine AW.gi (n := 227) dX9_told_224 fl_X9_149 s_28 rfl rfl ?_
    refine AW.iret dX9_told_227 rfl rfl (Nat.zero_le _) (Nat.zero_le _) ?_
    exact ⟨by simp [oTold], rfl⟩
  refine AW.tsOut (t := 228) dX9_told_1 (ts_out 14 w (by decide) (by intro k hk; rcases (show k = 0 ∨ k = 1 ∨ k = 2 ∨ k = 3 ∨ k = 4 ∨ k = 5 ∨ k = 6 ∨ k = 7 ∨ k = 8 ∨ k = 9 ∨ k = 10 ∨ k = 11 ∨ k = 12 ∨ k = 13 ∨ k = 14 by omega) with rfl | rfl | rfl | rfl | rfl | rfl | rfl | rfl | rfl | rfl | rfl | rfl | rfl | rfl | rfl <;> assumption)) rfl ?_
  refine AW.ldc (n := 230) dX9_told_228 kc_X9_83 rfl ?_
  refine AW.iret dX9_told_230 rfl rfl (Nat.zero_le _) (Nat.zero_le _) ?_
  exact ⟨by simp [oTold, q0, q1, q2, q3, q4, q5, q6, q7, q8, q9, q10, q11, q12, q13, q14], rfl⟩
set_option maxHeartbeats 4000000 in
set_option maxRecDepth 100000 in
theorem c_X9_stop {μ : Me} {e : Nat × (Nat → aC)} {n : Nat} {s w : Int32} (hn : μ 10 3 = nI n) (h7 : n ≤ 7) : AC 1 0 0 mX9_stop [.ref 0, .int s, .int w] (wS μ e) (a_eq (some (.int (oStop μ s w))) (wS μ e)) := by
  refine AC.of (L := [some (.ref 0), some (.int s), some (.int w)]) (j := 0) (by decide) rfl (Nat.le_of_ble_eq_true rfl) ?_
  refine AW.aload_n (n := 1) dX9_stop_0 rfl rfl ?_
  refine AW.gr (n := 4) dX9_stop_1 fl_X9_23 s_0 rfl rfl ?_
  refine AW.iload_n (n := 5) dX9_stop_4 rfl rfl ?_
  refine AW.ev1i (Mc := mX6_has) (n := 8) dX9_stop_5 lk_X9_150 k_mX6_has s_10 rfl rfl (c_X6_has sS_10) (Nat.le_of_ble_eq_true rfl) (by decide) (Nat.zero_le _) (Nat.zero_le _) rfl ?_
  refine AW.bif_ne (n := 11) (t := 14) dX9_stop_8 rfl rfl (fun h8 => ?_) (fun h8 => ?_)
  · obtain ⟨j, hj, rfl⟩ := sHas_j hn h7 h8
    have hjc := cl_nI (show j < 2147483648 by omega)
    refine AW.iload_n (n := 15) dX9_stop_14 rfl rfl ?_
    by_cases q0 : w = 0
    · subst q0
      refine AW.tsIn (t := 56) (o := 41) dX9_stop_15 (by decide) (by decide) rfl rfl ?_
      refine AW.aload_n (n := 57) dX9_stop_56 rfl rfl ?_
      refine AW.gr (n := 60) dX9_stop_57 fl_X9_23 s_0 rfl rfl ?_
      refine AW.gr (n := 63) dX9_stop_60 fl_X9_154 s_10 rfl rfl ?_
      refine AW.iload_n (n := 64) dX9_stop_63 rfl rfl ?_
      refine AW.ia (n := 65) j dX9_stop_64 s_11 rfl (by omega) (by decide) rfl ?_
      refine AW.iret dX9_stop_65 rfl rfl (Nat.zero_le _) (Nat.zero_le _) ?_
      exact ⟨by simp [oStop, h8, hjc], rfl⟩
    by_cases q1 : w = 1
    · subst q1
      refine AW.tsIn (t := 66) (o := 51) dX9_stop_15 (by decide) (by decide) rfl rfl ?_
      refine AW.aload_n (n := 67) dX9_stop_66 rfl rfl ?_
      refine AW.gr (n := 70) dX9_stop_67 fl_X9_23 s_0 rfl rfl ?_
      refine AW.gr (n := 73) dX9_stop_70 fl_X9_157 s_10 rfl rfl ?_
      refine AW.iload_n (n := 74) dX9_stop_73 rfl rfl ?_
      refine AW.ia (n := 75) j dX9_stop_74 s_12 rfl (by omega) (by decide) rfl ?_
      refine AW.iret dX9_stop_75 rfl rfl (Nat.zero_le _) (Nat.zero_le _) ?_
      exact ⟨by simp [oStop, h8, hjc], rfl⟩
    by_cases q2 : w = 2
    · subst q2
      refine AW.tsIn (t := 76) (o := 61) dX9_stop_15 (by decide) (by decide) rfl rfl ?_
      refine AW.aload_n (n := 77) dX9_stop_76 rfl rfl ?_
      refine AW.gr (n := 80) dX9_stop_77 fl_X9_23 s_0 rfl rfl ?_
      refine AW.gr (n := 83) dX9_stop_80 fl_X9_160 s_10 rfl rfl ?_
      refine AW.iload_n (n := 84) dX9_stop_83 rfl rfl ?_
      refine AW.ia (n := 85) j dX9_stop_84 s_13 rfl (by omega) (by decide) rfl ?_
      refine AW.iret dX9_stop_85 rfl rfl (Nat.zero_le _) (Nat.zero_le _) ?_
      exact ⟨by simp [oStop, h8, hjc], rfl⟩
    by_cases q3 : w = 3
    · subst q3
      refine AW.tsIn (t := 86) (o := 71) dX9_stop_15 (by decide) (by decide) rfl rfl ?_
      refine AW.aload_n (n := 87) dX9_stop_86 rfl rfl ?_
      refine AW.gr (n := 90) dX9_stop_87 fl_X9_29 s_0 rfl rfl ?_
      refine AW.gr (n := 93) dX9_stop_90 fl_X9_163 s_17 rfl rfl ?_
      refine AW.iload_n (n := 94) dX9_stop_93 rfl rfl ?_
      refine AW.ia (n := 95) j dX9_stop_94 s_18 rfl (by omega) (by decide) rfl ?_
      refine AW.iret dX9_stop_95 rfl rfl (Nat.zero_le _) (Nat.zero_le _) ?_
      exact ⟨by simp [oStop, h8, hjc], rfl⟩
    by_cases q4 : w = 4
    · subst q4
      refine AW.tsIn (t := 96) (o := 81) dX9_stop_15 (by decide) (by decide) rfl rfl ?_
      refine AW.aload_n (n := 97) dX9_stop_96 rfl rfl ?_
      refine AW.gr (n := 100) dX9_stop_97 fl_X9_23 s_0 rfl rfl ?_
      refine AW.gr (n := 103) dX9_stop_100 fl_X9_166 s_10 rfl rfl ?_
      refine AW.iload_n (n := 104) dX9_stop_103 rfl rfl ?_
      refine AW.ia (n := 105) j dX9_stop_104 s_14 rfl (by omega) (by decide) rfl ?_
      refine AW.iret dX9_stop_105 rfl rfl (Nat.zero_le _) (Nat.zero_le _) ?_
      exact ⟨by simp [oStop, h8, hjc], rfl⟩
    by_cases q5 : w = 5
    · subst q5
      refine AW.tsIn (t := 106) (o := 91) dX9_stop_15 (by decide) (by decide) rfl rfl ?_
      refine AW.aload_n (n := 107) dX9_stop_106 rfl rfl ?_
      refine AW.gr (n := 110) dX9_stop_107 fl_X9_23 s_0 rfl rfl ?_
      refine AW.gr (n := 113) dX9_stop_110 fl_X9_169 s_10 rfl rfl ?_
      refine AW.iload_n (n := 114) dX9_stop_113 rfl rfl ?_
      refine AW.ia (n := 115) j dX9_stop_114 s_15 rfl (by omega) (by decide) rfl ?_
      refine AW.iret dX9_stop_115 rfl rfl (Nat.zero_le _) (Nat.zero_le _) ?_
      exact ⟨by simp [oStop, h8, hjc], rfl⟩
    by_cases q6 : w = 6
    · subst q6
      refine AW.tsIn (t := 116) (o := 101) dX9_stop_15 (by decide) (by decide) rfl rfl ?_
      refine AW.aload_n (n := 117) dX9_stop_116 rfl rfl ?_
      refine AW.gr (n := 120) dX9_stop_117 fl_X9_29 s_0 rfl rfl ?_
      refine AW.gr (n := 123) dX9_stop_120 fl_X9_172 s_17 rfl rfl ?_
      refine AW.iload_n (n := 124) dX9_stop_123 rfl rfl ?_
      refine AW.ia (n := 125) j dX9_stop_124 s_19 rfl (by omega) (by decide) rfl ?_
      refine AW.iret dX9_stop_125 rfl rfl (Nat.zero_le _) (Nat.zero_le _) ?_
      exact ⟨by simp [oStop, h8, hjc], rfl⟩
    refine AW.tsOut (t := 126) dX9_stop_15 (ts_out 6 w (by decide) (by intro k hk; rcases (show k = 0 ∨ k = 1 ∨ k = 2 ∨ k = 3 ∨ k = 4 ∨ k = 5 ∨ k = 6 by omega) with rfl | rfl | rfl | rfl | rfl | rfl | rfl <;> assumption)) rfl ?_
    refine AW.ldc (n := 128) dX9_stop_126 kc_X9_83 rfl ?_
    refine AW.iret dX9_stop_128 rfl rfl (Nat.zero_le _) (Nat.zero_le _) ?_
    exact ⟨by simp [oStop, h8, hjc, q0, q1, q2, q3, q4, q5, q6], rfl⟩
  · refine AW.ldc (n := 13) dX9_stop_11 kc_X9_153 rfl ?_
    refine AW.iret dX9_stop_13 rfl rfl (Nat.zero_le _) (Nat.zero_le _) ?_
    exact ⟨by simp [oStop, h8], rfl⟩
set_option maxHeartbeats 4000000 in
set_option maxRecDepth 100000 in
theorem c_X9_din {μ : Me} {e : Nat × (Nat → aC)} {dn : Nat} {h : Int32} (hd : μ 10 4 = nI dn) (h12 : dn ≤ 12) : AC 1 0 0 mX9_din [.ref 0, .int h] (wS μ e) (a_eq (some (.int (oDin μ h))) (wS μ e)) := by
  refine AC.of (L := [some (.ref 0), some (.int h)]) (j := 0) (by decide) rfl (Nat.le_of_ble_eq_true rfl) ?_
  refine AW.iload_n (n := 1) dX9_din_0 rfl rfl ?_
  refine AW.iconst (n := 2) (v := 0) dX9_din_1 rfl rfl ?_
  refine AW.bipush (n := 4) (v := 11) dX9_din_2 rfl rfl ?_
  refine AW.es3i (Mc := mX9_within) (n := 7) dX9_din_4 lk_X9_79 k_mX9_within (c_X9_within) (Nat.le_of_ble_eq_true rfl) (by decide) (Nat.zero_le _) (Nat.zero_le _) rfl ?_
  refine AW.bif_eq (n := 10) (t := 21) dX9_din_7 rfl rfl (fun h7 => ?_) (fun h7 => ?_)
  · refine AW.ldc (n := 23) dX9_din_21 kc_X9_83 rfl ?_
    refine AW.iret dX9_din_23 rfl rfl (Nat.zero_le _) (Nat.zero_le _) ?_
    exact ⟨by simp [oDin, h7], rfl⟩
  · refine AW.aload_n (n := 11) dX9_din_10 rfl rfl ?_
    refine AW.gr (n := 14) dX9_din_11 fl_X9_23 s_0 rfl rfl ?_
    refine AW.iload_n (n := 15) dX9_din_14 rfl rfl ?_
    refine AW.ev1i (Mc := mX6_dinOf) (n := 18) dX9_din_15 lk_X9_175 k_mX6_dinOf s_10 rfl rfl (c_X6_dinOf sS_10 hd h12) (Nat.le_of_ble_eq_true rfl) (by decide) (Nat.zero_le _) (Nat.zero_le _) rfl ?_
    refine AW.goto (t := 23) dX9_din_18 rfl ?_
    refine AW.iret dX9_din_23 rfl rfl (Nat.zero_le _) (Nat.zero_le _) ?_
    exact ⟨by simp [oDin, h7], rfl⟩
set_option maxHeartbeats 4000000 in
set_option maxRecDepth 100000 in
theorem c_X9_refusalOfTrip {μ : Me} {e : Nat × (Nat → aC)} {n : Nat} {way h : Int32} (hn : μ 10 3 = nI n) (h7 : n ≤ 7) : AC 2 0 0 mX9_refusalOfTrip [.ref 0, .int way, .int h] (wS μ e) (a_eq (some (.int (sRef μ way h))) (wS μ e)) := by
  refine AC.of (L := [some (.ref 0), some (.int way), some (.int h)]) (j := 0) (by decide) rfl (Nat.le_of_ble_eq_true rfl) ?_
  refine AW.aload_n (n := 1) dX9_refusalOfTrip_0 rfl rfl ?_
  refine AW.gr (n := 4) dX9_refusalOfTrip_1 fl_X9_23 s_0 rfl rfl ?_
  refine AW.iload_n (n := 5) dX9_refusalOfTrip_4 rfl rfl ?_
  refine AW.ev1i (Mc := mX6_isWay) (n := 8) dX9_refusalOfTrip_5 lk_X9_218 k_mX6_isWay s_10 rfl rfl (c_X6_isWay sS_10 hn h7) (Nat.le_of_ble_eq_true rfl) (by decide) (Nat.zero_le _) (Nat.zero_le _) rfl ?_
  refine AW.bif_ne (n := 11) (t := 14) dX9_refusalOfTrip_8 rfl rfl (fun h8 => ?_) (fun h8 => ?_)
  · refine AW.iload_n (n := 15) dX9_refusalOfTrip_14 rfl rfl ?_
    refine AW.iconst (n := 16) (v := 0) dX9_refusalOfTrip_15 rfl rfl ?_
    refine AW.iconst (n := 17) (v := 3) dX9_refusalOfTrip_16 rfl rfl ?_
    refine AW.es3i (Mc := mX9_within) (n := 20) dX9_refusalOfTrip_17 lk_X9_79 k_mX9_within (c_X9_within) (Nat.le_of_ble_eq_true rfl) (by decide) (Nat.zero_le _) (Nat.zero_le _) rfl ?_
    refine AW.bif_eq (n := 23) (t := 27) dX9_refusalOfTrip_20 rfl rfl (fun h20 => ?_) (fun h20 => ?_)
    · refine AW.ldc (n := 29) dX9_refusalOfTrip_27 kc_X9_83 rfl ?_
      refine AW.iret dX9_refusalOfTrip_29 rfl rfl (Nat.zero_le _) (Nat.zero_le _) ?_
      exact ⟨by simp [sRef, h8, h20], rfl⟩
    · refine AW.iconst (n := 24) (v := 0) dX9_refusalOfTrip_23 rfl rfl ?_
      refine AW.goto (t := 29) dX9_refusalOfTrip_24 rfl ?_
      refine AW.iret dX9_refusalOfTrip_29 rfl rfl (Nat.zero_le _) (Nat.zero_le _) ?_
      exact ⟨by simp [sRef, h8, h20], rfl⟩
  · refine AW.ldc (n := 13) dX9_refusalOfTrip_11 kc_X9_153 rfl ?_
    refine AW.iret dX9_refusalOfTrip_13 rfl rfl (Nat.zero_le _) (Nat.zero_le _) ?_
    exact ⟨by simp [sRef, h8], rfl⟩
set_option maxHeartbeats 4000000 in
set_option maxRecDepth 100000 in
theorem c_X9_drive {μ : Me} {e : Nat × (Nat → aC)} {n dn : Nat} {way h : Int32} (ho : sOk μ 10 n dn) : AC 5 0 0 mX9_drive [.ref 0, .int way, .int h] (wS μ e) (a_eq none (wS (sDrive μ way h) e)) := by
  refine AC.of (L := [some (.ref 0), some (.int way), some (.int h)]) (j := 0) (by decide) rfl (Nat.le_of_ble_eq_true rfl) ?_
  refine AW.aload_n (n := 1) dX9_drive_0 rfl rfl ?_
  refine AW.gr (n := 4) dX9_drive_1 fl_X9_39 s_0 rfl rfl ?_
  refine AW.aload_n (n := 5) dX9_drive_4 rfl rfl ?_
  refine AW.gr (n := 8) dX9_drive_5 fl_X9_23 s_0 rfl rfl ?_
  refine AW.iload_n (n := 9) dX9_drive_8 rfl rfl ?_
  refine AW.aload_n (n := 10) dX9_drive_9 rfl rfl ?_
  refine AW.gr (n := 13) dX9_drive_10 fl_X9_29 s_0 rfl rfl ?_
  refine AW.iload_n (n := 14) dX9_drive_13 rfl rfl ?_
  refine AW.ev4v (Mc := mX8_run) (n := 17) dX9_drive_14 lk_X9_208 k_mX8_run s_23 rfl rfl (c_X8_run sD_17 ho) (Nat.le_of_ble_eq_true rfl) (by decide) (Nat.zero_le _) (Nat.zero_le _) rfl ?_
  refine AW.aload_n (n := 18) dX9_drive_17 rfl rfl ?_
  refine AW.gr (n := 21) dX9_drive_18 fl_X9_29 s_0 rfl rfl ?_
  refine AW.aload_n (n := 22) dX9_drive_21 rfl rfl ?_
  refine AW.gr (n := 25) dX9_drive_22 fl_X9_39 s_0 rfl rfl ?_
  refine AW.gr (n := 28) dX9_drive_25 fl_X9_215 s_23 rfl rfl ?_
  refine AW.ev1v (Mc := mX1_copy) (n := 31) dX9_drive_28 lk_X9_267 k_mX1_copy s_17 rfl rfl (c_X1_copy sD_17 sD_24) (Nat.le_of_ble_eq_true rfl) (by decide) (Nat.zero_le _) (Nat.zero_le _) rfl ?_
  refine AW.ret dX9_drive_31 rfl (Nat.zero_le _) (Nat.zero_le _) ?_
  exact ⟨rfl, rfl⟩
set_option maxHeartbeats 4000000 in
set_option maxRecDepth 100000 in
theorem c_X9_round {μ : Me} {e : Nat × (Nat → aC)} {n dn x y : Nat} {way h : Int32} (ho : sOk μ 10 n dn) (hx : μ 28 1 = nI x) (hx9 : x < 30) (hy : μ 28 2 = nI y) (hy9 : y ≤ 30) : AC 6 0 0 mX9_round [.ref 0, .int way, .int h] (wS μ e) (a_eq (some (.int ((oRound μ x y way h).1))) (wS ((oRound μ x y way h).2) e)) := by
  refine AC.of (L := [some (.ref 0), some (.int way), some (.int h), none]) (j := 1) (by decide) rfl (Nat.le_of_ble_eq_true rfl) ?_
  refine AW.aload_n (n := 1) dX9_round_0 rfl rfl ?_
  refine AW.iload_n (n := 2) dX9_round_1 rfl rfl ?_
  refine AW.iload_n (n := 3) dX9_round_2 rfl rfl ?_
  refine AW.ev2i (Mc := mX9_refusalOfTrip) (n := 6) dX9_round_3 lk_X9_179 k_mX9_refusalOfTrip s_0 rfl rfl (c_X9_refusalOfTrip ho.1 ho.2.1) (Nat.le_of_ble_eq_true rfl) (by decide) (Nat.zero_le _) (Nat.zero_le _) rfl ?_
  refine AW.ist3 (n := 7) dX9_round_6 (Nat.le_of_ble_eq_true rfl) rfl rfl ?_
  refine AW.iload_n (n := 8) dX9_round_7 rfl rfl ?_
  refine AW.if_eq (n := 11) (t := 13) dX9_round_8 rfl rfl (fun h8 => ?_) (fun h8 => ?_)
  · refine AW.aload_n (n := 14) dX9_round_13 rfl rfl ?_
    refine AW.gr (n := 17) dX9_round_14 fl_X9_29 s_0 rfl rfl ?_
    refine AW.gi (n := 20) dX9_round_17 fl_X9_132 s_17 rfl rfl ?_
    refine AW.sipush (n := 23) (v := 9000) dX9_round_20 rfl rfl ?_
    refine AW.icmp_le (n := 26) (t := 29) dX9_round_23 rfl rfl (fun h23 => ?_) (fun h23 => ?_)
    · refine AW.aload_n (n := 30) dX9_round_29 rfl rfl ?_
      refine AW.gr (n := 33) dX9_round_30 fl_X9_46 s_0 rfl rfl ?_
      refine AW.aload_n (n := 34) dX9_round_33 rfl rfl ?_
      refine AW.gr (n := 37) dX9_round_34 fl_X9_29 s_0 rfl rfl ?_
      refine AW.ev1v (Mc := mX3_push) (n := 40) dX9_round_37 lk_X9_182 k_mX3_push s_28 rfl rfl (c_X3_push sD_17 hx hx9 hy hy9) (Nat.le_of_ble_eq_true rfl) (by decide) (Nat.zero_le _) (Nat.zero_le _) rfl ?_
      refine AW.aload_n (n := 41) dX9_round_40 rfl rfl ?_
      refine AW.iload_n (n := 42) dX9_round_41 rfl rfl ?_
      refine AW.iload_n (n := 43) dX9_round_42 rfl rfl ?_
      refine AW.ev2v (Mc := mX9_drive) (n := 46) dX9_round_43 lk_X9_186 k_mX9_drive s_0 rfl rfl (c_X9_drive (ho.of (sPush_ne (by decide) hx9))) (Nat.le_of_ble_eq_true rfl) (by decide) (Nat.zero_le _) (Nat.zero_le _) rfl ?_
      refine AW.aload_n (n := 47) dX9_round_46 rfl rfl ?_
      refine AW.gr (n := 50) dX9_round_47 fl_X9_39 s_0 rfl rfl ?_
      refine AW.gi (n := 53) dX9_round_50 fl_X9_190 s_23 rfl rfl ?_
      refine AW.iret dX9_round_53 rfl rfl (Nat.zero_le _) (Nat.zero_le _) ?_
      exact ⟨by simp [oRound, h8, h23], by simp [oRound, h8, h23]⟩
    · refine AW.ldc (n := 28) dX9_round_26 kc_X9_91 rfl ?_
      refine AW.iret dX9_round_28 rfl rfl (Nat.zero_le _) (Nat.zero_le _) ?_
      exact ⟨by simp [oRound, h8, h23], by simp [oRound, h8, h23]⟩
  · refine AW.iload_n (n := 12) dX9_round_11 rfl rfl ?_
    refine AW.iret dX9_round_12 rfl rfl (Nat.zero_le _) (Nat.zero_le _) ?_
    exact ⟨by simp [oRound, h8], by simp [oRound, h8]⟩
set_option maxHeartbeats 4000000 in
set_option maxRecDepth 100000 in
theorem c_X9_fetch {μ : Me} {e : Nat × (Nat → aC)} {n x y : Nat} {s : Int32} (hn : μ 10 3 = nI n) (h7 : n ≤ 7) (hx : μ 28 1 = nI x) (hx9 : x < 30) (hy : μ 28 2 = nI y) (hy9 : y ≤ 30) : AC 3 0 0 mX9_fetch [.ref 0, .int s] (wS μ e) (a_eq (some (.int ((oFetch μ x y s).1))) (wS ((oFetch μ x y s).2) e)) := by
  refine AC.of (L := [some (.ref 0), some (.int s), none]) (j := 1) (by decide) rfl (Nat.le_of_ble_eq_true rfl) ?_
  refine AW.aload_n (n := 1) dX9_fetch_0 rfl rfl ?_
  refine AW.gr (n := 4) dX9_fetch_1 fl_X9_23 s_0 rfl rfl ?_
  refine AW.iload_n (n := 5) dX9_fetch_4 rfl rfl ?_
  refine AW.ev1i (Mc := mX6_has) (n := 8) dX9_fetch_5 lk_X9_150 k_mX6_has s_10 rfl rfl (c_X6_has sS_10) (Nat.le_of_ble_eq_true rfl) (by decide) (Nat.zero_le _) (Nat.zero_le _) rfl ?_
  refine AW.bif_ne (n := 11) (t := 14) dX9_fetch_8 rfl rfl (fun h8 => ?_) (fun h8 => ?_)
  · obtain ⟨j, hj, rfl⟩ := sHas_j hn h7 h8
    have hjc := cl_nI (show j < 2147483648 by omega)
    refine AW.aload_n (n := 15) dX9_fetch_14 rfl rfl ?_
    refine AW.gr (n := 18) dX9_fetch_15 fl_X9_29 s_0 rfl rfl ?_
    refine AW.gr (n := 21) dX9_fetch_18 fl_X9_163 s_17 rfl rfl ?_
    refine AW.iload_n (n := 22) dX9_fetch_21 rfl rfl ?_
    refine AW.ia (n := 23) j dX9_fetch_22 s_18 rfl (by omega) (by decide) rfl ?_
    refine AW.ist2 (n := 24) dX9_fetch_23 (Nat.le_of_ble_eq_true rfl) rfl rfl ?_
    refine AW.iload_n (n := 25) dX9_fetch_24 rfl rfl ?_
    refine AW.iconst (n := 26) (v := 3) dX9_fetch_25 rfl rfl ?_
    refine AW.icmp_eq (n := 29) (t := 37) dX9_fetch_26 rfl rfl (fun h26 => ?_) (fun h26 => ?_)
    · refine AW.aload_n (n := 38) dX9_fetch_37 rfl rfl ?_
      refine AW.gr (n := 41) dX9_fetch_38 fl_X9_46 s_0 rfl rfl ?_
      refine AW.aload_n (n := 42) dX9_fetch_41 rfl rfl ?_
      refine AW.gr (n := 45) dX9_fetch_42 fl_X9_29 s_0 rfl rfl ?_
      refine AW.ev1v (Mc := mX3_push) (n := 48) dX9_fetch_45 lk_X9_182 k_mX3_push s_28 rfl rfl (c_X3_push sD_17 hx hx9 hy hy9) (Nat.le_of_ble_eq_true rfl) (by decide) (Nat.zero_le _) (Nat.zero_le _) rfl ?_
      refine AW.aload_n (n := 49) dX9_fetch_48 rfl rfl ?_
      refine AW.gr (n := 52) dX9_fetch_49 fl_X9_29 s_0 rfl rfl ?_
      refine AW.gr (n := 55) dX9_fetch_52 fl_X9_163 s_17 rfl rfl ?_
      refine AW.iload_n (n := 56) dX9_fetch_55 rfl rfl ?_
      refine AW.iconst (n := 57) (v := 2) dX9_fetch_56 rfl rfl ?_
      refine AW.is (n := 58) j dX9_fetch_57 s_18 rfl (by omega) (by decide) rfl ?_
      refine AW.iload_n (n := 59) dX9_fetch_58 rfl rfl ?_
      refine AW.iconst (n := 60) (v := 3) dX9_fetch_59 rfl rfl ?_
      refine AW.icmp_ne (n := 63) (t := 67) dX9_fetch_60 rfl rfl (fun h60 => ?_) (fun h60 => ?_)
      · exact absurd h26 h60
      · refine AW.iconst (n := 64) (v := 1) dX9_fetch_63 rfl rfl ?_
        refine AW.goto (t := 68) dX9_fetch_64 rfl ?_
        refine AW.iret dX9_fetch_68 rfl rfl (Nat.zero_le _) (Nat.zero_le _) ?_
        exact ⟨by simp [oFetch, h8, hjc, h26], by simp [oFetch, h8, hjc, h26]⟩
    · refine AW.iload_n (n := 30) dX9_fetch_29 rfl rfl ?_
      refine AW.iconst (n := 31) (v := 4) dX9_fetch_30 rfl rfl ?_
      refine AW.icmp_eq (n := 34) (t := 37) dX9_fetch_31 rfl rfl (fun h31 => ?_) (fun h31 => ?_)
      · refine AW.aload_n (n := 38) dX9_fetch_37 rfl rfl ?_
        refine AW.gr (n := 41) dX9_fetch_38 fl_X9_46 s_0 rfl rfl ?_
        refine AW.aload_n (n := 42) dX9_fetch_41 rfl rfl ?_
        refine AW.gr (n := 45) dX9_fetch_42 fl_X9_29 s_0 rfl rfl ?_
        refine AW.ev1v (Mc := mX3_push) (n := 48) dX9_fetch_45 lk_X9_182 k_mX3_push s_28 rfl rfl (c_X3_push sD_17 hx hx9 hy hy9) (Nat.le_of_ble_eq_true rfl) (by decide) (Nat.zero_le _) (Nat.zero_le _) rfl ?_
        refine AW.aload_n (n := 49) dX9_fetch_48 rfl rfl ?_
        refine AW.gr (n := 52) dX9_fetch_49 fl_X9_29 s_0 rfl rfl ?_
        refine AW.gr (n := 55) dX9_fetch_52 fl_X9_163 s_17 rfl rfl ?_
        refine AW.iload_n (n := 56) dX9_fetch_55 rfl rfl ?_
        refine AW.iconst (n := 57) (v := 2) dX9_fetch_56 rfl rfl ?_
        refine AW.is (n := 58) j dX9_fetch_57 s_18 rfl (by omega) (by decide) rfl ?_
        refine AW.iload_n (n := 59) dX9_fetch_58 rfl rfl ?_
        refine AW.iconst (n := 60) (v := 3) dX9_fetch_59 rfl rfl ?_
        refine AW.icmp_ne (n := 63) (t := 67) dX9_fetch_60 rfl rfl (fun h60 => ?_) (fun h60 => ?_)
        · refine AW.iconst (n := 68) (v := 0) dX9_fetch_67 rfl rfl ?_
          refine AW.iret dX9_fetch_68 rfl rfl (Nat.zero_le _) (Nat.zero_le _) ?_
          exact ⟨by simp [oFetch, h8, hjc, h26, h31], by simp [oFetch, h8, hjc, h26, h31]⟩
        · exact absurd h60 h26
      · refine AW.ldc (n := 36) dX9_fetch_34 kc_X9_193 rfl ?_
        refine AW.iret dX9_fetch_36 rfl rfl (Nat.zero_le _) (Nat.zero_le _) ?_
        exact ⟨by simp [oFetch, h8, hjc, h26, h31], by simp [oFetch, h8, hjc, h26, h31]⟩
  · refine AW.ldc (n := 13) dX9_fetch_11 kc_X9_153 rfl ?_
    refine AW.iret dX9_fetch_13 rfl rfl (Nat.zero_le _) (Nat.zero_le _) ?_
    exact ⟨by simp [oFetch, h8], by simp [oFetch, h8]⟩
set_option maxHeartbeats 4000000 in
set_option maxRecDepth 100000 in
theorem c_X9_order {μ : Me} {e : Nat × (Nat → aC)} {n x y : Nat} {s : Int32} (hn : μ 10 3 = nI n) (h7 : n ≤ 7) (hx : μ 28 1 = nI x) (hx9 : x < 30) (hy : μ 28 2 = nI y) (hy9 : y ≤ 30) : AC 3 0 0 mX9_order [.ref 0, .int s] (wS μ e) (a_eq (some (.int ((oOrder μ x y s).1))) (wS ((oOrder μ x y s).2) e)) := by
  refine AC.of (L := [some (.ref 0), some (.int s)]) (j := 0) (by decide) rfl (Nat.le_of_ble_eq_true rfl) ?_
  refine AW.aload_n (n := 1) dX9_order_0 rfl rfl ?_
  refine AW.gr (n := 4) dX9_order_1 fl_X9_23 s_0 rfl rfl ?_
  refine AW.iload_n (n := 5) dX9_order_4 rfl rfl ?_
  refine AW.ev1i (Mc := mX6_has) (n := 8) dX9_order_5 lk_X9_150 k_mX6_has s_10 rfl rfl (c_X6_has sS_10) (Nat.le_of_ble_eq_true rfl) (by decide) (Nat.zero_le _) (Nat.zero_le _) rfl ?_
  refine AW.bif_ne (n := 11) (t := 14) dX9_order_8 rfl rfl (fun h8 => ?_) (fun h8 => ?_)
  · obtain ⟨j, hj, rfl⟩ := sHas_j hn h7 h8
    have hjc := cl_nI (show j < 2147483648 by omega)
    refine AW.aload_n (n := 15) dX9_order_14 rfl rfl ?_
    refine AW.gr (n := 18) dX9_order_15 fl_X9_29 s_0 rfl rfl ?_
    refine AW.gr (n := 21) dX9_order_18 fl_X9_163 s_17 rfl rfl ?_
    refine AW.iload_n (n := 22) dX9_order_21 rfl rfl ?_
    refine AW.ia (n := 23) j dX9_order_22 s_18 rfl (by omega) (by decide) rfl ?_
    refine AW.iconst (n := 24) (v := 2) dX9_order_23 rfl rfl ?_
    refine AW.icmp_eq (n := 27) (t := 30) dX9_order_24 rfl rfl (fun h24 => ?_) (fun h24 => ?_)
    · refine AW.aload_n (n := 31) dX9_order_30 rfl rfl ?_
      refine AW.gr (n := 34) dX9_order_31 fl_X9_46 s_0 rfl rfl ?_
      refine AW.aload_n (n := 35) dX9_order_34 rfl rfl ?_
      refine AW.gr (n := 38) dX9_order_35 fl_X9_29 s_0 rfl rfl ?_
      refine AW.ev1v (Mc := mX3_push) (n := 41) dX9_order_38 lk_X9_182 k_mX3_push s_28 rfl rfl (c_X3_push sD_17 hx hx9 hy hy9) (Nat.le_of_ble_eq_true rfl) (by decide) (Nat.zero_le _) (Nat.zero_le _) rfl ?_
      refine AW.aload_n (n := 42) dX9_order_41 rfl rfl ?_
      refine AW.gr (n := 45) dX9_order_42 fl_X9_29 s_0 rfl rfl ?_
      refine AW.gr (n := 48) dX9_order_45 fl_X9_163 s_17 rfl rfl ?_
      refine AW.iload_n (n := 49) dX9_order_48 rfl rfl ?_
      refine AW.iconst (n := 50) (v := 1) dX9_order_49 rfl rfl ?_
      refine AW.is (n := 51) j dX9_order_50 s_18 rfl (by omega) (by decide) rfl ?_
      refine AW.iconst (n := 52) (v := 1) dX9_order_51 rfl rfl ?_
      refine AW.iret dX9_order_52 rfl rfl (Nat.zero_le _) (Nat.zero_le _) ?_
      exact ⟨by simp [oOrder, h8, hjc, h24], by simp [oOrder, h8, hjc, h24]⟩
    · refine AW.ldc (n := 29) dX9_order_27 kc_X9_193 rfl ?_
      refine AW.iret dX9_order_29 rfl rfl (Nat.zero_le _) (Nat.zero_le _) ?_
      exact ⟨by simp [oOrder, h8, hjc, h24], by simp [oOrder, h8, hjc, h24]⟩
  · refine AW.ldc (n := 13) dX9_order_11 kc_X9_153 rfl ?_
    refine AW.iret dX9_order_13 rfl rfl (Nat.zero_le _) (Nat.zero_le _) ?_
    exact ⟨by simp [oOrder, h8], by simp [oOrder, h8]⟩
set_option maxHeartbeats 4000000 in
set_option maxRecDepth 100000 in
theorem c_X9_thank {μ : Me} {e : Nat × (Nat → aC)} {n x y : Nat} {s : Int32} (hn : μ 10 3 = nI n) (h7 : n ≤ 7) (hx : μ 28 1 = nI x) (hx9 : x < 30) (hy : μ 28 2 = nI y) (hy9 : y ≤ 30) : AC 3 0 0 mX9_thank [.ref 0, .int s] (wS μ e) (a_eq (some (.int ((oThank μ x y s).1))) (wS ((oThank μ x y s).2) e)) := by
  refine AC.of (L := [some (.ref 0), some (.int s), none]) (j := 1) (by decide) rfl (Nat.le_of_ble_eq_true rfl) ?_
  refine AW.aload_n (n := 1) dX9_thank_0 rfl rfl ?_
  refine AW.gr (n := 4) dX9_thank_1 fl_X9_23 s_0 rfl rfl ?_
  refine AW.iload_n (n := 5) dX9_thank_4 rfl rfl ?_
  refine AW.ev1i (Mc := mX6_has) (n := 8) dX9_thank_5 lk_X9_150 k_mX6_has s_10 rfl rfl (c_X6_has sS_10) (Nat.le_of_ble_eq_true rfl) (by decide) (Nat.zero_le _) (Nat.zero_le _) rfl ?_
  refine AW.bif_ne (n := 11) (t := 14) dX9_thank_8 rfl rfl (fun h8 => ?_) (fun h8 => ?_)
  · obtain ⟨j, hj, rfl⟩ := sHas_j hn h7 h8
    have hjc := cl_nI (show j < 2147483648 by omega)
    refine AW.aload_n (n := 15) dX9_thank_14 rfl rfl ?_
    refine AW.gr (n := 18) dX9_thank_15 fl_X9_23 s_0 rfl rfl ?_
    refine AW.gr (n := 21) dX9_thank_18 fl_X9_166 s_10 rfl rfl ?_
    refine AW.iload_n (n := 22) dX9_thank_21 rfl rfl ?_
    refine AW.ia (n := 23) j dX9_thank_22 s_14 rfl (by omega) (by decide) rfl ?_
    refine AW.iconst (n := 24) (v := -1) dX9_thank_23 rfl rfl ?_
    refine AW.icmp_ne (n := 27) (t := 30) dX9_thank_24 rfl rfl (fun h24 => ?_) (fun h24 => ?_)
    · refine AW.aload_n (n := 31) dX9_thank_30 rfl rfl ?_
      refine AW.gr (n := 34) dX9_thank_31 fl_X9_46 s_0 rfl rfl ?_
      refine AW.aload_n (n := 35) dX9_thank_34 rfl rfl ?_
      refine AW.gr (n := 38) dX9_thank_35 fl_X9_29 s_0 rfl rfl ?_
      refine AW.ev1v (Mc := mX3_push) (n := 41) dX9_thank_38 lk_X9_182 k_mX3_push s_28 rfl rfl (c_X3_push sD_17 hx hx9 hy hy9) (Nat.le_of_ble_eq_true rfl) (by decide) (Nat.zero_le _) (Nat.zero_le _) rfl ?_
      refine AW.aload_n (n := 42) dX9_thank_41 rfl rfl ?_
      refine AW.gr (n := 45) dX9_thank_42 fl_X9_29 s_0 rfl rfl ?_
      refine AW.gr (n := 48) dX9_thank_45 fl_X9_172 s_17 rfl rfl ?_
      refine AW.iload_n (n := 49) dX9_thank_48 rfl rfl ?_
      refine AW.ia (n := 50) j dX9_thank_49 s_19 rfl (by omega) (by decide) rfl ?_
      refine AW.ist2 (n := 51) dX9_thank_50 (Nat.le_of_ble_eq_true rfl) rfl rfl ?_
      refine AW.aload_n (n := 52) dX9_thank_51 rfl rfl ?_
      refine AW.gr (n := 55) dX9_thank_52 fl_X9_29 s_0 rfl rfl ?_
      refine AW.gr (n := 58) dX9_thank_55 fl_X9_172 s_17 rfl rfl ?_
      refine AW.iload_n (n := 59) dX9_thank_58 rfl rfl ?_
      refine AW.iconst (n := 60) (v := 0) dX9_thank_59 rfl rfl ?_
      refine AW.is (n := 61) j dX9_thank_60 s_19 rfl (by omega) (by decide) rfl ?_
      refine AW.iload_n (n := 62) dX9_thank_61 rfl rfl ?_
      refine AW.iret dX9_thank_62 rfl rfl (Nat.zero_le _) (Nat.zero_le _) ?_
      exact ⟨by simp [oThank, h8, hjc, h24], by simp [oThank, h8, hjc, h24]⟩
    · refine AW.ldc (n := 29) dX9_thank_27 kc_X9_193 rfl ?_
      refine AW.iret dX9_thank_29 rfl rfl (Nat.zero_le _) (Nat.zero_le _) ?_
      exact ⟨by simp [oThank, h8, hjc, h24], by simp [oThank, h8, hjc, h24]⟩
  · refine AW.ldc (n := 13) dX9_thank_11 kc_X9_153 rfl ?_
    refine AW.iret dX9_thank_13 rfl rfl (Nat.zero_le _) (Nat.zero_le _) ?_
    exact ⟨by simp [oThank, h8], by simp [oThank, h8]⟩
set_option maxHeartbeats 4000000 in
set_option maxRecDepth 100000 in
theorem c_X9_undo {μ : Me} {e : Nat × (Nat → aC)} {x y : Nat} {n : Int32} (hx : μ 28 1 = nI x) (hx9 : x < 30) (hy : μ 28 2 = nI y) (hy9 : y ≤ 30) : AC 3 0 0 mX9_undo [.ref 0, .int n] (wS μ e) (a_eq (some (.int ((oUndo μ x y n).1))) (wS ((oUndo μ x y n).2) e)) := by
  refine AC.of (L := [some (.ref 0), some (.int n)]) (j := 0) (by decide) rfl (Nat.le_of_ble_eq_true rfl) ?_
  refine AW.iload_n (n := 1) dX9_undo_0 rfl rfl ?_
  refine AW.iconst (n := 2) (v := 1) dX9_undo_1 rfl rfl ?_
  refine AW.bipush (n := 4) (v := 30) dX9_undo_2 rfl rfl ?_
  refine AW.es3i (Mc := mX9_within) (n := 7) dX9_undo_4 lk_X9_79 k_mX9_within (c_X9_within) (Nat.le_of_ble_eq_true rfl) (by decide) (Nat.zero_le _) (Nat.zero_le _) rfl ?_
  refine AW.bif_ne (n := 10) (t := 13) dX9_undo_7 rfl rfl (fun h7 => ?_) (fun h7 => ?_)
  · refine AW.iload_n (n := 14) dX9_undo_13 rfl rfl ?_
    refine AW.aload_n (n := 15) dX9_undo_14 rfl rfl ?_
    refine AW.gr (n := 18) dX9_undo_15 fl_X9_46 s_0 rfl rfl ?_
    refine AW.gi (n := 21) dX9_undo_18 fl_X9_149 s_28 rfl rfl ?_
    refine AW.icmp_le (n := 24) (t := 27) dX9_undo_21 rfl rfl (fun h21 => ?_) (fun h21 => ?_)
    · have q1 : ¬ n < 0 := fun q => by
        simp only [sWithin, Bool.and_eq_true, Bool.not_eq_true', decide_eq_false_iff_not] at h7
        exact h7.1 (Int32.lt_trans q (by decide))
      obtain ⟨k, hk, rfl⟩ := nI_of q1
      have hk1 : 1 ≤ k := by
        simp only [sWithin, Bool.and_eq_true, Bool.not_eq_true', decide_eq_false_iff_not] at h7
        exact nlt_lit (b := 1) (x := nI k) rfl hk (by omega) h7.1
      have hk2 : k ≤ y := (nI_leI hk (by omega)).mp (by rw [← hy]; exact h21)
      have hkc := cl_nI hk
      refine AW.aload_n (n := 28) dX9_undo_27 rfl rfl ?_
      refine AW.gr (n := 31) dX9_undo_28 fl_X9_46 s_0 rfl rfl ?_
      refine AW.iload_n (n := 32) dX9_undo_31 rfl rfl ?_
      refine AW.aload_n (n := 33) dX9_undo_32 rfl rfl ?_
      refine AW.gr (n := 36) dX9_undo_33 fl_X9_29 s_0 rfl rfl ?_
      refine AW.ev2v (Mc := mX3_pop) (n := 39) dX9_undo_36 lk_X9_204 k_mX3_pop s_28 rfl rfl (c_X3_pop sD_17 hx hx9 hy hy9 hk1 hk2) (Nat.le_of_ble_eq_true rfl) (by decide) (Nat.zero_le _) (Nat.zero_le _) rfl ?_
      refine AW.aload_n (n := 40) dX9_undo_39 rfl rfl ?_
      refine AW.gr (n := 43) dX9_undo_40 fl_X9_29 s_0 rfl rfl ?_
      refine AW.gi (n := 46) dX9_undo_43 fl_X9_132 s_17 rfl rfl ?_
      refine AW.iret dX9_undo_46 rfl rfl (Nat.zero_le _) (Nat.zero_le _) ?_
      exact ⟨by simp [oUndo, h7, h21, hkc], by simp [oUndo, h7, h21, hkc]⟩
    · refine AW.ldc (n := 26) dX9_undo_24 kc_X9_193 rfl ?_
      refine AW.iret dX9_undo_26 rfl rfl (Nat.zero_le _) (Nat.zero_le _) ?_
      exact ⟨by simp [oUndo, h7, h21], by simp [oUndo, h7, h21]⟩
  · refine AW.ldc (n := 12) dX9_undo_10 kc_X9_83 rfl ?_
    refine AW.iret dX9_undo_12 rfl rfl (Nat.zero_le _) (Nat.zero_le _) ?_
    exact ⟨by simp [oUndo, h7], by simp [oUndo, h7]⟩
set_option maxHeartbeats 4000000 in
set_option maxRecDepth 100000 in
theorem c_X9_draw {μ : Me} {e : Nat × (Nat → aC)} {n : Int32}  : AC 0 0 0 mX9_draw [.ref 0, .int n] (wS μ e) (a_eq (some (.int (sDraw μ n))) (wS (sDice μ) e)) := by
  refine AC.of (L := [some (.ref 0), some (.int n)]) (j := 0) (by decide) rfl (Nat.le_of_ble_eq_true rfl) ?_
  refine AW.aload_n (n := 1) dX9_draw_0 rfl rfl ?_
  refine AW.aload_n (n := 2) dX9_draw_1 rfl rfl ?_
  refine AW.gi (n := 5) dX9_draw_2 fl_X9_75 s_0 rfl rfl ?_
  refine AW.i2l (n := 6) dX9_draw_5 rfl ?_
  refine AW.ldc2 (n := 9) dX9_draw_6 kl_X9_270 rfl ?_
  refine AW.lmul (n := 10) dX9_draw_9 rfl ?_
  refine AW.ldc2 (n := 13) dX9_draw_10 kl_X9_272 rfl ?_
  refine AW.ladd (n := 14) dX9_draw_13 rfl ?_
  refine AW.ldc2 (n := 17) dX9_draw_14 kl_X9_274 rfl ?_
  refine AW.land (n := 18) dX9_draw_17 rfl ?_
  refine AW.l2i (n := 19) dX9_draw_18 rfl ?_
  refine AW.pi (n := 22) dX9_draw_19 fp_X9_75 s_0 rfl ⟨rfl, rfl⟩ rfl ?_
  change AW _ _ _ _ _ _ _ _ _ _ (wS (sDice μ) e) _
  refine AW.iload_n (n := 23) dX9_draw_22 rfl rfl ?_
  refine AW.iconst (n := 24) (v := 1) dX9_draw_23 rfl rfl ?_
  refine AW.icmp_ge (n := 27) (t := 31) dX9_draw_24 rfl rfl (fun h24 => ?_) (fun h24 => ?_)
  · refine AW.aload_n (n := 32) dX9_draw_31 rfl rfl ?_
    refine AW.gi (n := 35) dX9_draw_32 fl_X9_75 s_0 rfl rfl ?_
    refine AW.ldcw (n := 38) dX9_draw_35 kc_X9_276 rfl ?_
    refine AW.idiv (n := 39) dX9_draw_38 (by decide) rfl ?_
    refine AW.iload_n (n := 40) dX9_draw_39 rfl rfl ?_
    refine AW.irem (n := 41) dX9_draw_40 (dn_ne h24) rfl ?_
    refine AW.iret dX9_draw_41 rfl rfl (Nat.zero_le _) (Nat.zero_le _) ?_
    exact ⟨by simp [sDraw, h24], rfl⟩
  · refine AW.iconst (n := 28) (v := 0) dX9_draw_27 rfl rfl ?_
    refine AW.goto (t := 41) dX9_draw_28 rfl ?_
    refine AW.iret dX9_draw_41 rfl rfl (Nat.zero_le _) (Nat.zero_le _) ?_
    exact ⟨by simp [sDraw, h24], rfl⟩
set_option maxHeartbeats 4000000 in
set_option maxRecDepth 100000 in
theorem c_X9_orderByDraw {μ : Me} {e : Nat × (Nat → aC)} {n : Nat} (hn : μ 10 3 = nI n) (h7 : n ≤ 7) : AC 1 0 0 mX9_orderByDraw [.ref 0] (wS μ e) (a_eq none (wS (sObd μ) e)) := by
  refine AC.of (L := [some (.ref 0), none]) (j := 1) (by decide) rfl (Nat.le_of_ble_eq_true rfl) ?_
  refine AW.aload_n (n := 1) dX9_orderByDraw_0 rfl rfl ?_
  refine AW.aload_n (n := 2) dX9_orderByDraw_1 rfl rfl ?_
  refine AW.gr (n := 5) dX9_orderByDraw_2 fl_X9_23 s_0 rfl rfl ?_
  refine AW.gi (n := 8) dX9_orderByDraw_5 fl_X9_117 s_10 rfl rfl ?_
  refine AW.ev1i (Mc := mX9_draw) (n := 11) dX9_orderByDraw_8 lk_X9_201 k_mX9_draw s_0 rfl rfl (c_X9_draw) (Nat.le_of_ble_eq_true rfl) (by decide) (Nat.zero_le _) (Nat.zero_le _) rfl ?_
  refine AW.ist1 (n := 12) dX9_orderByDraw_11 (Nat.le_of_ble_eq_true rfl) rfl rfl ?_
  have e10 : sDice μ 10 = μ 10 := mu_ne (by decide)
  unfold sObd
  generalize hr : sDraw μ (μ 10 3) = r
  refine AW.aload_n (n := 13) dX9_orderByDraw_12 rfl rfl ?_
  refine AW.gr (n := 16) dX9_orderByDraw_13 fl_X9_23 s_0 rfl rfl ?_
  refine AW.iload_n (n := 17) dX9_orderByDraw_16 rfl rfl ?_
  refine AW.ev1i (Mc := mX6_has) (n := 20) dX9_orderByDraw_17 lk_X9_150 k_mX6_has s_10 rfl rfl (c_X6_has sS_10) (Nat.le_of_ble_eq_true rfl) (by decide) (Nat.zero_le _) (Nat.zero_le _) rfl ?_
  rw [e10]
  refine AW.bif_eq (n := 23) (t := 46) dX9_orderByDraw_20 rfl rfl (fun h20 => ?_) (fun h20 => ?_)
  · refine AW.ret dX9_orderByDraw_46 rfl (Nat.zero_le _) (Nat.zero_le _) ?_
    exact ⟨rfl, by simp [h20]⟩
  · obtain ⟨j, hj, rfl⟩ := sHas_j hn h7 h20
    have hjc := cl_nI (show j < 2147483648 by omega)
    refine AW.aload_n (n := 24) dX9_orderByDraw_23 rfl rfl ?_
    refine AW.gr (n := 27) dX9_orderByDraw_24 fl_X9_29 s_0 rfl rfl ?_
    refine AW.gr (n := 30) dX9_orderByDraw_27 fl_X9_163 s_17 rfl rfl ?_
    refine AW.iload_n (n := 31) dX9_orderByDraw_30 rfl rfl ?_
    refine AW.ia (n := 32) j dX9_orderByDraw_31 s_18 rfl (by omega) (by decide) rfl ?_
    refine AW.iconst (n := 33) (v := 2) dX9_orderByDraw_32 rfl rfl ?_
    refine AW.icmp_ne (n := 36) (t := 46) dX9_orderByDraw_33 rfl rfl (fun h33 => ?_) (fun h33 => ?_)
    · refine AW.ret dX9_orderByDraw_46 rfl (Nat.zero_le _) (Nat.zero_le _) ?_
      exact ⟨rfl, by simp [h20, hjc, h33]⟩
    · refine AW.aload_n (n := 37) dX9_orderByDraw_36 rfl rfl ?_
      refine AW.gr (n := 40) dX9_orderByDraw_37 fl_X9_29 s_0 rfl rfl ?_
      refine AW.gr (n := 43) dX9_orderByDraw_40 fl_X9_163 s_17 rfl rfl ?_
      refine AW.iload_n (n := 44) dX9_orderByDraw_43 rfl rfl ?_
      refine AW.iconst (n := 45) (v := 1) dX9_orderByDraw_44 rfl rfl ?_
      refine AW.is (n := 46) j dX9_orderByDraw_45 s_18 rfl (by omega) (by decide) rfl ?_
      refine AW.ret dX9_orderByDraw_46 rfl (Nat.zero_le _) (Nat.zero_le _) ?_
      exact ⟨rfl, by simp [h20, hjc, h33]⟩
