def mCol (mask : Int32) (f : Nat → Int32) : Nat → Nat × (Nat → Int32)
  | 0 => (0, f)
  | i + 1 => if sBit mask (nI i) then ((mCol mask f i).1 + 1, upd (mCol mask f i).2 (mCol mask f i).1 (nI i)) else mCol mask f i
theorem col_le {mask : Int32} {f : Nat → Int32} : ∀ i, (mCol mask f i).1 ≤ i := by
  intro i
  induction i with
  | zero => exact Nat.le_refl _
  | succ i ih => rw [mCol]; split; · exact Nat.succ_le_succ ih
                 · omega
theorem col_ok {mask : Int32} {f : Nat → Int32} : ∀ i, i ≤ 7 → rOk (mCol mask f i).2 (mCol mask f i).1 i := by
  intro i
  induction i with
  | zero => intro _; exact ⟨fun t ht => absurd ht (Nat.not_lt_zero _), fun s t hs => absurd hs (Nat.not_lt_zero _)⟩
  | succ i ih =>
    intro h7
    have h := ih (by omega)
    rw [mCol]
    split
    · refine ⟨fun t ht => ?_, fun s t hs ht q => ?_⟩
      · dsimp only at ht ⊢
        unfold upd
        split
        · exact ⟨i, by omega, rfl⟩
        · obtain ⟨q, hq, e⟩ := h.1 t (by omega)
          exact ⟨q, by omega, e⟩
      · dsimp only at hs ht q
        unfold upd at q
        split at q
        · split at q
          · omega
          · obtain ⟨x, hx, e⟩ := h.1 t (by omega)
            rw [e] at q
            have := (nI_eq (by omega) (by omega)).mp q
            omega
        · split at q
          · obtain ⟨x, hx, e⟩ := h.1 s (by omega)
            rw [e] at q
            have := (nI_eq (by omega) (by omega)).mp q
            omega
          · exact h.2 s t (by omega) (by omega) q
    · exact ⟨fun t ht => by obtain ⟨q, hq, e⟩ := h.1 t ht; exact ⟨q, by omega, e⟩, h.2⟩
theorem bit_and {x s : Int32} : (x >>> (s &&& 31)) &&& 1 = b2i (sBit x s) := by
  obtain ⟨j, hj, e⟩ := pk_andE (x >>> (s &&& 31)) (m := 1) 1 rfl
  unfold sBit
  rw [e]
  rcases (show j = 0 ∨ j = 1 by omega) with rfl | rfl <;> decide
def mBet (bh bb h t : Int32) : Bool := decide (bh < h) || (decide (h = bh) && !decide (bb ≤ t))
def mBsN (haste : Int32) (k : Nat) (B : sB3) (ν : Me) : sB3 :=
  if mBet B.2.1 B.2.2 ((mTry ν (mWOf (ν 148) k) haste).2 136 20) (mTry ν (mWOf (ν 148) k) haste).1 then (mWOf (ν 148) k, (mTry ν (mWOf (ν 148) k) haste).2 136 20, (mTry ν (mWOf (ν 148) k) haste).1) else B
def mBst (haste : Int32) (k : Nat) : Nat → sB3 → Me → sB3 × Me
  | 0, B, ν => (B, ν)
  | r + 1, B, ν => match nx (ν 148) k with
    | none => (mBsN haste k B ν, mr (mTry ν (mWOf (ν 148) k) haste).2 148 (ν 148))
    | some f => mBst haste k r (mBsN haste k B ν) (mr (mTry ν (mWOf (ν 148) k) haste).2 148 f)
def sSel (w : Int32) (B : sB3) : Int32 := if w = 0 then B.1 else if w = 1 then B.2.1 else B.2.2
def mBest (ν : Me) (n : Nat) (h : Int32) : sB3 × Me := mBst h (mCol (mCnt (ν 137) n) (ν 148) n).1 823543 (-1, -1, 99999999) (mr ν 148 (mCol (mCnt (ν 137) n) (ν 148) n).2)
def qBest (ν : Me) (n : Nat) (h w : Int32) : Int32 × Me :=
  if sWithin h 0 3 then (if sWithin w 0 2 then (if (mCol (mCnt (ν 137) n) (ν 148) n).1 = 0 then (-1, mr ν 148 (mCol (mCnt (ν 137) n) (ν 148) n).2)
    else (sSel w (mBest ν n h).1, (mBest ν n h).2)) else (-1000000002, ν)) else (-1000000002, ν)
theorem try_148 {n : Nat} {way haste : Int32} {ν : Me} (hw : mWok way n) (h7 : n ≤ 7) : (mTry ν way haste).2 148 = ν 148 := by rw [(mTry_fr hw h7).1 148 (by decide) (by decide) (by decide), mCopy, cpy_ne (by decide)]
theorem mG.mr8 {ν : Me} {n d : Nat} {f : Nat → Int32} (h : mG ν n d) : mG (mr ν 148 f) n d := by
  refine h.of ?_ ?_ ?_ ?_ ?_ <;> rw [mr_ne (by decide)]
theorem seven7 {k : Nat} (h : k ≤ 7) : 7 ^ k ≤ 823543 := by
  rcases (show k = 0 ∨ k = 1 ∨ k = 2 ∨ k = 3 ∨ k = 4 ∨ k = 5 ∨ k = 6 ∨ k = 7 by omega) with rfl | rfl | rfl | rfl | rfl | rfl | rfl | rfl <;> decide
set_option maxHeartbeats 4000000 in
set_option maxRecDepth 100000 in
theorem l_X10_bw0 {μ : Me} {e : Nat × (Nat → aC)} {h w mask many bw bh bb : Int32} {L9 L10 : Option Value} : AW none 5 0 0 mX10_bestWay 0 0 107 [some (.ref 136), some (.int h), some (.int w), some (.int mask), some (.int many), some (.int bw), some (.int bh), some (.int bb), some (.int 0), L9, L10] [] (wS μ e) (a_eq (some (.int (sSel w (bw, bh, bb)))) (wS μ e)) := by
  refine AW.iload (n := 109) dX10_bestWay_107 rfl rfl ?_
  refine AW.if_eq (n := 112) (t := 179) dX10_bestWay_109 rfl rfl (fun h109 => ?_) (fun h109 => ?_)
  · refine AW.iload_n (n := 180) dX10_bestWay_179 rfl rfl ?_
    refine AW.if_ne (n := 183) (t := 188) dX10_bestWay_180 rfl rfl (fun h180 => ?_) (fun h180 => ?_)
    · refine AW.iload_n (n := 189) dX10_bestWay_188 rfl rfl ?_
      refine AW.iconst (n := 190) (v := 1) dX10_bestWay_189 rfl rfl ?_
      refine AW.icmp_ne (n := 193) (t := 198) dX10_bestWay_190 rfl rfl (fun h190 => ?_) (fun h190 => ?_)
      · refine AW.iload (n := 200) dX10_bestWay_198 rfl rfl ?_
        refine AW.iret dX10_bestWay_200 rfl rfl (Nat.zero_le _) (Nat.zero_le _) ?_
        exact ⟨by simp [sSel, h180, h190], rfl⟩
      · refine AW.iload (n := 195) dX10_bestWay_193 rfl rfl ?_
        refine AW.goto (t := 200) dX10_bestWay_195 rfl ?_
        refine AW.iret dX10_bestWay_200 rfl rfl (Nat.zero_le _) (Nat.zero_le _) ?_
        exact ⟨by simp [sSel, h180, h190], rfl⟩
    · refine AW.iload (n := 185) dX10_bestWay_183 rfl rfl ?_
      refine AW.goto (t := 200) dX10_bestWay_185 rfl ?_
      refine AW.iret dX10_bestWay_200 rfl rfl (Nat.zero_le _) (Nat.zero_le _) ?_
      exact ⟨by simp [sSel, h180], rfl⟩
  · exact absurd rfl h109
set_option maxHeartbeats 8000000 in
set_option maxRecDepth 100000 in
theorem l_X10_bw107 {e : Nat × (Nat → aC)} {n d k : Nat} {h w mask : Int32} (hk : k ≤ 7) (hk0 : 0 < k) (hh : sWithin h 0 3 = true) : ∀ (r : Nat) (bw bh bb : Int32) (μ : Me) (L9 L10 : Option Value), mG μ n d → rOk (μ 148) k n → 7 ^ k ≤ vl (μ 148) k + r → AW none 5 0 0 mX10_bestWay 0 0 107 [some (.ref 136), some (.int h), some (.int w), some (.int mask), some (.int (nI k)), some (.int bw), some (.int bh), some (.int bb), some (.int 1), L9, L10] [] (wS μ e) (a_eq (some (.int (sSel w (mBst h k r (bw, bh, bb) μ).1))) (wS (mBst h k r (bw, bh, bb) μ).2 e)) := by
  intro r
  induction r with
  | zero =>
    intro bw bh bb μ L9 L10 hG hr hv
    have := vl_lt (f := μ 148) k (fun t ht => by have := (hr.g hG.2.1 t ht).2; have := hG.2.1; omega)
    omega
  | succ r ih =>
    intro bw bh bb μ L9 L10 hG hr hv
    have hw := hr.way hG.2.1 hk
    have h8 := try_148 (ν := μ) (haste := h) hw hG.2.1
    refine AW.iload (n := 109) dX10_bestWay_107 rfl rfl ?_
    refine AW.if_eq (n := 112) (t := 179) dX10_bestWay_109 rfl rfl (fun h109 => ?_) (fun h109 => ?_)
    · exact absurd h109 (by decide)
    · refine AW.aload_n (n := 113) dX10_bestWay_112 rfl rfl ?_
      refine AW.iload (n := 115) dX10_bestWay_113 rfl rfl ?_
      refine AW.ev1i (Mc := mX10_wayOf) (n := 118) dX10_bestWay_115 lk_X10_241 k_mX10_wayOf s_136 rfl rfl (c_X10_wayOf hk) (Nat.le_of_ble_eq_true rfl) (by decide) (Nat.zero_le _) (Nat.zero_le _) rfl ?_
      refine AW.ist9 (n := 120) dX10_bestWay_118 (Nat.le_of_ble_eq_true rfl) rfl rfl ?_
      refine AW.aload_n (n := 121) dX10_bestWay_120 rfl rfl ?_
      refine AW.iload (n := 123) dX10_bestWay_121 rfl rfl ?_
      refine AW.iload_n (n := 124) dX10_bestWay_123 rfl rfl ?_
      refine AW.ev2i (Mc := mX10_tryRound) (n := 127) dX10_bestWay_124 lk_X10_224 k_mX10_tryRound s_136 rfl rfl (c_X10_tryRound hh hw hG) (Nat.le_of_ble_eq_true rfl) (by decide) (Nat.zero_le _) (Nat.zero_le _) rfl ?_
      show AW _ _ _ _ _ _ _ _ _ _ (wS (mTry μ (mWOf (μ 148) k) h).2 e) _
      refine AW.ist10 (n := 129) dX10_bestWay_127 (Nat.le_of_ble_eq_true rfl) rfl rfl ?_
      refine AW.aload_n (n := 130) dX10_bestWay_129 rfl rfl ?_
      refine AW.gi (n := 133) dX10_bestWay_130 fl_X10_176 s_136 rfl rfl ?_
      refine AW.iload (n := 135) dX10_bestWay_133 rfl rfl ?_
      refine AW.icmp_gt (n := 138) (t := 154) dX10_bestWay_135 rfl rfl (fun h135 => ?_) (fun h135 => ?_)
      · refine AW.iload (n := 156) dX10_bestWay_154 rfl rfl ?_
        refine AW.ist5 (n := 158) dX10_bestWay_156 (Nat.le_of_ble_eq_true rfl) rfl rfl ?_
        refine AW.aload_n (n := 159) dX10_bestWay_158 rfl rfl ?_
        refine AW.gi (n := 162) dX10_bestWay_159 fl_X10_176 s_136 rfl rfl ?_
        refine AW.ist6 (n := 164) dX10_bestWay_162 (Nat.le_of_ble_eq_true rfl) rfl rfl ?_
        refine AW.iload (n := 166) dX10_bestWay_164 rfl rfl ?_
        refine AW.ist7 (n := 168) dX10_bestWay_166 (Nat.le_of_ble_eq_true rfl) rfl rfl ?_
        refine AW.aload_n (n := 169) dX10_bestWay_168 rfl rfl ?_
        refine AW.iload (n := 171) dX10_bestWay_169 rfl rfl ?_
        refine AW.ev1i (Mc := mX10_nextRow) (n := 174) dX10_bestWay_171 lk_X10_244 k_mX10_nextRow s_136 rfl rfl (c_X10_nextRow hk hk0) (Nat.le_of_ble_eq_true rfl) (by decide) (Nat.zero_le _) (Nat.zero_le _) rfl ?_
        refine AW.ist8 (n := 176) dX10_bestWay_174 (Nat.le_of_ble_eq_true rfl) rfl rfl ?_
        refine AW.goto (t := 107) dX10_bestWay_176 rfl ?_
        have eB : mBsN h k (bw, bh, bb) μ = (mWOf (μ 148) k, (mTry μ (mWOf (μ 148) k) h).2 136 20, (mTry μ (mWOf (μ 148) k) h).1) := by
          have eb : mBet bh bb ((mTry μ (mWOf (μ 148) k) h).2 136 20) (mTry μ (mWOf (μ 148) k) h).1 = true := by simp [mBet, h135]
          unfold mBsN
          rw [eb]
          rfl
        rw [h8, mBst]
        cases hx : nx (μ 148) k with
        | none =>
          dsimp only
          rw [eB]
          exact l_X10_bw0
        | some f' =>
          dsimp only
          rw [eB]
          exact ih _ _ _ _ _ _ (hG.try hw).mr8 (by rw [mr_same]; exact hr.nxt hx) (by rw [mr_same]; have := hr.inc hG.2.1 hx; show 7 ^ k ≤ vl f' k + r; omega)
      · refine AW.aload_n (n := 139) dX10_bestWay_138 rfl rfl ?_
        refine AW.gi (n := 142) dX10_bestWay_139 fl_X10_176 s_136 rfl rfl ?_
        refine AW.iload (n := 144) dX10_bestWay_142 rfl rfl ?_
        refine AW.icmp_ne (n := 147) (t := 168) dX10_bestWay_144 rfl rfl (fun h144 => ?_) (fun h144 => ?_)
        · refine AW.aload_n (n := 169) dX10_bestWay_168 rfl rfl ?_
          refine AW.iload (n := 171) dX10_bestWay_169 rfl rfl ?_
          refine AW.ev1i (Mc := mX10_nextRow) (n := 174) dX10_bestWay_171 lk_X10_244 k_mX10_nextRow s_136 rfl rfl (c_X10_nextRow hk hk0) (Nat.le_of_ble_eq_true rfl) (by decide) (Nat.zero_le _) (Nat.zero_le _) rfl ?_
          refine AW.ist8 (n := 176) dX10_bestWay_174 (Nat.le_of_ble_eq_true rfl) rfl rfl ?_
          refine AW.goto (t := 107) dX10_bestWay_176 rfl ?_
          have eB : mBsN h k (bw, bh, bb) μ = (bw, bh, bb) := by
            have eb : mBet bh bb ((mTry μ (mWOf (μ 148) k) h).2 136 20) (mTry μ (mWOf (μ 148) k) h).1 = false := by simp [mBet, h135, h144]
            unfold mBsN
            rw [eb]
            rfl
          rw [h8, mBst]
          cases hx : nx (μ 148) k with
          | none =>
            dsimp only
            rw [eB]
            exact l_X10_bw0
          | some f' =>
            dsimp only
            rw [eB]
            exact ih _ _ _ _ _ _ (hG.try hw).mr8 (by rw [mr_same]; exact hr.nxt hx) (by rw [mr_same]; have := hr.inc hG.2.1 hx; show 7 ^ k ≤ vl f' k + r; omega)
        · refine AW.iload (n := 149) dX10_bestWay_147 rfl rfl ?_
          refine AW.iload (n := 151) dX10_bestWay_149 rfl rfl ?_
          refine AW.icmp_ge (n := 154) (t := 168) dX10_bestWay_151 rfl rfl (fun h151 => ?_) (fun h151 => ?_)
          · refine AW.aload_n (n := 169) dX10_bestWay_168 rfl rfl ?_
            refine AW.iload (n := 171) dX10_bestWay_169 rfl rfl ?_
            refine AW.ev1i (Mc := mX10_nextRow) (n := 174) dX10_bestWay_171 lk_X10_244 k_mX10_nextRow s_136 rfl rfl (c_X10_nextRow hk hk0) (Nat.le_of_ble_eq_true rfl) (by decide) (Nat.zero_le _) (Nat.zero_le _) rfl ?_
            refine AW.ist8 (n := 176) dX10_bestWay_174 (Nat.le_of_ble_eq_true rfl) rfl rfl ?_
            refine AW.goto (t := 107) dX10_bestWay_176 rfl ?_
            have q151 : bb ≤ (mTry μ (mWOf (μ 148) k) h).1 := h151
            have eB : mBsN h k (bw, bh, bb) μ = (bw, bh, bb) := by
              have eb : mBet bh bb ((mTry μ (mWOf (μ 148) k) h).2 136 20) (mTry μ (mWOf (μ 148) k) h).1 = false := by simp [mBet, h135, h144, q151]
              unfold mBsN
              rw [eb]
              rfl
            rw [h8, mBst]
            cases hx : nx (μ 148) k with
            | none =>
              dsimp only
              rw [eB]
              exact l_X10_bw0
            | some f' =>
              dsimp only
              rw [eB]
              exact ih _ _ _ _ _ _ (hG.try hw).mr8 (by rw [mr_same]; exact hr.nxt hx) (by rw [mr_same]; have := hr.inc hG.2.1 hx; show 7 ^ k ≤ vl f' k + r; omega)
          · refine AW.iload (n := 156) dX10_bestWay_154 rfl rfl ?_
            refine AW.ist5 (n := 158) dX10_bestWay_156 (Nat.le_of_ble_eq_true rfl) rfl rfl ?_
            refine AW.aload_n (n := 159) dX10_bestWay_158 rfl rfl ?_
            refine AW.gi (n := 162) dX10_bestWay_159 fl_X10_176 s_136 rfl rfl ?_
            refine AW.ist6 (n := 164) dX10_bestWay_162 (Nat.le_of_ble_eq_true rfl) rfl rfl ?_
            refine AW.iload (n := 166) dX10_bestWay_164 rfl rfl ?_
            refine AW.ist7 (n := 168) dX10_bestWay_166 (Nat.le_of_ble_eq_true rfl) rfl rfl ?_
            refine AW.aload_n (n := 169) dX10_bestWay_168 rfl rfl ?_
            refine AW.iload (n := 171) dX10_bestWay_169 rfl rfl ?_
            refine AW.ev1i (Mc := mX10_nextRow) (n := 174) dX10_bestWay_171 lk_X10_244 k_mX10_nextRow s_136 rfl rfl (c_X10_nextRow hk hk0) (Nat.le_of_ble_eq_true rfl) (by decide) (Nat.zero_le _) (Nat.zero_le _) rfl ?_
            refine AW.ist8 (n := 176) dX10_bestWay_174 (Nat.le_of_ble_eq_true rfl) rfl rfl ?_
            refine AW.goto (t := 107) dX10_bestWay_176 rfl ?_
            have q151 : ¬ bb ≤ (mTry μ (mWOf (μ 148) k) h).1 := h151
            have eB : mBsN h k (bw, bh, bb) μ = (mWOf (μ 148) k, (mTry μ (mWOf (μ 148) k) h).2 136 20, (mTry μ (mWOf (μ 148) k) h).1) := by
              have eb : mBet bh bb ((mTry μ (mWOf (μ 148) k) h).2 136 20) (mTry μ (mWOf (μ 148) k) h).1 = true := by simp [mBet, h135, h144, q151]
              unfold mBsN
              rw [eb]
              rfl
            rw [h8, mBst]
            cases hx : nx (μ 148) k with
            | none =>
              dsimp only
              rw [eB]
              exact l_X10_bw0
            | some f' =>
              dsimp only
              rw [eB]
              exact ih _ _ _ _ _ _ (hG.try hw).mr8 (by rw [mr_same]; exact hr.nxt hx) (by rw [mr_same]; have := hr.inc hG.2.1 hx; show 7 ^ k ≤ vl f' k + r; omega)
set_option maxHeartbeats 4000000 in
set_option maxRecDepth 100000 in
theorem l_X10_bw33 {μ : Me} {e : Nat × (Nat → aC)} {n : Nat} {h w mask : Int32} {Q : Option Value → aS → Prop} (hn : μ 136 8 = nI n) (h7 : n ≤ 7) (hk : ∀ x : Int32, AW none 5 0 0 mX10_bestWay 0 0 87 [some (.ref 136), some (.int h), some (.int w), some (.int mask), some (.int (nI (mCol mask (μ 148) n).1)), some (.int x), none, none, none, none, none] [] (wS (mr μ 148 (mCol mask (μ 148) n).2) e) Q) : ∀ (m : Nat) (i : Nat), n - i < m → i ≤ n → AW none 5 0 0 mX10_bestWay 0 0 33 [some (.ref 136), some (.int h), some (.int w), some (.int mask), some (.int (nI (mCol mask (μ 148) i).1)), some (.int (nI i)), none, none, none, none, none] [] (wS (mr μ 148 (mCol mask (μ 148) i).2) e) Q := by
  intro m
  induction m with
  | zero => intro i hm; exact absurd hm (Nat.not_lt_zero _)
  | succ m ih =>
    intro i hm hc
    have hc9 := col_le (mask := mask) (f := μ 148) i
    refine AW.iload (n := 35) dX10_bestWay_33 rfl rfl ?_
    refine AW.aload_n (n := 36) dX10_bestWay_35 rfl rfl ?_
    refine AW.gi (n := 39) dX10_bestWay_36 fl_X10_131 s_136 rfl rfl ?_
    refine AW.icmp_ge (n := 42) (t := 87) dX10_bestWay_39 rfl rfl (fun h39 => ?_) (fun h39 => ?_)
    · have hii : i = n := by have := le_lit (b := n) (x := nI i) rfl (by omega) (by omega) (by rw [← hn]; exact h39); omega
      subst hii
      exact hk _
    · have hii : i < n := nle_lit (b := n) (x := nI i) rfl (by omega) (by omega) (by rw [← hn]; exact h39)
      refine AW.aload_n (n := 43) dX10_bestWay_42 rfl rfl ?_
      refine AW.gr (n := 46) dX10_bestWay_43 fl_X10_48 s_136 rfl rfl ?_
      refine AW.iload (n := 48) dX10_bestWay_46 rfl rfl ?_
      refine AW.iload_n (n := 49) dX10_bestWay_48 rfl rfl ?_
      refine AW.iload (n := 51) dX10_bestWay_49 rfl rfl ?_
      refine AW.es2i (Mc := mX10_has) (n := 54) dX10_bestWay_51 lk_X10_154 k_mX10_has (c_X10_has) (Nat.le_of_ble_eq_true rfl) (by decide) (Nat.zero_le _) (Nat.zero_le _) rfl ?_
      refine AW.bif_eq (n := 57) (t := 62) dX10_bestWay_54 rfl rfl (fun h54 => ?_) (fun h54 => ?_)
      · refine AW.aload_n (n := 63) dX10_bestWay_62 rfl rfl ?_
        refine AW.gr (n := 66) dX10_bestWay_63 fl_X10_48 s_136 rfl rfl ?_
        refine AW.iload (n := 68) dX10_bestWay_66 rfl rfl ?_
        refine AW.ia (n := 69) (mCol mask (μ 148) i).1 dX10_bestWay_68 s_148 rfl (by omega) (by decide) rfl ?_
        refine AW.is (n := 70) (mCol mask (μ 148) i).1 dX10_bestWay_69 s_148 rfl (by omega) (by decide) rfl ?_
        refine AW.iload (n := 72) dX10_bestWay_70 rfl rfl ?_
        refine AW.iload_n (n := 73) dX10_bestWay_72 rfl rfl ?_
        refine AW.iload (n := 75) dX10_bestWay_73 rfl rfl ?_
        refine AW.ishr (n := 76) dX10_bestWay_75 rfl ?_
        refine AW.iconst (n := 77) (v := 1) dX10_bestWay_76 rfl rfl ?_
        refine AW.iand (n := 78) dX10_bestWay_77 rfl ?_
        refine AW.iadd (n := 79) dX10_bestWay_78 rfl ?_
        rw [bit_and]
        refine AW.ist4 (n := 81) dX10_bestWay_79 (Nat.le_of_ble_eq_true rfl) rfl rfl ?_
        refine AW.inc5 (n := 84) (1) dX10_bestWay_81 rfl (Nat.le_of_ble_eq_true rfl) rfl rfl ?_
        refine AW.goto (t := 33) dX10_bestWay_84 rfl ?_
        rw [nI_1, h54, show b2i false = nI 0 from rfl, nI_add, mu_self' rfl]
        have e9 : mCol mask (μ 148) (i + 1) = mCol mask (μ 148) i := by rw [mCol, if_neg (by rw [h54]; decide)]
        have h9 := ih (i + 1) (by omega) (by omega)
        rw [e9] at h9
        exact h9
      · refine AW.iload (n := 59) dX10_bestWay_57 rfl rfl ?_
        refine AW.goto (t := 69) dX10_bestWay_59 rfl ?_
        refine AW.is (n := 70) (mCol mask (μ 148) i).1 dX10_bestWay_69 s_148 rfl (by omega) (by decide) rfl ?_
        refine AW.iload (n := 72) dX10_bestWay_70 rfl rfl ?_
        refine AW.iload_n (n := 73) dX10_bestWay_72 rfl rfl ?_
        refine AW.iload (n := 75) dX10_bestWay_73 rfl rfl ?_
        refine AW.ishr (n := 76) dX10_bestWay_75 rfl ?_
        refine AW.iconst (n := 77) (v := 1) dX10_bestWay_76 rfl rfl ?_
        refine AW.iand (n := 78) dX10_bestWay_77 rfl ?_
        refine AW.iadd (n := 79) dX10_bestWay_78 rfl ?_
        rw [bit_and]
        refine AW.ist4 (n := 81) dX10_bestWay_79 (Nat.le_of_ble_eq_true rfl) rfl rfl ?_
        refine AW.inc5 (n := 84) (1) dX10_bestWay_81 rfl (Nat.le_of_ble_eq_true rfl) rfl rfl ?_
        refine AW.goto (t := 33) dX10_bestWay_84 rfl ?_
        rw [nI_1, h54, show b2i true = nI 1 from rfl, nI_add]
        have e9 : mCol mask (μ 148) (i + 1) = ((mCol mask (μ 148) i).1 + 1, upd (mCol mask (μ 148) i).2 (mCol mask (μ 148) i).1 (nI i)) := by rw [mCol, if_pos h54]
        have h9 := ih (i + 1) (by omega) (by omega)
        rw [e9] at h9
        unfold mu
        rw [mr_mr, mr_same]
        exact h9
set_option maxHeartbeats 4000000 in
set_option maxRecDepth 100000 in
theorem c_X10_bestWay {μ : Me} {e : Nat × (Nat → aC)} {n d : Nat} {h w : Int32} (hG : mG μ n d) : AC 5 0 0 mX10_bestWay [.ref 136, .int h, .int w] (wS μ e) (a_eq (some (.int ((qBest μ n h w).1))) (wS ((qBest μ n h w).2) e)) := by
  refine AC.of (L := [some (.ref 136), some (.int h), some (.int w), none, none, none, none, none, none, none, none]) (j := 8) (by decide) rfl (Nat.le_of_ble_eq_true rfl) ?_
  refine AW.iload_n (n := 1) dX10_bestWay_0 rfl rfl ?_
  refine AW.es1i (Mc := mX10_isHaste) (n := 4) dX10_bestWay_1 lk_X10_203 k_mX10_isHaste (c_X10_isHaste) (Nat.le_of_ble_eq_true rfl) (by decide) (Nat.zero_le _) (Nat.zero_le _) rfl ?_
  refine AW.bif_eq (n := 7) (t := 19) dX10_bestWay_4 rfl rfl (fun h4 => ?_) (fun h4 => ?_)
  · refine AW.ldc (n := 21) dX10_bestWay_19 kc_X10_72 rfl ?_
    refine AW.iret dX10_bestWay_21 rfl rfl (Nat.zero_le _) (Nat.zero_le _) ?_
    exact ⟨by simp [qBest, h4], by simp [qBest, h4]⟩
  · refine AW.iload_n (n := 8) dX10_bestWay_7 rfl rfl ?_
    refine AW.i2l (n := 9) dX10_bestWay_8 rfl ?_
    refine AW.lconst (n := 10) (v := 0) dX10_bestWay_9 rfl rfl ?_
    refine AW.ldc2 (n := 13) dX10_bestWay_10 kl_X10_235 rfl ?_
    refine AW.es3i (Mc := mX10_in) (n := 16) dX10_bestWay_13 lk_X10_68 k_mX10_in (c_X10_in w 0 2 rfl (by decide) (by decide)) (Nat.le_of_ble_eq_true rfl) (by decide) (Nat.zero_le _) (Nat.zero_le _) rfl ?_
    refine AW.bif_ne (n := 19) (t := 22) dX10_bestWay_16 rfl rfl (fun h16 => ?_) (fun h16 => ?_)
    · refine AW.aload_n (n := 23) dX10_bestWay_22 rfl rfl ?_
      refine AW.ev0i (Mc := mX10_counting) (n := 26) dX10_bestWay_23 lk_X10_237 k_mX10_counting s_136 rfl rfl (c_X10_counting hG.1 hG.2.1) (Nat.le_of_ble_eq_true rfl) (by decide) (Nat.zero_le _) (Nat.zero_le _) rfl ?_
      refine AW.ist3 (n := 27) dX10_bestWay_26 (Nat.le_of_ble_eq_true rfl) rfl rfl ?_
      refine AW.iconst (n := 28) (v := 0) dX10_bestWay_27 rfl rfl ?_
      refine AW.ist4 (n := 30) dX10_bestWay_28 (Nat.le_of_ble_eq_true rfl) rfl rfl ?_
      refine AW.iconst (n := 31) (v := 0) dX10_bestWay_30 rfl rfl ?_
      refine AW.ist5 (n := 33) dX10_bestWay_31 (Nat.le_of_ble_eq_true rfl) rfl rfl ?_
      have e0 : wS μ e = wS (mr μ 148 (mCol (mCnt (μ 137) n) (μ 148) 0).2) e := by rw [mCol, mr_self]
      refine AW.eqS e0 ?_
      refine l_X10_bw33 hG.1 hG.2.1 (fun x => ?_) (n + 1) 0 (by omega) (by omega)
      have hc9 := col_le (mask := mCnt (μ 137) n) (f := μ 148) n
      have h7 := hG.2.1
      refine AW.iload (n := 89) dX10_bestWay_87 rfl rfl ?_
      refine AW.if_ne (n := 92) (t := 94) dX10_bestWay_89 rfl rfl (fun h89 => ?_) (fun h89 => ?_)
      · refine AW.iconst (n := 95) (v := -1) dX10_bestWay_94 rfl rfl ?_
        refine AW.ist5 (n := 97) dX10_bestWay_95 (Nat.le_of_ble_eq_true rfl) rfl rfl ?_
        refine AW.iconst (n := 98) (v := -1) dX10_bestWay_97 rfl rfl ?_
        refine AW.ist6 (n := 100) dX10_bestWay_98 (Nat.le_of_ble_eq_true rfl) rfl rfl ?_
        refine AW.ldc (n := 102) dX10_bestWay_100 kc_X10_240 rfl ?_
        refine AW.ist7 (n := 104) dX10_bestWay_102 (Nat.le_of_ble_eq_true rfl) rfl rfl ?_
        refine AW.iconst (n := 105) (v := 1) dX10_bestWay_104 rfl rfl ?_
        refine AW.ist8 (n := 107) dX10_bestWay_105 (Nat.le_of_ble_eq_true rfl) rfl rfl ?_
        have hz : ¬ (mCol (mCnt (μ 137) n) (μ 148) n).1 = 0 := fun q => h89 (by rw [q]; rfl)
        rw [qBest, if_pos h4, if_pos h16, if_neg hz]
        have s7 := seven7 (k := (mCol (mCnt (μ 137) n) (μ 148) n).1) (by omega)
        have hro := col_ok (mask := mCnt (μ 137) n) (f := μ 148) n h7
        exact l_X10_bw107 (by omega) (by omega) h4 823543 _ _ _ _ _ _ hG.mr8 (by rw [mr_same]; exact hro) (by omega)
      · refine AW.iconst (n := 93) (v := -1) dX10_bestWay_92 rfl rfl ?_
        refine AW.iret dX10_bestWay_93 rfl rfl (Nat.zero_le _) (Nat.zero_le _) ?_
        have hz : (mCol (mCnt (μ 137) n) (μ 148) n).1 = 0 := by
          rcases Nat.eq_zero_or_pos (mCol (mCnt (μ 137) n) (μ 148) n).1 with q | q
          · exact q
          · exact absurd h89 (nI_ne0 q (by omega))
        rw [qBest, if_pos h4, if_pos h16, if_pos hz]
        exact ⟨rfl, rfl⟩
    · refine AW.ldc (n := 21) dX10_bestWay_19 kc_X10_72 rfl ?_
      refine AW.iret dX10_bestWay_21 rfl rfl (Nat.zero_le _) (Nat.zero_le _) ?_
      exact ⟨by simp [qBest, h4, h16], by simp [qBest, h4, h16]⟩
