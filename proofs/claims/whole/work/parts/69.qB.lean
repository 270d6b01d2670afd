def bt (x : Int32) (i : Nat) : Bool := x.toBitVec.getLsbD i
theorem b_ext {x y : Int32} (h : ∀ i, i < 32 → bt x i = bt y i) : x = y := Int32.toBitVec_inj.mp (BitVec.eq_of_getLsbD_eq (fun i hi => h i hi))
theorem b_or (x y : Int32) (i : Nat) : bt (x ||| y) i = (bt x i || bt y i) := by unfold bt; rw [Int32.toBitVec_or, BitVec.getLsbD_or]
theorem b_and (x y : Int32) (i : Nat) : bt (x &&& y) i = (bt x i && bt y i) := by unfold bt; rw [Int32.toBitVec_and, BitVec.getLsbD_and]
theorem b_xor (x y : Int32) (i : Nat) : bt (x ^^^ y) i = (bt x i ^^ bt y i) := by unfold bt; rw [Int32.toBitVec_xor, BitVec.getLsbD_xor]
theorem b_big {x : Int32} {i : Nat} (h : 32 ≤ i) : bt x i = false := BitVec.getLsbD_of_ge _ _ h
theorem b_m1 : ∀ i, i < 32 → bt (-1) i = true := by decide +kernel
theorem s_l : ∀ n, n < 32 → ((nI n &&& 31).toBitVec.smod 32).toNat = n := by decide +kernel
theorem b_shl (n : Nat) (hn : n < 32) (x : Int32) {i : Nat} (hi : i < 32) : bt (x <<< (nI n &&& 31)) i = (decide (n ≤ i) && bt x (i - n)) := by
  unfold bt
  rw [Int32.toBitVec_shiftLeft]
  show (x.toBitVec <<< ((nI n &&& 31).toBitVec.smod 32).toNat).getLsbD i = _
  rw [s_l n hn, BitVec.getLsbD_shiftLeft]
  rcases Nat.lt_or_ge i n with h | h
  · simp [h, Nat.not_le.mpr h]
  · simp [hi, h, Nat.not_lt.mpr h]
theorem b_sshr (n : Nat) (hn : n < 32) (x : Int32) {i : Nat} (hi : i < 32) : bt (x >>> (nI n &&& 31)) i = if n + i < 32 then bt x (n + i) else bt x 31 := by
  unfold bt
  rw [Int32.toBitVec_shiftRight]
  show (x.toBitVec.sshiftRight ((nI n &&& 31).toBitVec.smod 32).toNat).getLsbD i = _
  rw [s_l n hn, BitVec.getLsbD_sshiftRight, BitVec.msb_eq_getLsbD_last]
  simp [hi]
theorem b_1 : ∀ i, i < 32 → bt 1 i = decide (i = 0) := by decide +kernel
theorem bit_bt {x : Int32} {i : Nat} (hi : i < 32) : sBit x (nI i) = bt x i := by
  have e : bt ((x >>> (nI i &&& 31)) &&& 1) 0 = bt x i := by rw [b_and, b_sshr i hi x (by omega), if_pos (by omega), Nat.add_zero, show bt 1 0 = true by decide +kernel, Bool.and_true]
  unfold sBit
  rcases and1 (x >>> (nI i &&& 31)) with q | q
  · rw [q] at e ⊢; rw [← e]; decide +kernel
  · rw [q] at e ⊢; rw [← e]; decide +kernel
theorem bit_rest {op used : Int32} {s s' : Nat} (hs : s < 7) (hs' : s' < 7) : sBit (op &&& ((used ||| ((1 : Int32) <<< (nI s &&& 31))) ^^^ (-1))) (nI s') = (sBit (op &&& (used ^^^ (-1))) (nI s') && !decide (s' = s)) := by
  have e : (decide (s ≤ s') && decide (s' - s = 0)) = decide (s' = s) := Bool.eq_iff_iff.mpr (by simp only [Bool.and_eq_true, decide_eq_true_iff]; omega)
  rw [bit_bt (by omega), bit_bt (by omega), b_and, b_and, b_xor, b_xor, b_or, b_shl s (by omega) _ (by omega), b_m1 s' (by omega), b_1 (s' - s) (by omega), e]
  cases bt op s' <;> cases bt used s' <;> cases decide (s' = s) <;> rfl
theorem open_eq {f : Nat → Int32} : ∀ n, sWhich f 1 n ||| sWhich f 4 n = mCnt f n := by
  intro n
  induction n with
  | zero => show (0 : Int32) ||| 0 = 0; decide
  | succ n ih =>
    rw [sWhich, sWhich, mCnt, ← ih]
    by_cases c1 : f n = 1
    · have c4 : ¬ f n = 4 := by rw [c1]; decide
      have cc : sCounts (f n) = true := by unfold sCounts; rw [c1]; decide
      rw [if_pos c1, if_neg c4, if_pos cc, Int32.or_assoc, Int32.or_assoc, Int32.or_comm ((1 : Int32) <<< (nI n &&& 31))]
    · by_cases c4 : f n = 4
      · have cc : sCounts (f n) = true := by unfold sCounts; rw [c4]; decide
        rw [if_neg c1, if_pos c4, if_pos cc, Int32.or_assoc]
      · have cc : ¬ sCounts (f n) = true := by unfold sCounts; rw [decide_eq_false c1, decide_eq_false c4]; decide
        rw [if_neg c1, if_neg c4, if_neg cc]
def cN (x : Int32) : Nat → Nat
  | 0 => 0
  | i + 1 => if sBit x (nI i) then cN x i + 1 else cN x i
theorem col_n {mask : Int32} {f : Nat → Int32} : ∀ i, (mCol mask f i).1 = cN mask i := by
  intro i
  induction i with
  | zero => rfl
  | succ i ih =>
    rw [mCol, cN]
    by_cases c : sBit mask (nI i) = true
    · rw [if_pos c, if_pos c, ← ih]
    · rw [if_neg c, if_neg c, ih]
theorem or7 : ∀ i, i < 7 → ∀ m, m < 64 → m < 2 ^ i → nI m ||| ((1 : Int32) <<< (nI i &&& 31)) = nI (m + 2 ^ i) := by decide +kernel
theorem cnt_n {f : Nat → Int32} : ∀ n, n ≤ 7 → ∃ m : Nat, m < 2 ^ n ∧ mCnt f n = nI m := by
  intro n
  induction n with
  | zero => intro _; exact ⟨0, by decide, rfl⟩
  | succ n ih =>
    intro h7
    obtain ⟨m, hm, em⟩ := ih (by omega)
    have h2 : 2 ^ n ≤ 64 := Nat.pow_le_pow_right (n := 2) (by omega) (show n ≤ 6 by omega)
    rw [mCnt, Nat.pow_succ]
    split
    · refine ⟨m + 2 ^ n, by omega, ?_⟩
      rw [em]; exact or7 n (by omega) m (by omega) hm
    · exact ⟨m, by omega, em⟩
theorem bc_n : ∀ m, m < 128 → ∀ n, n < 8 → m < 2 ^ n → sBC (nI m) = nI (cN (nI m) n) := by decide +kernel
theorem col_asc {mask : Int32} {f : Nat → Int32} : ∀ i, i ≤ 7 → (∀ a b, a < b → b < (mCol mask f i).1 → (mCol mask f i).2 a < (mCol mask f i).2 b) ∧ (∀ q, q < i → (sBit mask (nI q) = true ↔ ∃ t, t < (mCol mask f i).1 ∧ (mCol mask f i).2 t = nI q)) := by
  intro i
  induction i with
  | zero => intro _; exact ⟨fun a b _ q => absurd q (Nat.not_lt_zero _), fun q h => absurd h (Nat.not_lt_zero _)⟩
  | succ i ih =>
    intro h7
    obtain ⟨h1, h2⟩ := ih (by omega)
    have ho := col_ok (mask := mask) (f := f) i (by omega)
    rw [mCol]
    by_cases c : sBit mask (nI i) = true
    · rw [if_pos c]
      dsimp only
      generalize mCol mask f i = R at h1 h2 ho ⊢
      have ue : upd R.2 R.1 (nI i) R.1 = nI i := if_pos rfl
      have un : ∀ t, t ≠ R.1 → upd R.2 R.1 (nI i) t = R.2 t := fun t q => if_neg q
      refine ⟨fun a b hab hb => ?_, fun q hq => ?_⟩
      · rw [un a (by omega)]
        by_cases e : b = R.1
        · rw [e, ue]
          obtain ⟨x, hx, ex⟩ := ho.1 a (by omega)
          rw [ex]; exact nI_lt hx (by omega)
        · rw [un b e]; exact h1 a b hab (by omega)
      · by_cases e : q = i
        · subst e; exact ⟨fun _ => ⟨R.1, by omega, ue⟩, fun _ => c⟩
        · rw [h2 q (by omega)]
          refine ⟨fun ⟨t, ht, et⟩ => ⟨t, by omega, by rw [un t (by omega)]; exact et⟩, fun ⟨t, ht, et⟩ => ?_⟩
          by_cases et' : t = R.1
          · rw [et', ue] at et
            exact absurd ((nI_eq (by omega) (by omega)).mp et).symm e
          · rw [un t et'] at et; exact ⟨t, by omega, et⟩
    · rw [if_neg c]
      refine ⟨h1, fun q hq => ?_⟩
      by_cases e : q = i
      · subst e
        refine ⟨fun w => absurd w c, fun ⟨t, ht, et⟩ => ?_⟩
        obtain ⟨x, hx, ex⟩ := ho.1 t ht
        rw [ex] at et
        exact absurd ((nI_eq (by omega) (by omega)).mp et) (by omega)
      · exact h2 q (by omega)
