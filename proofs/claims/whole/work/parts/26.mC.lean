def mInc (ν : Me) : Me := mu ν 136 15 (ν 136 15 + 1)
def mDinM (ν : Me) (dn : Nat) : Me := mu (mInTo ν 145 (12 + dn) 0 9) 136 12 (nI (dn + 1))
def mDinL : Nat → Nat → Me → Me
  | 0, _, ν => ν
  | m + 1, dn, ν =>
    if mOkB (mDinM ν dn) then
      (if (mHere (mDinM ν dn)).1 = 44 then
        (if mOkB (mWant (mHere (mDinM ν dn)).2 (decide (dn + 1 < 12)) 1 ((mHere (mDinM ν dn)).2 136 15)) then
          mDinL m (dn + 1) (mInc (mWant (mHere (mDinM ν dn)).2 (decide (dn + 1 < 12)) 1 ((mHere (mDinM ν dn)).2 136 15)))
        else mWant (mHere (mDinM ν dn)).2 (decide (dn + 1 < 12)) 1 ((mHere (mDinM ν dn)).2 136 15))
      else (mHere (mDinM ν dn)).2)
    else mDinM ν dn
def mDins (ν : Me) (w : Int32) : Me := if mOkB (mWant ν (decide (ν 136 12 = 0)) 3 w) then mDinL 12 0 (mWant ν (decide (ν 136 12 = 0)) 3 w) else mWant ν (decide (ν 136 12 = 0)) 3 w
theorem uOk.dinM {B dn : Nat} {ν : Me} (h : uOk B ν) (hB : 240 ≤ B) (hB9 : B ≤ 80000) : uOk B (mDinM ν dn) := (h.inTo hB (by omega) (by decide)).mset (fun _ => ⟨by decide, by decide⟩)
def fOk (ν : Me) : Prop := ∃ k : Nat, k ≤ 4 ∧ ν 136 17 = nI k
theorem fOk.of {ν ν' : Me} (h : fOk ν) (e : ν' 136 17 = ν 136 17) : fOk ν' := by
  obtain ⟨k, h1, h2⟩ := h
  exact ⟨k, h1, by rw [e]; exact h2⟩
theorem fOk.want {ν : Me} {g : Bool} {w : Int32} (kk : Nat) (hk : kk ≤ 4) (h : fOk ν) : fOk (mWant ν g (nI kk) w) := by
  unfold mWant mFail; split
  · exact h
  · split
    · exact ⟨kk, hk, by rw [mu_nj (by decide), mu_same]⟩
    · exact h
theorem fOk.num {ν : Me} (h : fOk ν) : fOk (mNum ν).2 := by
  unfold mNum; split
  · have h1 : fOk (mNumA ν) := h.of (by unfold mNumA; rw [mu_nj (by decide), mHere_j (by decide)])
    have h2 := h1.want (g := sIsFig (mHere ν).1) (w := mNumA ν 136 15) 1 (by decide)
    unfold mNumB; split
    · exact fOk.want 2 (by decide) (h2.of (mu_nj (by decide)))
    · exact h2
  · exact h
theorem fOk.inn {ν : Me} {lo hi : Int32} (h : fOk ν) : fOk (mIn ν lo hi).2 := fOk.want 2 (by decide) h.num
theorem fOk.z {ν : Me} (h : fOk ν) : ν 136 17 ≤ 0 ↔ ν 136 17 = 0 := by
  obtain ⟨k, h1, h2⟩ := h
  rw [h2]
  constructor
  · intro q
    have := (nI_leI (a := k) (b := 0) (by omega) (by omega)).mp q
    have e : k = 0 := by omega
    subst e; rfl
  · intro q; rw [q]; decide
theorem mIn_ok {ν : Me} {lo hi : Int32} (h : fOk ν) (hz : (mIn ν lo hi).2 136 17 ≤ 0) : sWithin (mIn ν lo hi).1 lo hi = true := by
  have h2 := h.num
  have h3 : (mIn ν lo hi).1 = (mNum ν).1 := if_pos hz
  rw [h3]
  have hz2 : mOkB (mIn ν lo hi).2 = true := decide_eq_true ((fOk.z h.inn).mp hz)
  have hg := (mWant_ok (by decide) hz2).1
  have hz3 : (mNum ν).2 136 17 ≤ 0 := by
    have e := (mWant_ok (by decide) hz2).2
    have : (mIn ν lo hi).2 = (mNum ν).2 := e
    rw [← this]; exact hz
  rw [if_pos hz3] at hg
  exact hg
def mNeiC (ν : Me) (s t : Int32) : Me := mu (mInTo ν 144 (7 + s.toNatClampNeg) 1 9) 143 (7 + s.toNatClampNeg) t
def mNeiB (ν : Me) (s : Int32) : Me :=
  let r := mIn ν 0 (ν 136 9 - 1)
  if r.2 136 17 ≤ 0 then (if mOkB (mWant r.2 (!decide (r.1 = s)) 4 (r.2 136 16)) then mNeiC (mWant r.2 (!decide (r.1 = s)) 4 (r.2 136 16)) s r.1 else mWant r.2 (!decide (r.1 = s)) 4 (r.2 136 16)) else r.2
def mNei (ν : Me) : Me :=
  let r := mIn ν 0 (ν 136 9 - 1)
  if r.2 136 17 ≤ 0 then (if mOkB (mWant r.2 (decide (r.2 143 (7 + r.1.toNatClampNeg) = -1)) 4 (r.2 136 16)) then mNeiB (mWant r.2 (decide (r.2 143 (7 + r.1.toNatClampNeg) = -1)) 4 (r.2 136 16)) r.1 else mWant r.2 (decide (r.2 143 (7 + r.1.toNatClampNeg) = -1)) 4 (r.2 136 16)) else r.2
set_option maxHeartbeats 4000000 in
set_option maxRecDepth 100000 in
theorem l_X10_dins {e : Nat × (Nat → aC)} {w : Int32} : ∀ (m dn B : Nat) (μ : Me), 12 = dn + m → 0 < m → uOk B μ → 240 ≤ B → B + m ≤ 80000 → μ 136 12 = nI dn → AW none 3 0 0 mX10_takeDins 0 0 19 [some (.ref 136), some (.int w), some (.int 1)] [] (wS μ e) (a_eq none (wS (mDinL m dn μ) e)) := by
  intro m
  induction m with
  | zero => intro dn B μ _ hp; exact absurd hp (Nat.lt_irrefl _)
  | succ m ih =>
    intro dn B μ hm _ ho hB hB9 hdn
    have ho2 : uOk B (mDinM μ dn) := ho.dinM hB (by omega)
    have hd2 : (mDinM μ dn) 136 12 = nI (dn + 1) := mu_same _ _ _ _
    have e9 : (mInTo μ 145 (12 + dn) 0 9) 136 12 = nI dn := by rw [mInTo_j (by decide) (by decide) (by decide) (by decide) (by decide)]; exact hdn
    refine AW.iload_n (n := 20) dX10_takeDins_19 rfl rfl ?_
    refine AW.if_eq (n := 23) (t := 134) dX10_takeDins_20 rfl rfl (fun h20 => ?_) (fun h20 => ?_)
    · exact absurd h20 (by decide)
    · refine AW.aload_n (n := 24) dX10_takeDins_23 rfl rfl ?_
      refine AW.gr (n := 27) dX10_takeDins_24 fl_X10_35 s_136 rfl rfl ?_
      refine AW.bipush (n := 29) (v := 12) dX10_takeDins_27 rfl rfl ?_
      refine AW.aload_n (n := 30) dX10_takeDins_29 rfl rfl ?_
      refine AW.gi (n := 33) dX10_takeDins_30 fl_X10_109 s_136 rfl rfl ?_
      refine AW.iadd (n := 34) dX10_takeDins_33 rfl ?_
      rw [hdn, show (12 : Int32) + nI dn = nI (12 + dn) from nI_add 12 dn]
      refine AW.aload_n (n := 35) dX10_takeDins_34 rfl rfl ?_
      refine AW.iconst (n := 36) (v := 0) dX10_takeDins_35 rfl rfl ?_
      refine AW.bipush (n := 38) (v := 9) dX10_takeDins_36 rfl rfl ?_
      refine AW.ev2i (Mc := mX10_takeIn) (n := 41) dX10_takeDins_38 lk_X10_102 k_mX10_takeIn s_136 rfl rfl (c_X10_takeIn ho hB (by omega)) (Nat.le_of_ble_eq_true rfl) (by decide) (Nat.zero_le _) (Nat.zero_le _) rfl ?_
      refine AW.is (n := 42) (12 + dn) dX10_takeDins_41 s_145 rfl (by omega) (by decide) rfl ?_
      refine AW.aload_n (n := 43) dX10_takeDins_42 rfl rfl ?_
      refine AW.dup (n := 44) dX10_takeDins_43 rfl rfl ?_
      refine AW.gi (n := 47) dX10_takeDins_44 fl_X10_109 s_136 rfl rfl ?_
      refine AW.iconst (n := 48) (v := 1) dX10_takeDins_47 rfl rfl ?_
      refine AW.iadd (n := 49) dX10_takeDins_48 rfl ?_
      rw [show (mu (mIn μ 0 9).2 145 (12 + dn) (mIn μ 0 9).1) 136 12 = nI dn from e9, nI_1]
      refine AW.pi (n := 52) dX10_takeDins_49 fp_X10_109 s_136 rfl ⟨rfl, rfl⟩ rfl ?_
      change AW _ _ _ _ _ _ _ _ _ _ (wS (mDinM μ dn) e) _
      refine AW.aload_n (n := 53) dX10_takeDins_52 rfl rfl ?_
      refine AW.gi (n := 56) dX10_takeDins_53 fl_X10_80 s_136 rfl rfl ?_
      refine AW.if_ne (n := 59) (t := 72) dX10_takeDins_56 rfl rfl (fun h56 => ?_) (fun h56 => ?_)
      · refine AW.iconst (n := 73) (v := 0) dX10_takeDins_72 rfl rfl ?_
        refine AW.ist2 (n := 74) dX10_takeDins_73 (Nat.le_of_ble_eq_true rfl) rfl rfl ?_
        refine AW.iload_n (n := 75) dX10_takeDins_74 rfl rfl ?_
        refine AW.if_eq (n := 78) (t := 114) dX10_takeDins_75 rfl rfl (fun h75 => ?_) (fun h75 => ?_)
        · refine AW.iload_n (n := 115) dX10_takeDins_114 rfl rfl ?_
          refine AW.if_eq (n := 118) (t := 129) dX10_takeDins_115 rfl rfl (fun h115 => ?_) (fun h115 => ?_)
          · refine AW.iconst (n := 130) (v := 0) dX10_takeDins_129 rfl rfl ?_
            refine AW.ist2 (n := 131) dX10_takeDins_130 (Nat.le_of_ble_eq_true rfl) rfl rfl ?_
            refine AW.goto (t := 19) dX10_takeDins_131 rfl ?_
            refine AW.iload_n (n := 20) dX10_takeDins_19 rfl rfl ?_
            refine AW.if_eq (n := 23) (t := 134) dX10_takeDins_20 rfl rfl (fun h20 => ?_) (fun h20 => ?_)
            · refine AW.ret dX10_takeDins_134 rfl (Nat.zero_le _) (Nat.zero_le _) ?_
              exact ⟨rfl, by rw [mDinL, if_neg (show ¬ mOkB (mDinM μ dn) = true from fun q => h56 (of_decide_eq_true q))]⟩
            · exact absurd rfl h20
          · exact absurd rfl h115
        · exact absurd rfl h75
      · refine AW.aload_n (n := 60) dX10_takeDins_59 rfl rfl ?_
        refine AW.ev0i (Mc := mX10_here) (n := 63) dX10_takeDins_60 lk_X10_83 k_mX10_here s_136 rfl rfl (c_X10_here ho2 (by omega)) (Nat.le_of_ble_eq_true rfl) (by decide) (Nat.zero_le _) (Nat.zero_le _) rfl ?_
        refine AW.bipush (n := 65) (v := 44) dX10_takeDins_63 rfl rfl ?_
        refine AW.icmp_ne (n := 68) (t := 72) dX10_takeDins_65 rfl rfl (fun h65 => ?_) (fun h65 => ?_)
        · refine AW.iconst (n := 73) (v := 0) dX10_takeDins_72 rfl rfl ?_
          refine AW.ist2 (n := 74) dX10_takeDins_73 (Nat.le_of_ble_eq_true rfl) rfl rfl ?_
          refine AW.iload_n (n := 75) dX10_takeDins_74 rfl rfl ?_
          refine AW.if_eq (n := 78) (t := 114) dX10_takeDins_75 rfl rfl (fun h75 => ?_) (fun h75 => ?_)
          · refine AW.iload_n (n := 115) dX10_takeDins_114 rfl rfl ?_
            refine AW.if_eq (n := 118) (t := 129) dX10_takeDins_115 rfl rfl (fun h115 => ?_) (fun h115 => ?_)
            · refine AW.iconst (n := 130) (v := 0) dX10_takeDins_129 rfl rfl ?_
              refine AW.ist2 (n := 131) dX10_takeDins_130 (Nat.le_of_ble_eq_true rfl) rfl rfl ?_
              refine AW.goto (t := 19) dX10_takeDins_131 rfl ?_
              refine AW.iload_n (n := 20) dX10_takeDins_19 rfl rfl ?_
              refine AW.if_eq (n := 23) (t := 134) dX10_takeDins_20 rfl rfl (fun h20 => ?_) (fun h20 => ?_)
              · refine AW.ret dX10_takeDins_134 rfl (Nat.zero_le _) (Nat.zero_le _) ?_
                exact ⟨rfl, by rw [mDinL, if_pos (show mOkB (mDinM μ dn) = true from decide_eq_true h56), if_neg h65]⟩
              · exact absurd rfl h20
            · exact absurd rfl h115
          · exact absurd rfl h75
        · refine AW.iconst (n := 69) (v := 1) dX10_takeDins_68 rfl rfl ?_
          refine AW.goto (t := 73) dX10_takeDins_69 rfl ?_
          refine AW.ist2 (n := 74) dX10_takeDins_73 (Nat.le_of_ble_eq_true rfl) rfl rfl ?_
          refine AW.iload_n (n := 75) dX10_takeDins_74 rfl rfl ?_
          refine AW.if_eq (n := 78) (t := 114) dX10_takeDins_75 rfl rfl (fun h75 => ?_) (fun h75 => ?_)
          · exact absurd h75 (by decide)
          · refine AW.aload_n (n := 79) dX10_takeDins_78 rfl rfl ?_
            refine AW.aload_n (n := 80) dX10_takeDins_79 rfl rfl ?_
            refine AW.gi (n := 83) dX10_takeDins_80 fl_X10_109 s_136 rfl rfl ?_
            refine AW.bipush (n := 85) (v := 12) dX10_takeDins_83 rfl rfl ?_
            rw [mHere_j (by decide), hd2]
            refine AW.icmp_ge (n := 88) (t := 92) dX10_takeDins_85 rfl rfl (fun h85 => ?_) (fun h85 => ?_)
            · refine AW.iconst (n := 93) (v := 0) dX10_takeDins_92 rfl rfl ?_
              refine AW.iconst (n := 94) (v := 1) dX10_takeDins_93 rfl rfl ?_
              refine AW.aload_n (n := 95) dX10_takeDins_94 rfl rfl ?_
              refine AW.gi (n := 98) dX10_takeDins_95 fl_X10_77 s_136 rfl rfl ?_
              refine AW.ev3i (Mc := mX10_want) (n := 101) dX10_takeDins_98 lk_X10_94 k_mX10_want s_136 rfl rfl (c_X10_want (g := false)) (Nat.le_of_ble_eq_true rfl) (by decide) (Nat.zero_le _) (Nat.zero_le _) rfl ?_
              have eg : decide (dn + 1 < 12) = false := decide_eq_false (Nat.not_lt.mpr (le_lit (b := 12) (x := nI (dn + 1)) rfl (by omega) (by omega) h85))
              refine AW.bif_eq (n := 104) (t := 114) dX10_takeDins_101 rfl rfl (fun h101 => ?_) (fun h101 => ?_)
              · refine AW.iload_n (n := 115) dX10_takeDins_114 rfl rfl ?_
                refine AW.if_eq (n := 118) (t := 129) dX10_takeDins_115 rfl rfl (fun h115 => ?_) (fun h115 => ?_)
                · exact absurd h115 (by decide)
                · refine AW.aload_n (n := 119) dX10_takeDins_118 rfl rfl ?_
                  refine AW.gi (n := 122) dX10_takeDins_119 fl_X10_80 s_136 rfl rfl ?_
                  refine AW.if_ne (n := 125) (t := 129) dX10_takeDins_122 rfl rfl (fun h122 => ?_) (fun h122 => ?_)
                  · refine AW.iconst (n := 130) (v := 0) dX10_takeDins_129 rfl rfl ?_
                    refine AW.ist2 (n := 131) dX10_takeDins_130 (Nat.le_of_ble_eq_true rfl) rfl rfl ?_
                    refine AW.goto (t := 19) dX10_takeDins_131 rfl ?_
                    refine AW.iload_n (n := 20) dX10_takeDins_19 rfl rfl ?_
                    refine AW.if_eq (n := 23) (t := 134) dX10_takeDins_20 rfl rfl (fun h20 => ?_) (fun h20 => ?_)
                    · refine AW.ret dX10_takeDins_134 rfl (Nat.zero_le _) (Nat.zero_le _) ?_
                      exact ⟨rfl, by rw [mDinL, if_pos (show mOkB (mDinM μ dn) = true from decide_eq_true h56), if_pos h65, if_neg (by rw [eg, h101]; decide), eg]⟩
                    · exact absurd rfl h20
                  · exact absurd (decide_eq_true h122) (by show ¬ mOkB _ = true; rw [h101]; decide)
              · refine AW.aload_n (n := 105) dX10_takeDins_104 rfl rfl ?_
                refine AW.dup (n := 106) dX10_takeDins_105 rfl rfl ?_
                refine AW.gi (n := 109) dX10_takeDins_106 fl_X10_77 s_136 rfl rfl ?_
                refine AW.iconst (n := 110) (v := 1) dX10_takeDins_109 rfl rfl ?_
                refine AW.iadd (n := 111) dX10_takeDins_110 rfl ?_
                refine AW.pi (n := 114) dX10_takeDins_111 fp_X10_77 s_136 rfl ⟨rfl, rfl⟩ rfl ?_
                refine AW.iload_n (n := 115) dX10_takeDins_114 rfl rfl ?_
                refine AW.if_eq (n := 118) (t := 129) dX10_takeDins_115 rfl rfl (fun h115 => ?_) (fun h115 => ?_)
                · exact absurd h115 (by decide)
                · refine AW.aload_n (n := 119) dX10_takeDins_118 rfl rfl ?_
                  refine AW.gi (n := 122) dX10_takeDins_119 fl_X10_80 s_136 rfl rfl ?_
                  refine AW.if_ne (n := 125) (t := 129) dX10_takeDins_122 rfl rfl (fun h122 => ?_) (fun h122 => ?_)
                  · exact absurd (of_decide_eq_true h101) (by rw [mu_nj (by decide)] at h122; exact h122)
                  · refine AW.iconst (n := 126) (v := 1) dX10_takeDins_125 rfl rfl ?_
                    refine AW.goto (t := 130) dX10_takeDins_126 rfl ?_
                    refine AW.ist2 (n := 131) dX10_takeDins_130 (Nat.le_of_ble_eq_true rfl) rfl rfl ?_
                    refine AW.goto (t := 19) dX10_takeDins_131 rfl ?_
                    have hlt : dn + 1 < 12 := of_decide_eq_true (eg.trans (mWant_ok (by decide) h101).1)
                    rw [mDinL, if_pos (show mOkB (mDinM μ dn) = true from decide_eq_true h56), if_pos h65, if_pos (by rw [eg]; exact h101), eg]
                    refine ih (dn + 1) (B + 1) _ (by omega) (by omega) (uOk.inc (ho2.here hB (by omega)).want) (by omega) (by omega) ?_
                    rw [mu_nj (by decide), mWant_j (by decide) (by decide), mHere_j (by decide)]
                    exact hd2
            · refine AW.iconst (n := 89) (v := 1) dX10_takeDins_88 rfl rfl ?_
              refine AW.goto (t := 93) dX10_takeDins_89 rfl ?_
              refine AW.iconst (n := 94) (v := 1) dX10_takeDins_93 rfl rfl ?_
              refine AW.aload_n (n := 95) dX10_takeDins_94 rfl rfl ?_
              refine AW.gi (n := 98) dX10_takeDins_95 fl_X10_77 s_136 rfl rfl ?_
              refine AW.ev3i (Mc := mX10_want) (n := 101) dX10_takeDins_98 lk_X10_94 k_mX10_want s_136 rfl rfl (c_X10_want (g := true)) (Nat.le_of_ble_eq_true rfl) (by decide) (Nat.zero_le _) (Nat.zero_le _) rfl ?_
              have eg : decide (dn + 1 < 12) = true := decide_eq_true (nle_lit (b := 12) (x := nI (dn + 1)) rfl (by omega) (by omega) h85)
              refine AW.bif_eq (n := 104) (t := 114) dX10_takeDins_101 rfl rfl (fun h101 => ?_) (fun h101 => ?_)
              · refine AW.iload_n (n := 115) dX10_takeDins_114 rfl rfl ?_
                refine AW.if_eq (n := 118) (t := 129) dX10_takeDins_115 rfl rfl (fun h115 => ?_) (fun h115 => ?_)
                · exact absurd h115 (by decide)
                · refine AW.aload_n (n := 119) dX10_takeDins_118 rfl rfl ?_
                  refine AW.gi (n := 122) dX10_takeDins_119 fl_X10_80 s_136 rfl rfl ?_
                  refine AW.if_ne (n := 125) (t := 129) dX10_takeDins_122 rfl rfl (fun h122 => ?_) (fun h122 => ?_)
                  · refine AW.iconst (n := 130) (v := 0) dX10_takeDins_129 rfl rfl ?_
                    refine AW.ist2 (n := 131) dX10_takeDins_130 (Nat.le_of_ble_eq_true rfl) rfl rfl ?_
                    refine AW.goto (t := 19) dX10_takeDins_131 rfl ?_
                    refine AW.iload_n (n := 20) dX10_takeDins_19 rfl rfl ?_
                    refine AW.if_eq (n := 23) (t := 134) dX10_takeDins_20 rfl rfl (fun h20 => ?_) (fun h20 => ?_)
                    · refine AW.ret dX10_takeDins_134 rfl (Nat.zero_le _) (Nat.zero_le _) ?_
                      exact ⟨rfl, by rw [mDinL, if_pos (show mOkB (mDinM μ dn) = true from decide_eq_true h56), if_pos h65, if_neg (by rw [eg, h101]; decide), eg]⟩
                    · exact absurd rfl h20
                  · exact absurd (decide_eq_true h122) (by show ¬ mOkB _ = true; rw [h101]; decide)
              · refine AW.aload_n (n := 105) dX10_takeDins_104 rfl rfl ?_
                refine AW.dup (n := 106) dX10_takeDins_105 rfl rfl ?_
                refine AW.gi (n := 109) dX10_takeDins_106 fl_X10_77 s_136 rfl rfl ?_
                refine AW.iconst (n := 110) (v := 1) dX10_takeDins_109 rfl rfl ?_
                refine AW.iadd (n := 111) dX10_takeDins_110 rfl ?_
                refine AW.pi (n := 114) dX10_takeDins_111 fp_X10_77 s_136 rfl ⟨rfl, rfl⟩ rfl ?_
                refine AW.iload_n (n := 115) dX10_takeDins_114 rfl rfl ?_
                refine AW.if_eq (n := 118) (t := 129) dX10_takeDins_115 rfl rfl (fun h115 => ?_) (fun h115 => ?_)
                · exact absurd h115 (by decide)
                · refine AW.aload_n (n := 119) dX10_takeDins_118 rfl rfl ?_
                  refine AW.gi (n := 122) dX10_takeDins_119 fl_X10_80 s_136 rfl rfl ?_
                  refine AW.if_ne (n := 125) (t := 129) dX10_takeDins_122 rfl rfl (fun h122 => ?_) (fun h122 => ?_)
                  · exact absurd (of_decide_eq_true h101) (by rw [mu_nj (by decide)] at h122; exact h122)
                  · refine AW.iconst (n := 126) (v := 1) dX10_takeDins_125 rfl rfl ?_
                    refine AW.goto (t := 130) dX10_takeDins_126 rfl ?_
                    refine AW.ist2 (n := 131) dX10_takeDins_130 (Nat.le_of_ble_eq_true rfl) rfl rfl ?_
                    refine AW.goto (t := 19) dX10_takeDins_131 rfl ?_
                    have hlt : dn + 1 < 12 := of_decide_eq_true (eg.trans (mWant_ok (by decide) h101).1)
                    rw [mDinL, if_pos (show mOkB (mDinM μ dn) = true from decide_eq_true h56), if_pos h65, if_pos (by rw [eg]; exact h101), eg]
                    refine ih (dn + 1) (B + 1) _ (by omega) (by omega) (uOk.inc (ho2.here hB (by omega)).want) (by omega) (by omega) ?_
                    rw [mu_nj (by decide), mWant_j (by decide) (by decide), mHere_j (by decide)]
                    exact hd2
set_option maxHeartbeats 4000000 in
set_option maxRecDepth 100000 in
theorem c_X10_takeDins {μ : Me} {e : Nat × (Nat → aC)} {B : Nat} {w : Int32} (ho : uOk B μ) (hB : 240 ≤ B) (hB9 : B ≤ 70000) : AC 3 0 0 mX10_takeDins [.ref 136, .int w] (wS μ e) (a_eq none (wS (mDins μ w) e)) := by
  refine AC.of (L := [some (.ref 136), some (.int w), none]) (j := 1) (by decide) rfl (Nat.le_of_ble_eq_true rfl) ?_
  refine AW.aload_n (n := 1) dX10_takeDins_0 rfl rfl ?_
  refine AW.aload_n (n := 2) dX10_takeDins_1 rfl rfl ?_
  refine AW.gi (n := 5) dX10_takeDins_2 fl_X10_109 s_136 rfl rfl ?_
  refine AW.if_ne (n := 8) (t := 12) dX10_takeDins_5 rfl rfl (fun h5 => ?_) (fun h5 => ?_)
  · refine AW.iconst (n := 13) (v := 0) dX10_takeDins_12 rfl rfl ?_
    refine AW.iconst (n := 14) (v := 3) dX10_takeDins_13 rfl rfl ?_
    refine AW.iload_n (n := 15) dX10_takeDins_14 rfl rfl ?_
    refine AW.ev3i (Mc := mX10_want) (n := 18) dX10_takeDins_15 lk_X10_94 k_mX10_want s_136 rfl rfl (c_X10_want (g := false)) (Nat.le_of_ble_eq_true rfl) (by decide) (Nat.zero_le _) (Nat.zero_le _) rfl ?_
    have eg : decide (μ 136 12 = 0) = false := decide_eq_false h5
    unfold mDins
    rw [eg]
    refine AW.ist2 (n := 19) dX10_takeDins_18 (Nat.le_of_ble_eq_true rfl) rfl rfl ?_
    cases hb : mOkB (mWant μ false 3 w) with
    | true => exact Bool.noConfusion (mWant_ok (by decide) hb).1
    | false =>
      rw [if_neg (by decide)]
      refine AW.iload_n (n := 20) dX10_takeDins_19 rfl rfl ?_
      refine AW.if_eq (n := 23) (t := 134) dX10_takeDins_20 rfl rfl (fun h20 => ?_) (fun h20 => ?_)
      · refine AW.ret dX10_takeDins_134 rfl (Nat.zero_le _) (Nat.zero_le _) ?_
        exact ⟨rfl, rfl⟩
      · exact absurd rfl h20
  · refine AW.iconst (n := 9) (v := 1) dX10_takeDins_8 rfl rfl ?_
    refine AW.goto (t := 13) dX10_takeDins_9 rfl ?_
    refine AW.iconst (n := 14) (v := 3) dX10_takeDins_13 rfl rfl ?_
    refine AW.iload_n (n := 15) dX10_takeDins_14 rfl rfl ?_
    refine AW.ev3i (Mc := mX10_want) (n := 18) dX10_takeDins_15 lk_X10_94 k_mX10_want s_136 rfl rfl (c_X10_want (g := true)) (Nat.le_of_ble_eq_true rfl) (by decide) (Nat.zero_le _) (Nat.zero_le _) rfl ?_
    have eg : decide (μ 136 12 = 0) = true := decide_eq_true h5
    unfold mDins
    rw [eg]
    refine AW.ist2 (n := 19) dX10_takeDins_18 (Nat.le_of_ble_eq_true rfl) rfl rfl ?_
    cases hb : mOkB (mWant μ true 3 w) with
    | true =>
      rw [if_pos rfl]
      exact l_X10_dins 12 0 B _ rfl (by decide) ho hB (by omega) (h5.trans nI_0.symm)
    | false =>
      rw [if_neg (by decide)]
      refine AW.iload_n (n := 20) dX10_takeDins_19 rfl rfl ?_
      refine AW.if_eq (n := 23) (t := 134) dX10_takeDins_20 rfl rfl (fun h20 => ?_) (fun h20 => ?_)
      · refine AW.ret dX10_takeDins_134 rfl (Nat.zero_le _) (Nat.zero_le _) ?_
        exact ⟨rfl, rfl⟩
      · exact absurd rfl h20
