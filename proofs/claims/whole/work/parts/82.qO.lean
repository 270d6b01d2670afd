set_option maxHeartbeats 4000000 in
set_option maxRecDepth 100000 in
theorem law_see {q : Nat × (Nat → Int32)} {mc ms c0 s0 i n d : Nat} {μ : Me} {e : Nat × (Nat → aC)} (hR : Rel μ μ n d) (hc : c0 + 1 ≤ mc) (hs : s0 + 8 ≤ ms) (hq : q.1 ≤ 320) (hi : i + 5 ≤ q.1) (K : lK q mc ms c0 s0 i) : AW (some q) 20 mc ms mL_law c0 s0 777 (lL i) [] (wS μ e) lP := by
  obtain ⟨ho, hn, h7, e8⟩ := hR.ok
  have v1 : vp_in (nI i + 1) q.1 := v_k 1 hq (by omega)
  have v2 : vp_in (nI i + 2) q.1 := v_k 2 hq (by omega)
  obtain ⟨z, z9, z1, z2, -⟩ := hR.2.2.2.2.2.2.1
  refine AW.aload_n (n := 778) dL_law_777 rfl rfl ?_
  refine AW.sload_n (n := 779) dL_law_778 rfl rfl ?_
  refine AW.iload_n (n := 780) dL_law_779 rfl rfl ?_
  refine AW.iconst (n := 781) (v := 1) dL_law_780 rfl rfl ?_
  refine AW.iadd (n := 782) dL_law_781 rfl ?_
  refine AW.sald (n := 783) dL_law_782 rfl v1 rfl ?_
  refine AW.sload_n (n := 784) dL_law_783 rfl rfl ?_
  refine AW.iload_n (n := 785) dL_law_784 rfl rfl ?_
  refine AW.iconst (n := 786) (v := 2) dL_law_785 rfl rfl ?_
  refine AW.iadd (n := 787) dL_law_786 rfl ?_
  refine AW.sald (n := 788) dL_law_787 rfl v2 rfl ?_
  refine AW.if_eq (n := 791) (t := 795) dL_law_788 rfl rfl (fun hb => ?_) (fun hb => ?_)
  · obtain ⟨h1, f, ee, n', d', h2⟩ := Pr.two (o := oSee μ z (q.2 (nI i + 1).toNatClampNeg) false) (q := fun ν => qSee ν z (q.2 (nI i + 1).toNatClampNeg) false) hR (fun ν h => p_see h z1 z9)
    refine AW.iconst (n := 796) (v := b2i false) dL_law_795 rfl rfl ?_
    refine AW.ev2i (Mc := mX9_see) (n := 799) dL_law_796 lk_L_102 k_mX9_see s_0 rfl rfl (c_X9_see z1 z9) (Nat.le_of_ble_eq_true rfl) (by decide) (by omega) (by omega) rfl ?_
    refine AW.aload_n (n := 800) dL_law_799 rfl rfl ?_
    refine AW.sload_n (n := 801) dL_law_800 rfl rfl ?_
    refine AW.iload_n (n := 802) dL_law_801 rfl rfl ?_
    refine AW.iconst (n := 803) (v := 1) dL_law_802 rfl rfl ?_
    refine AW.iadd (n := 804) dL_law_803 rfl ?_
    refine AW.sald (n := 805) dL_law_804 rfl v1 rfl ?_
    refine AW.sload_n (n := 806) dL_law_805 rfl rfl ?_
    refine AW.iload_n (n := 807) dL_law_806 rfl rfl ?_
    refine AW.iconst (n := 808) (v := 2) dL_law_807 rfl rfl ?_
    refine AW.iadd (n := 809) dL_law_808 rfl ?_
    refine AW.sald (n := 810) dL_law_809 rfl v2 rfl ?_
    refine AW.if_eq (n := 813) (t := 817) dL_law_810 rfl rfl (fun _ => ?_) (fun h => absurd hb h)
    refine AW.iconst (n := 818) (v := b2i false) dL_law_817 rfl rfl ?_
    refine AW.ev2i (Mc := mX10_see) (n := 821) dL_law_818 lk_L_106 k_mX10_see s_136 rfl rfl (c_X10_see h1.1.1 (by rw [f 136 (by omega)]; exact z2) z9) (Nat.le_of_ble_eq_true rfl) (by decide) (by omega) (by omega) rfl ?_
    refine AW.icmp_eq (n := 824) (t := 987) dL_law_821 rfl rfl (fun _ => K _ _ _ _ (by omega) (by omega) ⟨n', d', h2⟩) (fun h => absurd ee h)
  · obtain ⟨h1, f, ee, n', d', h2⟩ := Pr.two (o := oSee μ z (q.2 (nI i + 1).toNatClampNeg) true) (q := fun ν => qSee ν z (q.2 (nI i + 1).toNatClampNeg) true) hR (fun ν h => p_see h z1 z9)
    refine AW.iconst (n := 792) (v := b2i true) dL_law_791 rfl rfl ?_
    refine AW.goto (t := 796) dL_law_792 rfl ?_
    refine AW.ev2i (Mc := mX9_see) (n := 799) dL_law_796 lk_L_102 k_mX9_see s_0 rfl rfl (c_X9_see z1 z9) (Nat.le_of_ble_eq_true rfl) (by decide) (by omega) (by omega) rfl ?_
    refine AW.aload_n (n := 800) dL_law_799 rfl rfl ?_
    refine AW.sload_n (n := 801) dL_law_800 rfl rfl ?_
    refine AW.iload_n (n := 802) dL_law_801 rfl rfl ?_
    refine AW.iconst (n := 803) (v := 1) dL_law_802 rfl rfl ?_
    refine AW.iadd (n := 804) dL_law_803 rfl ?_
    refine AW.sald (n := 805) dL_law_804 rfl v1 rfl ?_
    refine AW.sload_n (n := 806) dL_law_805 rfl rfl ?_
    refine AW.iload_n (n := 807) dL_law_806 rfl rfl ?_
    refine AW.iconst (n := 808) (v := 2) dL_law_807 rfl rfl ?_
    refine AW.iadd (n := 809) dL_law_808 rfl ?_
    refine AW.sald (n := 810) dL_law_809 rfl v2 rfl ?_
    refine AW.if_eq (n := 813) (t := 817) dL_law_810 rfl rfl (fun h => absurd h hb) (fun _ => ?_)
    refine AW.iconst (n := 814) (v := b2i true) dL_law_813 rfl rfl ?_
    refine AW.goto (t := 818) dL_law_814 rfl ?_
    refine AW.ev2i (Mc := mX10_see) (n := 821) dL_law_818 lk_L_106 k_mX10_see s_136 rfl rfl (c_X10_see h1.1.1 (by rw [f 136 (by omega)]; exact z2) z9) (Nat.le_of_ble_eq_true rfl) (by decide) (by omega) (by omega) rfl ?_
    refine AW.icmp_eq (n := 824) (t := 987) dL_law_821 rfl rfl (fun _ => K _ _ _ _ (by omega) (by omega) ⟨n', d', h2⟩) (fun h => absurd ee h)
set_option maxHeartbeats 4000000 in
set_option maxRecDepth 100000 in
theorem law_bestWay {q : Nat × (Nat → Int32)} {mc ms c0 s0 i n d : Nat} {μ : Me} {e : Nat × (Nat → aC)} (hR : Rel μ μ n d) (hc : c0 + 1 ≤ mc) (hs : s0 + 8 ≤ ms) (hq : q.1 ≤ 320) (hi : i + 5 ≤ q.1) (K : lK q mc ms c0 s0 i) : AW (some q) 20 mc ms mL_law c0 s0 602 (lL i) [] (wS μ e) lP := by
  obtain ⟨ho, hn, h7, e8⟩ := hR.ok
  have v1 : vp_in (nI i + 1) q.1 := v_k 1 hq (by omega)
  have v2 : vp_in (nI i + 2) q.1 := v_k 2 hq (by omega)
  have pr : ∀ ν, Rel μ ν n d → Pr (oBest μ n (q.2 (nI i + 1).toNatClampNeg) (q.2 (nI i + 2).toNatClampNeg), μ) μ (qBest ν n (q.2 (nI i + 1).toNatClampNeg) (q.2 (nI i + 2).toNatClampNeg)) ν := fun ν h => p_best h
  obtain ⟨h1, f, ee, n', d', h2⟩ := Pr.two (o := (oBest μ n (q.2 (nI i + 1).toNatClampNeg) (q.2 (nI i + 2).toNatClampNeg), μ)) (q := fun ν => qBest ν n (q.2 (nI i + 1).toNatClampNeg) (q.2 (nI i + 2).toNatClampNeg)) hR pr
  refine AW.aload_n (n := 603) dL_law_602 rfl rfl ?_
  refine AW.sload_n (n := 604) dL_law_603 rfl rfl ?_
  refine AW.iload_n (n := 605) dL_law_604 rfl rfl ?_
  refine AW.iconst (n := 606) (v := 1) dL_law_605 rfl rfl ?_
  refine AW.iadd (n := 607) dL_law_606 rfl ?_
  refine AW.sald (n := 608) dL_law_607 rfl v1 rfl ?_
  refine AW.sload_n (n := 609) dL_law_608 rfl rfl ?_
  refine AW.iload_n (n := 610) dL_law_609 rfl rfl ?_
  refine AW.iconst (n := 611) (v := 2) dL_law_610 rfl rfl ?_
  refine AW.iadd (n := 612) dL_law_611 rfl ?_
  refine AW.sald (n := 613) dL_law_612 rfl v2 rfl ?_
  refine AW.callv0 (n := 616) (Mc := mX9_bestWay) (As := [.int (q.2 (nI i + 1).toNatClampNeg), .int (q.2 (nI i + 2).toNatClampNeg)]) (rest := []) (ci := 9) (q := (RX9, TX9, 12)) dL_law_613 lk_L_82 k_mX9_bestWay (c_X9_bestWay ho) rfl rfl (Nat.le_of_ble_eq_true rfl) (by decide) (by omega) (by omega) (Nat.lt_of_lt_of_le (sk_lt s_0) (Nat.le_add_right _ _)) (wd_at (g := e.2) s_0) rfl rfl rfl (fun r σ' hp => ?_)
  obtain ⟨rfl, e2, rfl⟩ := hp
  change AW _ _ _ _ _ _ _ _ _ [.int (oBest μ n (q.2 (nI i + 1).toNatClampNeg) (q.2 (nI i + 2).toNatClampNeg))] (wS μ e2) _
  refine AW.aload_n (n := 617) dL_law_616 rfl rfl ?_
  refine AW.sload_n (n := 618) dL_law_617 rfl rfl ?_
  refine AW.iload_n (n := 619) dL_law_618 rfl rfl ?_
  refine AW.iconst (n := 620) (v := 1) dL_law_619 rfl rfl ?_
  refine AW.iadd (n := 621) dL_law_620 rfl ?_
  refine AW.sald (n := 622) dL_law_621 rfl v1 rfl ?_
  refine AW.sload_n (n := 623) dL_law_622 rfl rfl ?_
  refine AW.iload_n (n := 624) dL_law_623 rfl rfl ?_
  refine AW.iconst (n := 625) (v := 2) dL_law_624 rfl rfl ?_
  refine AW.iadd (n := 626) dL_law_625 rfl ?_
  refine AW.sald (n := 627) dL_law_626 rfl v2 rfl ?_
  refine AW.ev2i (Mc := mX10_bestWay) (n := 630) dL_law_627 lk_L_85 k_mX10_bestWay s_136 rfl rfl (c_X10_bestWay h1.1.1) (Nat.le_of_ble_eq_true rfl) (by decide) (by omega) (by omega) rfl ?_
  refine AW.icmp_eq (n := 633) (t := 987) dL_law_630 rfl rfl (fun _ => K _ _ _ _ (by omega) (by omega) ⟨n', d', h2⟩) (fun h => absurd ee h)
set_option maxHeartbeats 4000000 in
set_option maxRecDepth 100000 in
theorem law_body {q : Nat × (Nat → Int32)} {mc ms c0 s0 i n d : Nat} {μ : Me} {e : Nat × (Nat → aC)} (hR : Rel μ μ n d) (hc : c0 + 1 ≤ mc) (hs : s0 + 8 ≤ ms) (hq : q.1 ≤ 320) (hi : i + 5 ≤ q.1) (K : lK q mc ms c0 s0 i) : AW (some q) 20 mc ms mL_law c0 s0 26 (lL i) [] (wS μ e) lP := by
  refine AW.sload_n (n := 27) dL_law_26 rfl rfl ?_
  refine AW.iload_n (n := 28) dL_law_27 rfl rfl ?_
  refine AW.sald (n := 29) dL_law_28 rfl (vp_in_nI (show i < q.1 by omega) (by omega)) rfl ?_
  refine AW.bipush (n := 31) (v := 31) dL_law_29 rfl rfl ?_
  refine AW.iand (n := 32) dL_law_31 rfl ?_
  generalize q.2 (nI i).toNatClampNeg &&& 31 = w
  by_cases q0 : w = 0
  · subst q0
    exact AW.tsIn (t := 164) (o := 132) dL_law_32 (by decide) (by decide) rfl rfl (law_feed hR hc hs hq hi K)
  by_cases q1 : w = 1
  · subst q1
    exact AW.tsIn (t := 187) (o := 155) dL_law_32 (by decide) (by decide) rfl rfl (law_street hR hc hs hq hi K)
  by_cases q2 : w = 2
  · subst q2
    exact AW.tsIn (t := 200) (o := 168) dL_law_32 (by decide) (by decide) rfl rfl (law_fault hR hc hs hq hi K)
  by_cases q3 : w = 3
  · subst q3
    exact AW.tsIn (t := 213) (o := 181) dL_law_32 (by decide) (by decide) rfl rfl (law_told hR hc hs hq hi K)
  by_cases q4 : w = 4
  · subst q4
    exact AW.tsIn (t := 236) (o := 204) dL_law_32 (by decide) (by decide) rfl rfl (law_stop hR hc hs hq hi K)
  by_cases q5 : w = 5
  · subst q5
    exact AW.tsIn (t := 269) (o := 237) dL_law_32 (by decide) (by decide) rfl rfl (law_din hR hc hs hq hi K)
  by_cases q6 : w = 6
  · subst q6
    exact AW.tsIn (t := 292) (o := 260) dL_law_32 (by decide) (by decide) rfl rfl (law_round hR hc hs hq hi K)
  by_cases q7 : w = 7
  · subst q7
    exact AW.tsIn (t := 325) (o := 293) dL_law_32 (by decide) (by decide) rfl rfl (law_fetch hR hc hs hq hi K)
  by_cases q8 : w = 8
  · subst q8
    exact AW.tsIn (t := 348) (o := 316) dL_law_32 (by decide) (by decide) rfl rfl (law_order hR hc hs hq hi K)
  by_cases q9 : w = 9
  · subst q9
    exact AW.tsIn (t := 371) (o := 339) dL_law_32 (by decide) (by decide) rfl rfl (law_thank hR hc hs hq hi K)
  by_cases q10 : w = 10
  · subst q10
    exact AW.tsIn (t := 394) (o := 362) dL_law_32 (by decide) (by decide) rfl rfl (law_drift hR hc hs hq hi K)
  by_cases q11 : w = 11
  · subst q11
    exact AW.tsIn (t := 417) (o := 385) dL_law_32 (by decide) (by decide) rfl rfl (law_undo hR hc hs hq hi K)
  by_cases q12 : w = 12
  · subst q12
    exact AW.tsIn (t := 440) (o := 408) dL_law_32 (by decide) (by decide) rfl rfl (law_comes hR hc hs hq hi K)
  by_cases q13 : w = 13
  · subst q13
    exact AW.tsIn (t := 483) (o := 451) dL_law_32 (by decide) (by decide) rfl rfl (law_home hR hc hs hq hi K)
  by_cases q14 : w = 14
  · subst q14
    exact AW.tsIn (t := 516) (o := 484) dL_law_32 (by decide) (by decide) rfl rfl (law_outcome hR hc hs hq hi K)
  by_cases q15 : w = 15
  · subst q15
    exact AW.tsIn (t := 549) (o := 517) dL_law_32 (by decide) (by decide) rfl rfl (law_bath hR hc hs hq hi K)
  by_cases q16 : w = 16
  · subst q16
    exact AW.tsIn (t := 602) (o := 570) dL_law_32 (by decide) (by decide) rfl rfl (law_bestWay hR hc hs hq hi K)
  by_cases q17 : w = 17
  · subst q17
    exact AW.tsIn (t := 635) (o := 603) dL_law_32 (by decide) (by decide) rfl rfl (law_pretends hR hc hs hq hi K)
  by_cases q18 : w = 18
  · subst q18
    exact AW.tsIn (t := 678) (o := 646) dL_law_32 (by decide) (by decide) rfl rfl (law_locker hR hc hs hq hi K)
  by_cases q19 : w = 19
  · subst q19
    exact AW.tsIn (t := 721) (o := 689) dL_law_32 (by decide) (by decide) rfl rfl (law_bears hR hc hs hq hi K)
  by_cases q20 : w = 20
  · subst q20
    exact AW.tsIn (t := 744) (o := 712) dL_law_32 (by decide) (by decide) rfl rfl (law_heard hR hc hs hq hi K)
  by_cases q21 : w = 21
  · subst q21
    exact AW.tsIn (t := 777) (o := 745) dL_law_32 (by decide) (by decide) rfl rfl (law_see hR hc hs hq hi K)
  by_cases q22 : w = 22
  · subst q22
    exact AW.tsIn (t := 826) (o := 794) dL_law_32 (by decide) (by decide) rfl rfl (law_rang hR hc hs hq hi K)
  by_cases q23 : w = 23
  · subst q23
    exact AW.tsIn (t := 859) (o := 827) dL_law_32 (by decide) (by decide) rfl rfl (law_write hR hc hs hq hi K)
  by_cases q24 : w = 24
  · subst q24
    exact AW.tsIn (t := 892) (o := 860) dL_law_32 (by decide) (by decide) rfl rfl (law_judge hR hc hs hq hi K)
  by_cases q25 : w = 25
  · subst q25
    exact AW.tsIn (t := 905) (o := 873) dL_law_32 (by decide) (by decide) rfl rfl (law_tear hR hc hs hq hi K)
  by_cases q26 : w = 26
  · subst q26
    exact AW.tsIn (t := 918) (o := 886) dL_law_32 (by decide) (by decide) rfl rfl (law_seed hR hc hs hq hi K)
  by_cases q27 : w = 27
  · subst q27
    exact AW.tsIn (t := 941) (o := 909) dL_law_32 (by decide) (by decide) rfl rfl (law_keep hR hc hs hq hi K)
  by_cases q28 : w = 28
  · subst q28
    exact AW.tsIn (t := 964) (o := 932) dL_law_32 (by decide) (by decide) rfl rfl (law_goBack hR hc hs hq hi K)
  exact AW.tsOut (t := 987) dL_law_32 (ts_out 28 w (by decide) (by intro k hk; rcases (show k = 0 ∨ k = 1 ∨ k = 2 ∨ k = 3 ∨ k = 4 ∨ k = 5 ∨ k = 6 ∨ k = 7 ∨ k = 8 ∨ k = 9 ∨ k = 10 ∨ k = 11 ∨ k = 12 ∨ k = 13 ∨ k = 14 ∨ k = 15 ∨ k = 16 ∨ k = 17 ∨ k = 18 ∨ k = 19 ∨ k = 20 ∨ k = 21 ∨ k = 22 ∨ k = 23 ∨ k = 24 ∨ k = 25 ∨ k = 26 ∨ k = 27 ∨ k = 28 by omega) with rfl | rfl | rfl | rfl | rfl | rfl | rfl | rfl | rfl | rfl | rfl | rfl | rfl | rfl | rfl | rfl | rfl | rfl | rfl | rfl | rfl | rfl | rfl | rfl | rfl | rfl | rfl | rfl | rfl <;> assumption)) rfl (K _ _ _ _ (by omega) (by omega) ⟨n, d, hR⟩)
set_option maxHeartbeats 4000000 in
set_option maxRecDepth 100000 in
theorem law_loop {q : Nat × (Nat → Int32)} {mc ms : Nat} (hq : q.1 ≤ 320) : ∀ (m i c0 s0 n d : Nat) (μ : Me) (e : Nat × (Nat → aC)), q.1 - i < m → i ≤ q.1 → c0 + m ≤ mc → s0 + 8 * m ≤ ms → Rel μ μ n d → AW (some q) 20 mc ms mL_law c0 s0 18 (lL i) [] (wS μ e) lP := by
  intro m
  induction m with
  | zero => intro i c0 s0 n d μ e hm; exact absurd hm (Nat.not_lt_zero _)
  | succ m ih =>
    intro i c0 s0 n d μ e hm hi hc hs hR
    refine AW.iload_n (n := 19) dL_law_18 rfl rfl ?_
    refine AW.sload_n (n := 20) dL_law_19 rfl rfl ?_
    refine AW.slen (n := 21) dL_law_20 rfl rfl ?_
    refine AW.iconst (n := 22) (v := 5) dL_law_21 rfl rfl ?_
    refine AW.isub (n := 23) dL_law_22 rfl ?_
    refine AW.icmp_gt (n := 26) (t := 993) dL_law_23 rfl rfl (fun hg => ?_) (fun hg => ?_)
    · refine AW.iconst (n := 994) (v := 1) dL_law_993 rfl rfl ?_
      exact AW.iret dL_law_994 rfl rfl (by omega) (by omega) rfl
    · have h5 : i + 5 ≤ q.1 := by
        have h0 : ¬ (nI q.1 - nI 5 : Int32) < nI i := hg
        rw [Int32.lt_iff_toInt_lt, pk_sub_toInt (by omega) (by omega)] at h0
        have e2 : (nI i : Int32).toInt = (i : Int) := nI_toInt (by omega)
        rw [e2] at h0
        omega
      refine law_body hR (by omega) (by omega) hq h5 (fun c' s' μ' e' hc' hs' hR' => ?_)
      obtain ⟨n', d', hR'⟩ := hR'
      refine AW.iinc (n := 990) (v := nI (i + 5)) (L' := lL (i + 5)) dL_law_987 rfl (nI_add i 5) (Nat.le_of_ble_eq_true rfl) rfl rfl rfl ?_
      refine AW.goto (t := 18) dL_law_990 rfl ?_
      exact ih (i + 5) c' s' n' d' μ' e' (by omega) (by omega) (by omega) (by omega) hR'
