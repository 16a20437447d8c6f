/-! ===== the class: sets, setAt, could, surely, look, lookLeaves, judge ===== -/
section CSRC3
variable {scr : List Int32} {d n nS nW nG nU nN : Nat} {H : List AC} {R st ws : List Int32} {Q : Option Value → List AC → Prop}
theorem ssM_parts {wanted : Int32} (hn : n ≤ 7) : (ssM R st n nW nG nU nN wanted (2 ^ nU)).2.1 = nI (fcN (fitS R st n nW nG nU nN) (2 ^ nU)) ∧ (ssM R st n nW nG nU nN wanted (2 ^ nU)).2.2.1 = forN (fsO (fitS R st n nW nG nU nN)) (2 ^ nU) 0 ∧ (ssM R st n nW nG nU nN wanted (2 ^ nU)).2.2.2.1 = forN (fsA (fitS R st n nW nG nU nN)) (2 ^ nU) (allU nU) ∧ (ssM R st n nW nG nU nN wanted (2 ^ nU)).2.2.2.2 = forN (fsD (fitS R st n nW nG nU nN) (fun set => dOn R st n nW nG nU (nI set)) n) (2 ^ nU) (List.replicate 147 0) := ss_parts hn (by simp) (2 ^ nU)
theorem ssM_found {i : Int32} (hn : n ≤ 7) (hU : nU ≤ 5) (hi : ¬ i < 0) : (ssM R st n nW nG nU nN i (2 ^ nU)).1 = fitAt (fitS R st n nW nG nU nN) (2 ^ nU) i := by
  obtain ⟨w, hw, e⟩ := nI_of hi
  have hp : 2 ^ nU ≤ 2 ^ 5 := p2_lt hU
  have := ss_found (fit := fitS R st n nW nG nU nN) (dO := fun set => dOn R st n nW nG nU (nI set)) (n := n) (w := w) (a0 := allU nU) (D0 := List.replicate 147 0) hn (by simp) hw (2 ^ nU) (by omega)
  unfold fitAt
  rw [if_neg hi, e, nI_clamp hw]
  exact this
theorem fitAt_b {fit : Nat → Bool} {m : Nat} {i : Int32} (hm : m ≤ 32) : fitAt fit m i = -1 ∨ ∃ s, s < 32 ∧ fitAt fit m i = nI s := by
  unfold fitAt
  split
  · exact Or.inl rfl
  · cases h : ((List.range m).filter fit)[i.toNatClampNeg]? with
    | none => exact Or.inl rfl
    | some s =>
      have h1 := List.mem_of_getElem? h
      have h2 := List.mem_range.mp (List.mem_filter.mp h1).1
      exact Or.inr ⟨s, by omega, rfl⟩
theorem C_sets (hC : CIv H R st n nS nW nG nU nN) (hV : Vf R n) (hQ : CR H Q (if 0 < n then (ssM R st n nW nG nU nN (-1) (2 ^ nU)).2.1 else -1) (if 0 < n then 0 else 1)) : Wp scr (d + 6) 155 0 [some (.ref 0)] [] H Q := by
  have hS := hC.shp
  obtain ⟨c2, c3, c4, c5, c6, c7, b2, b3, b4, b5, b6, b7⟩ := id hC.1.2.1
  have hs0 := sf_0_13 (v := 0) hS
  have hC0 := hC.tr (v := 0)
  have hpw : 2 ^ nU ≤ 2 ^ 5 := p2_lt b6
  by_cases hp : 0 < n
  · rw [if_pos hp, if_pos hp, (ssM_parts b2).1] at hQ
    simp (maxDischargeDepth := 12) only [w155_0, w155_1, w155_2, w155_5, w155_8, w155_9, w155_12, w155_15, w155_16, w155_17, w155_18, w155_21, w155_22, w155_25, w155_28, w155_29, w155_32, w155_35, oK_some, cont_int, cont_intS, cont_none, cont_noneS, cont_long, cont_longS, true_and, and_true, false_and, and_false, true_implies, false_implies, not_true_eq_false, not_false_eq_true, eq_self, or_true, true_or, Option.isSome_some, hpf_length, hpa_length, bI_eq0, fi_hpa, fl_hpa, ar_hpf, fi_hpf_ne, fl_hpf_ne, ar_hpa_ne, hpa_hpa, hpf_hpf, nI_1, two_ne, fokZ, implies_true, Nat.reduceEqDiff, rc_0, g_0_13, sf_0_13, fe_0_13, g_0_8, rc_44, g_0_5, rc_30, hS, c_slopeTrouble hC, hp, if_true, hs0]
    refine c_find hC0 hV (fun H1 hF1 f1 a1 => ?_)
    have hs1 := hF1.shp
    simp (maxDischargeDepth := 12) only [w155_0, w155_1, w155_2, w155_5, w155_8, w155_9, w155_12, w155_15, w155_16, w155_17, w155_18, w155_21, w155_22, w155_25, w155_28, w155_29, w155_32, w155_35, oK_some, cont_int, cont_intS, cont_none, cont_noneS, cont_long, cont_longS, true_and, and_true, false_and, and_false, true_implies, false_implies, not_true_eq_false, not_false_eq_true, eq_self, or_true, true_or, Option.isSome_some, hpf_length, hpa_length, bI_eq0, fi_hpa, fl_hpa, ar_hpf, fi_hpf_ne, fl_hpf_ne, ar_hpa_ne, hpa_hpa, hpf_hpf, nI_1, two_ne, fokZ, implies_true, Nat.reduceEqDiff, rc_0, g_0_13, sf_0_13, fe_0_13, g_0_8, rc_44, g_0_5, rc_30, hF1.len, hs1, c_srcCount hs1 (by omega : 2 ^ nU ≤ 32) f1]
    exact cr_ok hS hF1 (by decide) (by decide) (by decide) (by decide) hQ
  · rw [if_neg hp, if_neg hp] at hQ
    simp (maxDischargeDepth := 12) only [w155_0, w155_1, w155_2, w155_5, w155_8, w155_9, w155_12, w155_15, w155_16, w155_17, w155_18, w155_21, w155_22, w155_25, w155_28, w155_29, w155_32, w155_35, oK_some, cont_int, cont_intS, cont_none, cont_noneS, cont_long, cont_longS, true_and, and_true, false_and, and_false, true_implies, false_implies, not_true_eq_false, not_false_eq_true, eq_self, or_true, true_or, Option.isSome_some, hpf_length, hpa_length, bI_eq0, fi_hpa, fl_hpa, ar_hpf, fi_hpf_ne, fl_hpf_ne, ar_hpa_ne, hpa_hpa, hpf_hpf, nI_1, two_ne, fokZ, implies_true, Nat.reduceEqDiff, rc_0, g_0_13, sf_0_13, fe_0_13, g_0_8, rc_44, g_0_5, rc_30, hS, c_slopeTrouble hC, hp, if_false, show ((1 : Int32) = 0) = False from eq_false (by decide)]
    exact cr_no hS hQ
theorem C_could (hC : CIv H R st n nS nW nG nU nN) (hV : Vf R n) (hQ : CR H Q (if 0 < n then (ssM R st n nW nG nU nN (-1) (2 ^ nU)).2.2.1 else -1) (if 0 < n then 0 else 1)) : Wp scr (d + 6) 157 0 [some (.ref 0)] [] H Q := by
  have hS := hC.shp
  obtain ⟨c2, c3, c4, c5, c6, c7, b2, b3, b4, b5, b6, b7⟩ := id hC.1.2.1
  have hs0 := sf_0_13 (v := 0) hS
  have hC0 := hC.tr (v := 0)
  have hpw : 2 ^ nU ≤ 2 ^ 5 := p2_lt b6
  by_cases hp : 0 < n
  · rw [if_pos hp, if_pos hp, (ssM_parts b2).2.1] at hQ
    simp (maxDischargeDepth := 12) only [w157_0, w157_1, w157_2, w157_5, w157_8, w157_9, w157_12, w157_15, w157_16, w157_17, w157_18, w157_21, w157_22, w157_25, w157_28, w157_29, w157_32, w157_35, oK_some, cont_int, cont_intS, cont_none, cont_noneS, cont_long, cont_longS, true_and, and_true, false_and, and_false, true_implies, false_implies, not_true_eq_false, not_false_eq_true, eq_self, or_true, true_or, Option.isSome_some, hpf_length, hpa_length, bI_eq0, fi_hpa, fl_hpa, ar_hpf, fi_hpf_ne, fl_hpf_ne, ar_hpa_ne, hpa_hpa, hpf_hpf, nI_1, two_ne, fokZ, implies_true, Nat.reduceEqDiff, rc_0, g_0_13, sf_0_13, fe_0_13, g_0_8, rc_44, g_0_5, rc_30, hS, c_slopeTrouble hC, hp, if_true, hs0]
    refine c_find hC0 hV (fun H1 hF1 f1 a1 => ?_)
    have hs1 := hF1.shp
    simp (maxDischargeDepth := 12) only [w157_0, w157_1, w157_2, w157_5, w157_8, w157_9, w157_12, w157_15, w157_16, w157_17, w157_18, w157_21, w157_22, w157_25, w157_28, w157_29, w157_32, w157_35, oK_some, cont_int, cont_intS, cont_none, cont_noneS, cont_long, cont_longS, true_and, and_true, false_and, and_false, true_implies, false_implies, not_true_eq_false, not_false_eq_true, eq_self, or_true, true_or, Option.isSome_some, hpf_length, hpa_length, bI_eq0, fi_hpa, fl_hpa, ar_hpf, fi_hpf_ne, fl_hpf_ne, ar_hpa_ne, hpa_hpa, hpf_hpf, nI_1, two_ne, fokZ, implies_true, Nat.reduceEqDiff, rc_0, g_0_13, sf_0_13, fe_0_13, g_0_8, rc_44, g_0_5, rc_30, hF1.len, hs1, c_inSome hs1 (by omega : 2 ^ nU ≤ 32) f1]
    exact cr_ok hS hF1 (by decide) (by decide) (by decide) (by decide) hQ
  · rw [if_neg hp, if_neg hp] at hQ
    simp (maxDischargeDepth := 12) only [w157_0, w157_1, w157_2, w157_5, w157_8, w157_9, w157_12, w157_15, w157_16, w157_17, w157_18, w157_21, w157_22, w157_25, w157_28, w157_29, w157_32, w157_35, oK_some, cont_int, cont_intS, cont_none, cont_noneS, cont_long, cont_longS, true_and, and_true, false_and, and_false, true_implies, false_implies, not_true_eq_false, not_false_eq_true, eq_self, or_true, true_or, Option.isSome_some, hpf_length, hpa_length, bI_eq0, fi_hpa, fl_hpa, ar_hpf, fi_hpf_ne, fl_hpf_ne, ar_hpa_ne, hpa_hpa, hpf_hpf, nI_1, two_ne, fokZ, implies_true, Nat.reduceEqDiff, rc_0, g_0_13, sf_0_13, fe_0_13, g_0_8, rc_44, g_0_5, rc_30, hS, c_slopeTrouble hC, hp, if_false, show ((1 : Int32) = 0) = False from eq_false (by decide)]
    exact cr_no hS hQ
theorem C_surely (hC : CIv H R st n nS nW nG nU nN) (hV : Vf R n) (hQ : CR H Q (if 0 < n then (if (ssM R st n nW nG nU nN (-1) (2 ^ nU)).2.1 = 0 then 0 else (ssM R st n nW nG nU nN (-1) (2 ^ nU)).2.2.2.1) else -1) (if 0 < n then 0 else 1)) : Wp scr (d + 6) 158 0 [some (.ref 0)] [] H Q := by
  have hS := hC.shp
  obtain ⟨c2, c3, c4, c5, c6, c7, b2, b3, b4, b5, b6, b7⟩ := id hC.1.2.1
  have hs0 := sf_0_13 (v := 0) hS
  have hC0 := hC.tr (v := 0)
  have hpw : 2 ^ nU ≤ 2 ^ 5 := p2_lt b6
  by_cases hp : 0 < n
  · rw [if_pos hp, if_pos hp, (ssM_parts b2).2.2.1, (ssM_parts b2).1] at hQ
    simp (maxDischargeDepth := 12) only [w158_0, w158_1, w158_2, w158_5, w158_8, w158_9, w158_12, w158_15, w158_16, w158_17, w158_18, w158_21, w158_22, w158_25, w158_28, w158_29, w158_32, w158_35, oK_some, cont_int, cont_intS, cont_none, cont_noneS, cont_long, cont_longS, true_and, and_true, false_and, and_false, true_implies, false_implies, not_true_eq_false, not_false_eq_true, eq_self, or_true, true_or, Option.isSome_some, hpf_length, hpa_length, bI_eq0, fi_hpa, fl_hpa, ar_hpf, fi_hpf_ne, fl_hpf_ne, ar_hpa_ne, hpa_hpa, hpf_hpf, nI_1, two_ne, fokZ, implies_true, Nat.reduceEqDiff, rc_0, g_0_13, sf_0_13, fe_0_13, g_0_8, rc_44, g_0_5, rc_30, hS, c_slopeTrouble hC, hp, if_true, hs0]
    refine c_find hC0 hV (fun H1 hF1 f1 a1 => ?_)
    have hs1 := hF1.shp
    have hC1 := hC0.1.of hF1 (by decide) (by decide)
    simp (maxDischargeDepth := 12) only [w158_0, w158_1, w158_2, w158_5, w158_8, w158_9, w158_12, w158_15, w158_16, w158_17, w158_18, w158_21, w158_22, w158_25, w158_28, w158_29, w158_32, w158_35, oK_some, cont_int, cont_intS, cont_none, cont_noneS, cont_long, cont_longS, true_and, and_true, false_and, and_false, true_implies, false_implies, not_true_eq_false, not_false_eq_true, eq_self, or_true, true_or, Option.isSome_some, hpf_length, hpa_length, bI_eq0, fi_hpa, fl_hpa, ar_hpf, fi_hpf_ne, fl_hpf_ne, ar_hpa_ne, hpa_hpa, hpf_hpf, nI_1, two_ne, fokZ, implies_true, Nat.reduceEqDiff, rc_0, g_0_13, sf_0_13, fe_0_13, g_0_8, rc_44, g_0_5, rc_30, hF1.len, hs1, c_inAll hC1 (by omega : 2 ^ nU ≤ 32) f1]
    exact cr_ok hS hF1 (by decide) (by decide) (by decide) (by decide) hQ
  · rw [if_neg hp, if_neg hp] at hQ
    simp (maxDischargeDepth := 12) only [w158_0, w158_1, w158_2, w158_5, w158_8, w158_9, w158_12, w158_15, w158_16, w158_17, w158_18, w158_21, w158_22, w158_25, w158_28, w158_29, w158_32, w158_35, oK_some, cont_int, cont_intS, cont_none, cont_noneS, cont_long, cont_longS, true_and, and_true, false_and, and_false, true_implies, false_implies, not_true_eq_false, not_false_eq_true, eq_self, or_true, true_or, Option.isSome_some, hpf_length, hpa_length, bI_eq0, fi_hpa, fl_hpa, ar_hpf, fi_hpf_ne, fl_hpf_ne, ar_hpa_ne, hpa_hpa, hpf_hpf, nI_1, two_ne, fokZ, implies_true, Nat.reduceEqDiff, rc_0, g_0_13, sf_0_13, fe_0_13, g_0_8, rc_44, g_0_5, rc_30, hS, c_slopeTrouble hC, hp, if_false, show ((1 : Int32) = 0) = False from eq_false (by decide)]
    exact cr_no hS hQ
theorem C_setAt {i : Int32} (hC : CIv H R st n nS nW nG nU nN) (hV : Vf R n) (hQ : CR H Q (if 0 < n ∧ 0 ≤ i ∧ 0 ≤ (ssM R st n nW nG nU nN i (2 ^ nU)).1 then (ssM R st n nW nG nU nN i (2 ^ nU)).1 else -1) (if 0 < n ∧ 0 ≤ i ∧ 0 ≤ (ssM R st n nW nG nU nN i (2 ^ nU)).1 then 0 else 1)) : Wp scr (d + 6) 156 0 [some (.ref 0), some (.int i), none] [] H Q := by
  have hS := hC.shp
  obtain ⟨c2, c3, c4, c5, c6, c7, b2, b3, b4, b5, b6, b7⟩ := id hC.1.2.1
  have hs0 := sf_0_13 (v := 0) hS
  have hC0 := hC.tr (v := 0)
  have hpw : 2 ^ nU ≤ 2 ^ 5 := p2_lt b6
  by_cases hp : 0 < n
  · simp (maxDischargeDepth := 12) only [w156_0, w156_1, w156_2, w156_5, w156_8, w156_9, w156_12, w156_15, w156_16, w156_17, w156_18, w156_21, w156_22, w156_25, w156_28, w156_29, w156_32, w156_33, w156_36, w156_37, w156_38, w156_39, w156_40, w156_43, w156_44, w156_47, w156_48, w156_51, w156_52, oK_some, cont_int, cont_intS, cont_none, cont_noneS, cont_long, cont_longS, true_and, and_true, false_and, and_false, true_implies, false_implies, not_true_eq_false, not_false_eq_true, eq_self, or_true, true_or, Option.isSome_some, hpf_length, hpa_length, bI_eq0, fi_hpa, fl_hpa, ar_hpf, fi_hpf_ne, fl_hpf_ne, ar_hpa_ne, hpa_hpa, hpf_hpf, nI_1, two_ne, fokZ, implies_true, Nat.reduceEqDiff, rc_0, g_0_13, sf_0_13, fe_0_13, g_0_8, rc_44, g_0_5, rc_30, hS, c_slopeTrouble hC, hp, if_true, hs0]
    refine c_find hC0 hV (fun H1 hF1 f1 a1 => ?_)
    have hs1 := hF1.shp
    simp (maxDischargeDepth := 12) only [w156_0, w156_1, w156_2, w156_5, w156_8, w156_9, w156_12, w156_15, w156_16, w156_17, w156_18, w156_21, w156_22, w156_25, w156_28, w156_29, w156_32, w156_33, w156_36, w156_37, w156_38, w156_39, w156_40, w156_43, w156_44, w156_47, w156_48, w156_51, w156_52, oK_some, cont_int, cont_intS, cont_none, cont_noneS, cont_long, cont_longS, true_and, and_true, false_and, and_false, true_implies, false_implies, not_true_eq_false, not_false_eq_true, eq_self, or_true, true_or, Option.isSome_some, hpf_length, hpa_length, bI_eq0, fi_hpa, fl_hpa, ar_hpf, fi_hpf_ne, fl_hpf_ne, ar_hpa_ne, hpa_hpa, hpf_hpf, nI_1, two_ne, fokZ, implies_true, Nat.reduceEqDiff, rc_0, g_0_13, sf_0_13, fe_0_13, g_0_8, rc_44, g_0_5, rc_30, hF1.len, hs1, c_fitting hs1 (by omega : 2 ^ nU ≤ 32) f1]
    have hFin : ∀ t : Int32, Fg SC FC H (hpf H1 0 13 (.int t)) := fun t => (((fg_hpf (a := 0) (f := 13) (ci := 11) hS rfl (by decide)) : Fg SC FC _ _).trans (hF1.mono (by decide) (by decide))).trans (fg_hpf (a := 0) (f := 13) (ci := 11) hs1 rfl (by decide))
    by_cases hi : i < 0
    · have hi' : ¬ 0 ≤ i := by rw [Int32.not_le]; exact hi
      rw [if_neg (fun q => hi' q.2.1), if_neg (fun q => hi' q.2.1)] at hQ
      have e : fitAt (fitS R st n nW nG nU nN) (2 ^ nU) i = -1 := by unfold fitAt; rw [if_pos hi]
      simp only [e, oK_some, cont_int, cont_intS, cont_none, cont_noneS, cont_long, cont_longS, true_and, and_true, false_and, and_false, true_implies, false_implies, not_true_eq_false, not_false_eq_true, eq_self, or_true, true_or, Option.isSome_some, hpf_length, hpa_length, bI_eq0, fi_hpa, fl_hpa, ar_hpf, fi_hpf_ne, fl_hpf_ne, ar_hpa_ne, hpa_hpa, hpf_hpf, nI_1, two_ne, fokZ, implies_true, Nat.reduceEqDiff]
      exact hQ _ (hFin _) (fe_0_13 hs1)
    · have hi' : 0 ≤ i := by rw [← Int32.not_lt]; exact hi
      rw [ssM_found b2 b6 hi] at hQ
      rcases fitAt_b (fit := fitS R st n nW nG nU nN) (m := 2 ^ nU) (i := i) (by omega) with e | ⟨s, hs, e⟩
      · rw [e, if_neg (fun q => absurd q.2.2 (by decide)), if_neg (fun q => absurd q.2.2 (by decide))] at hQ
        simp only [e, oK_some, cont_int, cont_intS, cont_none, cont_noneS, cont_long, cont_longS, true_and, and_true, false_and, and_false, true_implies, false_implies, not_true_eq_false, not_false_eq_true, eq_self, or_true, true_or, Option.isSome_some, hpf_length, hpa_length, bI_eq0, fi_hpa, fl_hpa, ar_hpf, fi_hpf_ne, fl_hpf_ne, ar_hpa_ne, hpa_hpa, hpf_hpf, nI_1, two_ne, fokZ, implies_true, Nat.reduceEqDiff]
        exact hQ _ (hFin _) (fe_0_13 hs1)
      · have h0 : (0 : Int32) ≤ nI s := nI_pos' (by omega)
        have h1 : (nI s = (-1 : Int32)) = False := eq_false (fun q => by
          have := congrArg Int32.toInt q
          rw [nI_toInt (by omega), show (-1 : Int32).toInt = -1 by decide] at this
          omega)
        rw [e, if_pos ⟨hp, hi', h0⟩, if_pos ⟨hp, hi', h0⟩] at hQ
        simp only [e, h1, oK_some, cont_int, cont_intS, cont_none, cont_noneS, cont_long, cont_longS, true_and, and_true, false_and, and_false, true_implies, false_implies, not_true_eq_false, not_false_eq_true, eq_self, or_true, true_or, Option.isSome_some, hpf_length, hpa_length, bI_eq0, fi_hpa, fl_hpa, ar_hpf, fi_hpf_ne, fl_hpf_ne, ar_hpa_ne, hpa_hpa, hpf_hpf, nI_1, two_ne, fokZ, implies_true, Nat.reduceEqDiff]
        exact hQ _ (hFin _) (fe_0_13 hs1)
  · rw [if_neg (fun q => hp q.1), if_neg (fun q => hp q.1)] at hQ
    simp (maxDischargeDepth := 12) only [w156_0, w156_1, w156_2, w156_5, w156_8, w156_9, w156_12, w156_15, w156_16, w156_17, w156_18, w156_21, w156_22, w156_25, w156_28, w156_29, w156_32, w156_33, w156_36, w156_37, w156_38, w156_39, w156_40, w156_43, w156_44, w156_47, w156_48, w156_51, w156_52, oK_some, cont_int, cont_intS, cont_none, cont_noneS, cont_long, cont_longS, true_and, and_true, false_and, and_false, true_implies, false_implies, not_true_eq_false, not_false_eq_true, eq_self, or_true, true_or, Option.isSome_some, hpf_length, hpa_length, bI_eq0, fi_hpa, fl_hpa, ar_hpf, fi_hpf_ne, fl_hpf_ne, ar_hpa_ne, hpa_hpa, hpf_hpf, nI_1, two_ne, fokZ, implies_true, Nat.reduceEqDiff, rc_0, g_0_13, sf_0_13, fe_0_13, g_0_8, rc_44, g_0_5, rc_30, hS, c_slopeTrouble hC, hp, if_false, show ((1 : Int32) = 0) = False from eq_false (by decide)]
    exact cr_no hS hQ
theorem C_look (hC : CIv H R st n nS nW nG nU nN) (hV : Vf R n) (hQ : CR H Q (if 0 < n then (lkM (ssM R st n nW nG nU nN (-1) (2 ^ nU)).2.2.2.2 (ssM R st n nW nG nU nN (-1) (2 ^ nU)).2.1 n).1 else -1) (if 0 < n then 0 else 1)) : Wp scr (d + 6) 159 0 [some (.ref 0)] [] H Q := by
  have hS := hC.shp
  obtain ⟨c2, c3, c4, c5, c6, c7, b2, b3, b4, b5, b6, b7⟩ := id hC.1.2.1
  have hs0 := sf_0_13 (v := 0) hS
  have hC0 := hC.tr (v := 0)
  have hpw : 2 ^ nU ≤ 2 ^ 5 := p2_lt b6
  by_cases hp : 0 < n
  · rw [if_pos hp, if_pos hp, (ssM_parts b2).2.2.2, (ssM_parts b2).1] at hQ
    simp (maxDischargeDepth := 12) only [w159_0, w159_1, w159_2, w159_5, w159_8, w159_9, w159_12, w159_15, w159_16, w159_17, w159_18, w159_21, w159_22, w159_25, w159_28, w159_29, w159_32, w159_35, w159_36, w159_39, w159_42, oK_some, cont_int, cont_intS, cont_none, cont_noneS, cont_long, cont_longS, true_and, and_true, false_and, and_false, true_implies, false_implies, not_true_eq_false, not_false_eq_true, eq_self, or_true, true_or, Option.isSome_some, hpf_length, hpa_length, bI_eq0, fi_hpa, fl_hpa, ar_hpf, fi_hpf_ne, fl_hpf_ne, ar_hpa_ne, hpa_hpa, hpf_hpf, nI_1, two_ne, fokZ, implies_true, Nat.reduceEqDiff, rc_0, g_0_13, sf_0_13, fe_0_13, g_0_8, rc_44, g_0_5, rc_30, hS, c_slopeTrouble hC, hp, if_true, hs0]
    refine c_find hC0 hV (fun H1 hF1 f1 a1 => ?_)
    have hs1 := hF1.shp
    have hC1 := hC0.1.of hF1 (by decide) (by decide)
    simp (maxDischargeDepth := 12) only [w159_0, w159_1, w159_2, w159_5, w159_8, w159_9, w159_12, w159_15, w159_16, w159_17, w159_18, w159_21, w159_22, w159_25, w159_28, w159_29, w159_32, w159_35, w159_36, w159_39, w159_42, oK_some, cont_int, cont_intS, cont_none, cont_noneS, cont_long, cont_longS, true_and, and_true, false_and, and_false, true_implies, false_implies, not_true_eq_false, not_false_eq_true, eq_self, or_true, true_or, Option.isSome_some, hpf_length, hpa_length, bI_eq0, fi_hpa, fl_hpa, ar_hpf, fi_hpf_ne, fl_hpf_ne, ar_hpa_ne, hpa_hpa, hpf_hpf, nI_1, two_ne, fokZ, implies_true, Nat.reduceEqDiff, rc_0, g_0_13, sf_0_13, fe_0_13, g_0_8, rc_44, g_0_5, rc_30, hF1.len, hs1]
    refine c_seekLook hC1 (by omega : 2 ^ nU ≤ 32) f1 a1 rfl (fun q hq => fsD_b hq (2 ^ nU)) (fun H2 hF2 g6 g7 => ?_)
    have hs2 := hF2.shp
    have hF3 := hF1.trans (hF2.mono (T := [33, 34, 36, 38, 40, 42, 44, 45, 47, 49, 51]) (G := []) (by decide) (by decide))
    simp (maxDischargeDepth := 12) only [w159_0, w159_1, w159_2, w159_5, w159_8, w159_9, w159_12, w159_15, w159_16, w159_17, w159_18, w159_21, w159_22, w159_25, w159_28, w159_29, w159_32, w159_35, w159_36, w159_39, w159_42, oK_some, cont_int, cont_intS, cont_none, cont_noneS, cont_long, cont_longS, true_and, and_true, false_and, and_false, true_implies, false_implies, not_true_eq_false, not_false_eq_true, eq_self, or_true, true_or, Option.isSome_some, hpf_length, hpa_length, bI_eq0, fi_hpa, fl_hpa, ar_hpf, fi_hpf_ne, fl_hpf_ne, ar_hpa_ne, hpa_hpa, hpf_hpf, nI_1, two_ne, fokZ, implies_true, Nat.reduceEqDiff, rc_0, g_0_13, sf_0_13, fe_0_13, g_0_8, rc_44, g_0_5, rc_30, w82_0, w82_1, w82_4, hF2.len, hs2, g_44_6, g6]
    exact cr_ok hS hF3 (by decide) (by decide) (by decide) (by decide) hQ
  · rw [if_neg hp, if_neg hp] at hQ
    simp (maxDischargeDepth := 12) only [w159_0, w159_1, w159_2, w159_5, w159_8, w159_9, w159_12, w159_15, w159_16, w159_17, w159_18, w159_21, w159_22, w159_25, w159_28, w159_29, w159_32, w159_35, w159_36, w159_39, w159_42, oK_some, cont_int, cont_intS, cont_none, cont_noneS, cont_long, cont_longS, true_and, and_true, false_and, and_false, true_implies, false_implies, not_true_eq_false, not_false_eq_true, eq_self, or_true, true_or, Option.isSome_some, hpf_length, hpa_length, bI_eq0, fi_hpa, fl_hpa, ar_hpf, fi_hpf_ne, fl_hpf_ne, ar_hpa_ne, hpa_hpa, hpf_hpf, nI_1, two_ne, fokZ, implies_true, Nat.reduceEqDiff, rc_0, g_0_13, sf_0_13, fe_0_13, g_0_8, rc_44, g_0_5, rc_30, hS, c_slopeTrouble hC, hp, if_false, show ((1 : Int32) = 0) = False from eq_false (by decide)]
    exact cr_no hS hQ
theorem C_lookLeaves (hC : CIv H R st n nS nW nG nU nN) (hV : Vf R n) (hQ : CR H Q (if 0 < n then (lkM (ssM R st n nW nG nU nN (-1) (2 ^ nU)).2.2.2.2 (ssM R st n nW nG nU nN (-1) (2 ^ nU)).2.1 n).2 else -1) (if 0 < n then 0 else 1)) : Wp scr (d + 6) 160 0 [some (.ref 0)] [] H Q := by
  have hS := hC.shp
  obtain ⟨c2, c3, c4, c5, c6, c7, b2, b3, b4, b5, b6, b7⟩ := id hC.1.2.1
  have hs0 := sf_0_13 (v := 0) hS
  have hC0 := hC.tr (v := 0)
  have hpw : 2 ^ nU ≤ 2 ^ 5 := p2_lt b6
  by_cases hp : 0 < n
  · rw [if_pos hp, if_pos hp, (ssM_parts b2).2.2.2, (ssM_parts b2).1] at hQ
    simp (maxDischargeDepth := 12) only [w160_0, w160_1, w160_2, w160_5, w160_8, w160_9, w160_12, w160_15, w160_16, w160_17, w160_18, w160_21, w160_22, w160_25, w160_28, w160_29, w160_32, w160_35, w160_36, w160_39, w160_42, oK_some, cont_int, cont_intS, cont_none, cont_noneS, cont_long, cont_longS, true_and, and_true, false_and, and_false, true_implies, false_implies, not_true_eq_false, not_false_eq_true, eq_self, or_true, true_or, Option.isSome_some, hpf_length, hpa_length, bI_eq0, fi_hpa, fl_hpa, ar_hpf, fi_hpf_ne, fl_hpf_ne, ar_hpa_ne, hpa_hpa, hpf_hpf, nI_1, two_ne, fokZ, implies_true, Nat.reduceEqDiff, rc_0, g_0_13, sf_0_13, fe_0_13, g_0_8, rc_44, g_0_5, rc_30, hS, c_slopeTrouble hC, hp, if_true, hs0]
    refine c_find hC0 hV (fun H1 hF1 f1 a1 => ?_)
    have hs1 := hF1.shp
    have hC1 := hC0.1.of hF1 (by decide) (by decide)
    simp (maxDischargeDepth := 12) only [w160_0, w160_1, w160_2, w160_5, w160_8, w160_9, w160_12, w160_15, w160_16, w160_17, w160_18, w160_21, w160_22, w160_25, w160_28, w160_29, w160_32, w160_35, w160_36, w160_39, w160_42, oK_some, cont_int, cont_intS, cont_none, cont_noneS, cont_long, cont_longS, true_and, and_true, false_and, and_false, true_implies, false_implies, not_true_eq_false, not_false_eq_true, eq_self, or_true, true_or, Option.isSome_some, hpf_length, hpa_length, bI_eq0, fi_hpa, fl_hpa, ar_hpf, fi_hpf_ne, fl_hpf_ne, ar_hpa_ne, hpa_hpa, hpf_hpf, nI_1, two_ne, fokZ, implies_true, Nat.reduceEqDiff, rc_0, g_0_13, sf_0_13, fe_0_13, g_0_8, rc_44, g_0_5, rc_30, hF1.len, hs1]
    refine c_seekLook hC1 (by omega : 2 ^ nU ≤ 32) f1 a1 rfl (fun q hq => fsD_b hq (2 ^ nU)) (fun H2 hF2 g6 g7 => ?_)
    have hs2 := hF2.shp
    have hF3 := hF1.trans (hF2.mono (T := [33, 34, 36, 38, 40, 42, 44, 45, 47, 49, 51]) (G := []) (by decide) (by decide))
    simp (maxDischargeDepth := 12) only [w160_0, w160_1, w160_2, w160_5, w160_8, w160_9, w160_12, w160_15, w160_16, w160_17, w160_18, w160_21, w160_22, w160_25, w160_28, w160_29, w160_32, w160_35, w160_36, w160_39, w160_42, oK_some, cont_int, cont_intS, cont_none, cont_noneS, cont_long, cont_longS, true_and, and_true, false_and, and_false, true_implies, false_implies, not_true_eq_false, not_false_eq_true, eq_self, or_true, true_or, Option.isSome_some, hpf_length, hpa_length, bI_eq0, fi_hpa, fl_hpa, ar_hpf, fi_hpf_ne, fl_hpf_ne, ar_hpa_ne, hpa_hpa, hpf_hpf, nI_1, two_ne, fokZ, implies_true, Nat.reduceEqDiff, rc_0, g_0_13, sf_0_13, fe_0_13, g_0_8, rc_44, g_0_5, rc_30, w83_0, w83_1, w83_4, hF2.len, hs2, g_44_7, g7]
    exact cr_ok hS hF3 (by decide) (by decide) (by decide) (by decide) hQ
  · rw [if_neg hp, if_neg hp] at hQ
    simp (maxDischargeDepth := 12) only [w160_0, w160_1, w160_2, w160_5, w160_8, w160_9, w160_12, w160_15, w160_16, w160_17, w160_18, w160_21, w160_22, w160_25, w160_28, w160_29, w160_32, w160_35, w160_36, w160_39, w160_42, oK_some, cont_int, cont_intS, cont_none, cont_noneS, cont_long, cont_longS, true_and, and_true, false_and, and_false, true_implies, false_implies, not_true_eq_false, not_false_eq_true, eq_self, or_true, true_or, Option.isSome_some, hpf_length, hpa_length, bI_eq0, fi_hpa, fl_hpa, ar_hpf, fi_hpf_ne, fl_hpf_ne, ar_hpa_ne, hpa_hpa, hpf_hpf, nI_1, two_ne, fokZ, implies_true, Nat.reduceEqDiff, rc_0, g_0_13, sf_0_13, fe_0_13, g_0_8, rc_44, g_0_5, rc_30, hS, c_slopeTrouble hC, hp, if_false, show ((1 : Int32) = 0) = False from eq_false (by decide)]
    exact cr_no hS hQ
theorem C_judge (hC : CIv H R st n nS nW nG nU nN) (hV : Vf R n) (hQ : CR H Q (if 0 < n then wsM R nN (dOn R st n nW nG nU (allU nU)) else -1) (if 0 < n then 0 else 1)) : Wp scr (d + 5) 161 0 [some (.ref 0)] [] H Q := by
  have hS := hC.shp
  obtain ⟨c2, c3, c4, c5, c6, c7, b2, b3, b4, b5, b6, b7⟩ := id hC.1.2.1
  have hs0 := sf_0_13 (v := 0) hS
  have hC0 := hC.tr (v := 0)
  by_cases hp : 0 < n
  · rw [if_pos hp, if_pos hp] at hQ
    have c6' := hC0.1.2.1.2.2.2.2.1
    simp (maxDischargeDepth := 12) only [w161_0, w161_1, w161_2, w161_5, w161_8, w161_9, w161_12, w161_15, w161_16, w161_17, w161_18, w161_21, w161_22, w161_25, w161_26, w161_27, w161_30, w161_33, w161_36, w161_37, w161_38, w161_39, w161_42, w161_43, w161_46, w161_49, oK_some, cont_int, cont_intS, cont_none, cont_noneS, cont_long, cont_longS, true_and, and_true, false_and, and_false, true_implies, false_implies, not_true_eq_false, not_false_eq_true, eq_self, or_true, true_or, Option.isSome_some, hpf_length, hpa_length, bI_eq0, fi_hpa, fl_hpa, ar_hpf, fi_hpf_ne, fl_hpf_ne, ar_hpa_ne, hpa_hpa, hpf_hpf, nI_1, two_ne, fokZ, implies_true, Nat.reduceEqDiff, rc_0, g_0_13, sf_0_13, fe_0_13, g_0_8, rc_44, g_0_5, rc_30, g_0_2, rc_3, g_3_6, rc_12, g_16_6, rc_25, rc_4, rc_6, rc_8, rc_10, rc_14, rc_17, rc_19, rc_21, rc_23, rc_27, hS, c_slopeTrouble hC, hp, if_true, hs0, c_Table_count (g_12_2 hs0), c6]
    refine c_follow (rum := allU nU) hC0 hV (fun H1 hF1 a1 => ?_)
    have hs1 := hF1.shp
    have hC1 := hC0.1.of hF1 (by decide) (by decide)
    simp (maxDischargeDepth := 12) only [w161_0, w161_1, w161_2, w161_5, w161_8, w161_9, w161_12, w161_15, w161_16, w161_17, w161_18, w161_21, w161_22, w161_25, w161_26, w161_27, w161_30, w161_33, w161_36, w161_37, w161_38, w161_39, w161_42, w161_43, w161_46, w161_49, oK_some, cont_int, cont_intS, cont_none, cont_noneS, cont_long, cont_longS, true_and, and_true, false_and, and_false, true_implies, false_implies, not_true_eq_false, not_false_eq_true, eq_self, or_true, true_or, Option.isSome_some, hpf_length, hpa_length, bI_eq0, fi_hpa, fl_hpa, ar_hpf, fi_hpf_ne, fl_hpf_ne, ar_hpa_ne, hpa_hpa, hpf_hpf, nI_1, two_ne, fokZ, implies_true, Nat.reduceEqDiff, rc_0, g_0_13, sf_0_13, fe_0_13, g_0_8, rc_44, g_0_5, rc_30, g_0_2, rc_3, g_3_6, rc_12, g_16_6, rc_25, rc_4, rc_6, rc_8, rc_10, rc_14, rc_17, rc_19, rc_21, rc_23, rc_27, hF1.len, hs1, c_firstWrong hC1 a1]
    exact cr_ok hS hF1 (by decide) (by decide) (by decide) (by decide) hQ
  · rw [if_neg hp, if_neg hp] at hQ
    simp (maxDischargeDepth := 12) only [w161_0, w161_1, w161_2, w161_5, w161_8, w161_9, w161_12, w161_15, w161_16, w161_17, w161_18, w161_21, w161_22, w161_25, w161_26, w161_27, w161_30, w161_33, w161_36, w161_37, w161_38, w161_39, w161_42, w161_43, w161_46, w161_49, oK_some, cont_int, cont_intS, cont_none, cont_noneS, cont_long, cont_longS, true_and, and_true, false_and, and_false, true_implies, false_implies, not_true_eq_false, not_false_eq_true, eq_self, or_true, true_or, Option.isSome_some, hpf_length, hpa_length, bI_eq0, fi_hpa, fl_hpa, ar_hpf, fi_hpf_ne, fl_hpf_ne, ar_hpa_ne, hpa_hpa, hpf_hpf, nI_1, two_ne, fokZ, implies_true, Nat.reduceEqDiff, rc_0, g_0_13, sf_0_13, fe_0_13, g_0_8, rc_44, g_0_5, rc_30, g_0_2, rc_3, g_3_6, rc_12, g_16_6, rc_25, rc_4, rc_6, rc_8, rc_10, rc_14, rc_17, rc_19, rc_21, rc_23, rc_27, hS, c_slopeTrouble hC, hp, if_false, show ((1 : Int32) = 0) = False from eq_false (by decide)]
    exact cr_no hS hQ
end CSRC3
