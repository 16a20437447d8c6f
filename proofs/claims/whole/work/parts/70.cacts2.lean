/-! ===== the class: images, led, size, trouble, feed ===== -/
section CACTS2
variable {S : List Nat} {F : List (Nat × Nat)} {scr : List Int32} {d n nS nW nG nU nN : Nat} {H H' : List AC} {R st ws : List Int32} {Us Ks : List (List Int32)} {Q : Option Value → List AC → Prop}
theorem C_image (hC : CIv H R st n nS nW nG nU nN) (hU : CUn H Us n) (hK : CIm H Ks n) (hQ : CA H Q n (if imT n Ks = 0 then nI Ks.length else -1) (imT n Ks) st Us (if imT n Ks = 0 then Ks ++ [st] else Ks)) : Wp scr (d + 2) 178 0 [some (.ref 0), none] [] H Q := by
  have hS := hC.shp
  obtain ⟨c2, c3, c4, c5, c6, c7, b2, b3, b4, b5, b6, b7⟩ := id hC.1.2.1
  have hs0 := sf_0_13 (v := 0) hS
  have hC0 := hC.tr (v := 0)
  obtain ⟨k0, k3, k2, kl, ks⟩ := id hK
  have e3 : (nI Ks.length < nI 3) = (Ks.length < 3) := propext (nI_ltI (by omega) (by decide))
  by_cases hp : 0 < n
  · by_cases h3 : Ks.length = 3
    · have e : imT n Ks = 3 := by unfold imT; rw [if_pos hp, if_pos h3]
      rw [e, if_neg (by decide), if_neg (by decide)] at hQ
      have h3' : ¬ Ks.length < 3 := by omega
      simp (maxDischargeDepth := 12) only [w178_0, w178_1, w178_2, w178_5, w178_8, w178_9, w178_12, w178_13, w178_16, w178_19, w178_22, w178_23, w178_26, w178_27, w178_30, w178_31, w178_34, w178_37, w178_38, w178_39, w178_40, w178_43, w178_46, w178_47, w178_48, w178_51, w178_52, w178_55, w178_58, w178_59, oK_some, cont_int, cont_intS, cont_none, cont_noneS, cont_long, cont_longS, true_and, and_true, false_and, and_false, true_implies, false_implies, not_true_eq_false, not_false_eq_true, eq_self, or_true, true_or, Option.isSome_some, hpf_length, hpa_length, bI_eq0, fi_hpa, fl_hpa, ar_hpf, fi_hpf_ne, fl_hpf_ne, ar_hpa_ne, hpa_hpa, hpf_hpf, nI_1, two_ne, fokZ, implies_true, Nat.reduceEqDiff, rc_0, g_0_12, rc_65, rc_62, g_0_13, sf_0_13, fe_0_13, g_0_5, rc_30, w55_0, w55_1, w55_4, w55_5, w55_8, w55_11, w55_12, w55_15, w55_16, oK_some, cont_int, cont_intS, cont_none, cont_noneS, cont_long, cont_longS, true_and, and_true, false_and, and_false, true_implies, false_implies, not_true_eq_false, not_false_eq_true, eq_self, or_true, true_or, Option.isSome_some, hpf_length, hpa_length, bI_eq0, fi_hpa, fl_hpa, ar_hpf, fi_hpf_ne, fl_hpf_ne, ar_hpa_ne, hpa_hpa, hpf_hpf, nI_1, two_ne, fokZ, implies_true, Nat.reduceEqDiff, g_62_2, sf_62_2, fe_62_2, g_65_2, sf_65_2, fe_65_2, g_62_0, sf_62_0, fe_62_0, g_65_0, sf_65_0, fe_65_0, hS, c_slopeTrouble hC, hp, if_true, k0, k2, e3, h3', show ((3 : Int32) = 0) = False from eq_false (by decide), show ((1 : Int32) = 0) = False from eq_false (by decide)]
      exact ca_no hC hU hK hQ
    · have e : imT n Ks = 0 := by unfold imT; rw [if_pos hp, if_neg h3]
      rw [e, if_pos rfl, if_pos rfl] at hQ
      have h3' : Ks.length < 3 := by omega
      have hF0 : Fg [] [(0, 13)] H (hpf H 0 13 (.int 0)) := (fg_hpf (a := 0) (f := 13) (ci := 11) hS rfl (by decide))
      obtain ⟨j0, j3, j2, jl, js⟩ := hK.of hF0 (by decide) (by decide) (by decide)
      simp (maxDischargeDepth := 12) only [w178_0, w178_1, w178_2, w178_5, w178_8, w178_9, w178_12, w178_13, w178_16, w178_19, w178_22, w178_23, w178_26, w178_27, w178_30, w178_31, w178_34, w178_37, w178_38, w178_39, w178_40, w178_43, w178_46, w178_47, w178_48, w178_51, w178_52, w178_55, w178_58, w178_59, oK_some, cont_int, cont_intS, cont_none, cont_noneS, cont_long, cont_longS, true_and, and_true, false_and, and_false, true_implies, false_implies, not_true_eq_false, not_false_eq_true, eq_self, or_true, true_or, Option.isSome_some, hpf_length, hpa_length, bI_eq0, fi_hpa, fl_hpa, ar_hpf, fi_hpf_ne, fl_hpf_ne, ar_hpa_ne, hpa_hpa, hpf_hpf, nI_1, two_ne, fokZ, implies_true, Nat.reduceEqDiff, rc_0, g_0_12, rc_65, rc_62, g_0_13, sf_0_13, fe_0_13, g_0_5, rc_30, w55_0, w55_1, w55_4, w55_5, w55_8, w55_11, w55_12, w55_15, w55_16, oK_some, cont_int, cont_intS, cont_none, cont_noneS, cont_long, cont_longS, true_and, and_true, false_and, and_false, true_implies, false_implies, not_true_eq_false, not_false_eq_true, eq_self, or_true, true_or, Option.isSome_some, hpf_length, hpa_length, bI_eq0, fi_hpa, fl_hpa, ar_hpf, fi_hpf_ne, fl_hpf_ne, ar_hpa_ne, hpa_hpa, hpf_hpf, nI_1, two_ne, fokZ, implies_true, Nat.reduceEqDiff, g_62_2, sf_62_2, fe_62_2, g_65_2, sf_65_2, fe_65_2, g_62_0, sf_62_0, fe_62_0, g_65_0, sf_65_0, fe_65_0, w54_0, w54_1, w54_4, oK_some, cont_int, cont_intS, cont_none, cont_noneS, cont_long, cont_longS, true_and, and_true, false_and, and_false, true_implies, false_implies, not_true_eq_false, not_false_eq_true, eq_self, or_true, true_or, Option.isSome_some, hpf_length, hpa_length, bI_eq0, fi_hpa, fl_hpa, ar_hpf, fi_hpf_ne, fl_hpf_ne, ar_hpa_ne, hpa_hpa, hpf_hpf, nI_1, two_ne, fokZ, implies_true, Nat.reduceEqDiff, g_62_2, sf_62_2, fe_62_2, g_65_2, sf_65_2, fe_65_2, hS, c_slopeTrouble hC, hp, if_true, k0, k2, e3, h3', hs0]
      refine c_keep65 hs0 hC0.2.1 b2 j0 j3 j2 (Nat.mod_lt _ (by decide)) jl (fun H2 hF2 f3 f2 hs hq => ?_)
      have hs2 := hF2.shp
      rw [Nat.mod_eq_of_lt h3'] at hs hq f3
      simp (maxDischargeDepth := 12) only [w178_0, w178_1, w178_2, w178_5, w178_8, w178_9, w178_12, w178_13, w178_16, w178_19, w178_22, w178_23, w178_26, w178_27, w178_30, w178_31, w178_34, w178_37, w178_38, w178_39, w178_40, w178_43, w178_46, w178_47, w178_48, w178_51, w178_52, w178_55, w178_58, w178_59, oK_some, cont_int, cont_intS, cont_none, cont_noneS, cont_long, cont_longS, true_and, and_true, false_and, and_false, true_implies, false_implies, not_true_eq_false, not_false_eq_true, eq_self, or_true, true_or, Option.isSome_some, hpf_length, hpa_length, bI_eq0, fi_hpa, fl_hpa, ar_hpf, fi_hpf_ne, fl_hpf_ne, ar_hpa_ne, hpa_hpa, hpf_hpf, nI_1, two_ne, fokZ, implies_true, Nat.reduceEqDiff, rc_0, g_0_12, rc_65, rc_62, g_0_13, sf_0_13, fe_0_13, g_0_5, rc_30, w55_0, w55_1, w55_4, w55_5, w55_8, w55_11, w55_12, w55_15, w55_16, oK_some, cont_int, cont_intS, cont_none, cont_noneS, cont_long, cont_longS, true_and, and_true, false_and, and_false, true_implies, false_implies, not_true_eq_false, not_false_eq_true, eq_self, or_true, true_or, Option.isSome_some, hpf_length, hpa_length, bI_eq0, fi_hpa, fl_hpa, ar_hpf, fi_hpf_ne, fl_hpf_ne, ar_hpa_ne, hpa_hpa, hpf_hpf, nI_1, two_ne, fokZ, implies_true, Nat.reduceEqDiff, g_62_2, sf_62_2, fe_62_2, g_65_2, sf_65_2, fe_65_2, g_62_0, sf_62_0, fe_62_0, g_65_0, sf_65_0, fe_65_0, w54_0, w54_1, w54_4, oK_some, cont_int, cont_intS, cont_none, cont_noneS, cont_long, cont_longS, true_and, and_true, false_and, and_false, true_implies, false_implies, not_true_eq_false, not_false_eq_true, eq_self, or_true, true_or, Option.isSome_some, hpf_length, hpa_length, bI_eq0, fi_hpa, fl_hpa, ar_hpf, fi_hpf_ne, fl_hpf_ne, ar_hpa_ne, hpa_hpa, hpf_hpf, nI_1, two_ne, fokZ, implies_true, Nat.reduceEqDiff, g_62_2, sf_62_2, fe_62_2, g_65_2, sf_65_2, fe_65_2, hF2.len]
      refine hQ H2 ((hF0.mono (by decide) (by decide)).trans (hF2.mono (by decide) (by decide))) ?_ (hC0.2.1.of hF2 (by decide) (by decide) (by decide)) ((hU.of hF0 (by decide) (by decide) (by decide)).of hF2 (by decide) (by decide) (by decide)) ⟨?_, ?_, ?_, ?_, ?_⟩
      · rw [hF2.int (by decide) (by decide), fe_0_13 hS]
      · rw [hF2.int (by decide) (by decide), j0]
      · rw [f3, List.length_append]; rfl
      · rw [f2, List.length_append, List.length_singleton]; congr 1; omega
      · rw [List.length_append, List.length_singleton]; omega
      · intro i hi
        rw [List.length_append, List.length_singleton] at hi
        by_cases e : i = Ks.length
        · subst e
          rw [getD_appr]
          exact hs
        · rw [getD_app (by omega)]
          exact (js i (by omega)).cg b2 (fun q q1 q2 => hq q (by omega))
  · have e : imT n Ks = 1 := by unfold imT; rw [if_neg hp]
    rw [e, if_neg (by decide), if_neg (by decide)] at hQ
    simp (maxDischargeDepth := 12) only [w178_0, w178_1, w178_2, w178_5, w178_8, w178_9, w178_12, w178_13, w178_16, w178_19, w178_22, w178_23, w178_26, w178_27, w178_30, w178_31, w178_34, w178_37, w178_38, w178_39, w178_40, w178_43, w178_46, w178_47, w178_48, w178_51, w178_52, w178_55, w178_58, w178_59, oK_some, cont_int, cont_intS, cont_none, cont_noneS, cont_long, cont_longS, true_and, and_true, false_and, and_false, true_implies, false_implies, not_true_eq_false, not_false_eq_true, eq_self, or_true, true_or, Option.isSome_some, hpf_length, hpa_length, bI_eq0, fi_hpa, fl_hpa, ar_hpf, fi_hpf_ne, fl_hpf_ne, ar_hpa_ne, hpa_hpa, hpf_hpf, nI_1, two_ne, fokZ, implies_true, Nat.reduceEqDiff, rc_0, g_0_12, rc_65, rc_62, g_0_13, sf_0_13, fe_0_13, g_0_5, rc_30, hS, c_slopeTrouble hC, hp, if_false, show ((1 : Int32) = 0) = False from eq_false (by decide)]
    exact ca_no hC hU hK hQ
theorem C_back {i : Int32} (hC : CIv H R st n nS nW nG nU nN) (hU : CUn H Us n) (hK : CIm H Ks n) (hQ : CA H Q n (bI (decide (0 ≤ i ∧ i < nI Ks.length))) (if 0 ≤ i ∧ i < nI Ks.length then 0 else 1) (if 0 ≤ i ∧ i < nI Ks.length then Ks.getD i.toNatClampNeg [] else st) (if 0 ≤ i ∧ i < nI Ks.length then [] else Us) Ks) : Wp scr (d + 2) 179 0 [some (.ref 0), some (.int i), none] [] H Q := by
  have hS := hC.shp
  obtain ⟨c2, c3, c4, c5, c6, c7, b2, b3, b4, b5, b6, b7⟩ := id hC.1.2.1
  have hs0 := sf_0_13 (v := 0) hS
  have hC0 := hC.tr (v := 0)
  obtain ⟨k0, k3, k2, kl, ks⟩ := id hK
  have e1 : 0 ≤ i ↔ ¬ i < 0 := by rw [Int32.not_lt]
  have e2 : i < nI Ks.length ↔ ¬ nI Ks.length ≤ i := by rw [Int32.not_le]
  by_cases hc : 0 ≤ i ∧ i < nI Ks.length
  · rw [if_pos hc, if_pos hc, if_pos hc, decide_eq_true hc] at hQ
    obtain ⟨ei, li⟩ := of_row hc (by omega)
    have w1 : (i < 0) = False := eq_false (e1.mp hc.1)
    have w2 : (nI Ks.length ≤ i) = False := eq_false (e2.mp hc.2)
    have hF0 : Fg [] [(0, 13)] H (hpf H 0 13 (.int 0)) := (fg_hpf (a := 0) (f := 13) (ci := 11) hS rfl (by decide))
    obtain ⟨j0, j3, j2, jl, js⟩ := hK.of hF0 (by decide) (by decide) (by decide)
    simp (maxDischargeDepth := 12) only [w179_0, w179_1, w179_4, w179_5, w179_6, w179_9, w179_12, w179_15, w179_16, w179_19, w179_20, w179_21, w179_22, w179_23, w179_26, w179_27, w179_30, w179_31, w179_34, w179_35, w179_38, w179_39, w179_42, w179_43, w179_44, w179_47, w179_50, w179_51, w179_54, w179_57, w179_58, oK_some, cont_int, cont_intS, cont_none, cont_noneS, cont_long, cont_longS, true_and, and_true, false_and, and_false, true_implies, false_implies, not_true_eq_false, not_false_eq_true, eq_self, or_true, true_or, Option.isSome_some, hpf_length, hpa_length, bI_eq0, fi_hpa, fl_hpa, ar_hpf, fi_hpf_ne, fl_hpf_ne, ar_hpa_ne, hpa_hpa, hpf_hpf, nI_1, two_ne, fokZ, implies_true, Nat.reduceEqDiff, g_0_12, rc_65, rc_62, g_0_13, sf_0_13, fe_0_13, g_0_5, rc_30, g_0_11, w54_0, w54_1, w54_4, oK_some, cont_int, cont_intS, cont_none, cont_noneS, cont_long, cont_longS, true_and, and_true, false_and, and_false, true_implies, false_implies, not_true_eq_false, not_false_eq_true, eq_self, or_true, true_or, Option.isSome_some, hpf_length, hpa_length, bI_eq0, fi_hpa, fl_hpa, ar_hpf, fi_hpf_ne, fl_hpf_ne, ar_hpa_ne, hpa_hpa, hpf_hpf, nI_1, two_ne, fokZ, implies_true, Nat.reduceEqDiff, g_62_2, sf_62_2, fe_62_2, g_65_2, sf_65_2, fe_65_2, hS, k2, w1, w2, hs0, show ((1 : Int32) = 0) = False from eq_false (by decide)]
    generalize i.toNatClampNeg = ii at ei li hQ
    subst ei
    refine c_read65 hs0 (by omega) (js ii li) b2 (fun H2 hF2 hN2 => ?_)
    have hs2 := hF2.shp
    have t2 := sf_62_2 (v := 0) hs2
    simp (maxDischargeDepth := 12) only [w179_0, w179_1, w179_4, w179_5, w179_6, w179_9, w179_12, w179_15, w179_16, w179_19, w179_20, w179_21, w179_22, w179_23, w179_26, w179_27, w179_30, w179_31, w179_34, w179_35, w179_38, w179_39, w179_42, w179_43, w179_44, w179_47, w179_50, w179_51, w179_54, w179_57, w179_58, oK_some, cont_int, cont_intS, cont_none, cont_noneS, cont_long, cont_longS, true_and, and_true, false_and, and_false, true_implies, false_implies, not_true_eq_false, not_false_eq_true, eq_self, or_true, true_or, Option.isSome_some, hpf_length, hpa_length, bI_eq0, fi_hpa, fl_hpa, ar_hpf, fi_hpf_ne, fl_hpf_ne, ar_hpa_ne, hpa_hpa, hpf_hpf, nI_1, two_ne, fokZ, implies_true, Nat.reduceEqDiff, g_0_12, rc_65, rc_62, g_0_13, sf_0_13, fe_0_13, g_0_5, rc_30, g_0_11, w56_0, w56_1, w56_2, w56_5, w56_6, w56_7, w56_10, oK_some, cont_int, cont_intS, cont_none, cont_noneS, cont_long, cont_longS, true_and, and_true, false_and, and_false, true_implies, false_implies, not_true_eq_false, not_false_eq_true, eq_self, or_true, true_or, Option.isSome_some, hpf_length, hpa_length, bI_eq0, fi_hpa, fl_hpa, ar_hpf, fi_hpf_ne, fl_hpf_ne, ar_hpa_ne, hpa_hpa, hpf_hpf, nI_1, two_ne, fokZ, implies_true, Nat.reduceEqDiff, g_62_2, sf_62_2, fe_62_2, g_65_2, sf_65_2, fe_65_2, g_62_3, sf_62_3, fe_62_3, g_65_3, sf_65_3, fe_65_3, hF2.len, hs2, t2]
    have hF3 : Fg [] [(62, 2), (62, 3)] H2 (hpf (hpf H2 62 2 (.int 0)) 62 3 (.int 0)) := ((fg_hpf (a := 62) (f := 2) (ci := 5) hs2 rfl (by decide))).trans (fg_hpf (a := 62) (f := 3) (ci := 5) t2 rfl (by decide))
    refine hQ _ (((hF0.mono (by decide) (by decide)).trans (hF2.mono (by decide) (by decide))).trans (hF3.mono (by decide) (by decide))) ?_ (hN2.of hF3 (by decide) (by decide) (by decide)) ?_ (((hK.of hF0 (by decide) (by decide) (by decide)).of hF2 (by decide) (by decide) (by decide)).of hF3 (by decide) (by decide) (by decide))
    · rw [hF3.int (by decide) (by decide), hF2.int (by decide) (by decide), fe_0_13 hS]
    · obtain ⟨t, ht, u0, u3, u2, ul, us⟩ := (hU.of hF0 (by decide) (by decide) (by decide)).of hF2 (by decide) (by decide) (by decide)
      refine ⟨0, by decide, ?_, ?_, ?_, by simp, fun i hi => absurd hi (Nat.not_lt_zero _)⟩
      · rw [hF3.int (by decide) (by decide), u0]
      · rw [fe_62_3 t2]; rfl
      · rw [fi_hpf_ne (by decide), fe_62_2 hs2]; rfl
  · rw [if_neg hc, if_neg hc, if_neg hc, decide_eq_false hc] at hQ
    simp (maxDischargeDepth := 12) only [w179_0, w179_1, w179_4, w179_5, w179_6, w179_9, w179_12, w179_15, w179_16, w179_19, w179_20, w179_21, w179_22, w179_23, w179_26, w179_27, w179_30, w179_31, w179_34, w179_35, w179_38, w179_39, w179_42, w179_43, w179_44, w179_47, w179_50, w179_51, w179_54, w179_57, w179_58, oK_some, cont_int, cont_intS, cont_none, cont_noneS, cont_long, cont_longS, true_and, and_true, false_and, and_false, true_implies, false_implies, not_true_eq_false, not_false_eq_true, eq_self, or_true, true_or, Option.isSome_some, hpf_length, hpa_length, bI_eq0, fi_hpa, fl_hpa, ar_hpf, fi_hpf_ne, fl_hpf_ne, ar_hpa_ne, hpa_hpa, hpf_hpf, nI_1, two_ne, fokZ, implies_true, Nat.reduceEqDiff, g_0_12, rc_65, rc_62, g_0_13, sf_0_13, fe_0_13, g_0_5, rc_30, g_0_11, w54_0, w54_1, w54_4, oK_some, cont_int, cont_intS, cont_none, cont_noneS, cont_long, cont_longS, true_and, and_true, false_and, and_false, true_implies, false_implies, not_true_eq_false, not_false_eq_true, eq_self, or_true, true_or, Option.isSome_some, hpf_length, hpa_length, bI_eq0, fi_hpa, fl_hpa, ar_hpf, fi_hpf_ne, fl_hpf_ne, ar_hpa_ne, hpa_hpa, hpf_hpf, nI_1, two_ne, fokZ, implies_true, Nat.reduceEqDiff, g_62_2, sf_62_2, fe_62_2, g_65_2, sf_65_2, fe_65_2, hS, k2]
    by_cases w1 : i < 0
    · simp only [w1, oK_some, cont_int, cont_intS, cont_none, cont_noneS, cont_long, cont_longS, true_and, and_true, false_and, and_false, true_implies, false_implies, not_true_eq_false, not_false_eq_true, eq_self, or_true, true_or, Option.isSome_some, hpf_length, hpa_length, bI_eq0, fi_hpa, fl_hpa, ar_hpf, fi_hpf_ne, fl_hpf_ne, ar_hpa_ne, hpa_hpa, hpf_hpf, nI_1, two_ne, fokZ, implies_true, Nat.reduceEqDiff]
      exact ca_no hC hU hK hQ
    · have w2 : nI Ks.length ≤ i := by
        rcases Classical.em (nI Ks.length ≤ i) with q | q
        · exact q
        · exact absurd ⟨e1.mpr w1, e2.mpr q⟩ hc
      simp only [w1, w2, oK_some, cont_int, cont_intS, cont_none, cont_noneS, cont_long, cont_longS, true_and, and_true, false_and, and_false, true_implies, false_implies, not_true_eq_false, not_false_eq_true, eq_self, or_true, true_or, Option.isSome_some, hpf_length, hpa_length, bI_eq0, fi_hpa, fl_hpa, ar_hpf, fi_hpf_ne, fl_hpf_ne, ar_hpa_ne, hpa_hpa, hpf_hpf, nI_1, two_ne, fokZ, implies_true, Nat.reduceEqDiff]
      exact ca_no hC hU hK hQ
theorem C_led {i : Int32} (hC : CIv H R st n nS nW nG nU nN) (hok0 : hok H.length H = true) (hQ1 : ∀ k, ledO st n i = some k → Q (some (.int (nI k))) H) (hQ2 : ledO st n i = none → Q (some .null) (H ++ [.inl (13, [])])) : Wp scr (d + 2) 180 0 [some (.ref 0), some (.int i), none, none] [] H Q := by
  have hS := hC.shp
  have b2 := hC.1.2.1.2.2.2.2.2.2.1
  have c2 := hC.1.2.1.1
  have hx : (ar H 32).length < 2147483648 := by rw [gn_32 hS]; decide
  generalize hg : (fun k => decide (st.getD k 0 < 10)) = g
  have hgi : ∀ k, decide (st.getD k 0 < 10) = g k := fun k => by rw [← hg]
  have eo : ledO st n i = if i < 0 then none else ((List.range n).filter g)[i.toNatClampNeg]? := by unfold ledO; rw [hg]
  rw [eo] at hQ1 hQ2
  simp only [w180_0, w180_1, w180_2, w180_3]
  have key := down (P := fun k => (∀ j, j < fcN g k → ¬ i = nI j) → Wp scr (d + 2) 180 4 [some (.ref 0), some (.int i), some (.int (i - nI (fcN g k))), some (.int (nI k))] [] H Q) n ?_ ?_
  · have := key (fun j hj => absurd hj (Nat.not_lt_zero _))
    rw [show fcN g 0 = 0 from rfl, show nI 0 = (0 : Int32) from rfl, Int32.sub_zero] at this
    exact this
  · intro hno
    rw [w180_4]
    simp (maxDischargeDepth := 12) only [w180_0, w180_1, w180_2, w180_3, w180_5, w180_6, w180_9, w180_12, w180_15, w180_18, w180_19, w180_22, w180_23, w180_26, w180_29, w180_30, w180_33, w180_34, w180_35, w180_38, w180_41, oK_some, cont_int, cont_intS, cont_none, cont_noneS, cont_long, cont_longS, true_and, and_true, false_and, and_false, true_implies, false_implies, not_true_eq_false, not_false_eq_true, eq_self, or_true, true_or, Option.isSome_some, hpf_length, hpa_length, bI_eq0, fi_hpa, fl_hpa, ar_hpf, fi_hpf_ne, fl_hpf_ne, ar_hpa_ne, hpa_hpa, hpf_hpf, nI_1, two_ne, fokZ, implies_true, Nat.reduceEqDiff, g_0_2, rc_3, g_3_2, rc_4, g_16_2, rc_17, rc_6, rc_8, rc_10, rc_12, rc_14, rc_19, rc_21, rc_23, rc_25, rc_27, g_0_5, rc_30, rc_34, rc_45, hS, c_Table_count (g_4_2 hS), c2, nI_les]
    rw [Wp_r (r := (some .null, H ++ [.inl (13, [])])) a180_44 (by simp only [rstep, hok0, if_true])]
    refine hQ2 ?_
    by_cases hi : i < 0
    · rw [if_pos hi]
    · rw [if_neg hi]
      obtain ⟨j, hj, ej⟩ := nI_of hi
      rcases Nat.lt_or_ge j (fcN g n) with q | q
      · exact absurd ej (hno j q)
      · rw [ej, nI_clamp hj]
        exact List.getElem?_eq_none (show ((List.range n).filter g).length ≤ j from q)
  · intro k hk hw hno
    have hle := fcN_le (fit := g) (m := k)
    rw [fcN_succ] at hw
    rw [w180_4]
    simp (maxDischargeDepth := 12) only [w180_0, w180_1, w180_2, w180_3, w180_5, w180_6, w180_9, w180_12, w180_15, w180_18, w180_19, w180_22, w180_23, w180_26, w180_29, w180_30, w180_33, w180_34, w180_35, w180_38, w180_41, oK_some, cont_int, cont_intS, cont_none, cont_noneS, cont_long, cont_longS, true_and, and_true, false_and, and_false, true_implies, false_implies, not_true_eq_false, not_false_eq_true, eq_self, or_true, true_or, Option.isSome_some, hpf_length, hpa_length, bI_eq0, fi_hpa, fl_hpa, ar_hpf, fi_hpf_ne, fl_hpf_ne, ar_hpa_ne, hpa_hpa, hpf_hpf, nI_1, two_ne, fokZ, implies_true, Nat.reduceEqDiff, g_0_2, rc_3, g_3_2, rc_4, g_16_2, rc_17, rc_6, rc_8, rc_10, rc_12, rc_14, rc_19, rc_21, rc_23, rc_25, rc_27, g_0_5, rc_30, rc_34, rc_45, hS, c_Table_count (g_4_2 hS), c2, nI_lef hk (by omega : n < 2147483648), c_State_doubts (g_30_0 hS) (g_31_0 hS) (ga_32 hS) hx, cAt_nI (show k < 2147483648 by omega), hC.2.1.1 k hk, hgi, i_sub0, i_dec]
    cases hgk : g k
    · simp only [hgk, Bool.false_eq_true, if_false, Nat.add_zero] at hw
      simp only [oK_some, cont_int, cont_intS, cont_none, cont_noneS, cont_long, cont_longS, true_and, and_true, false_and, and_false, true_implies, false_implies, not_true_eq_false, not_false_eq_true, eq_self, or_true, true_or, Option.isSome_some, hpf_length, hpa_length, bI_eq0, fi_hpa, fl_hpa, ar_hpf, fi_hpf_ne, fl_hpf_ne, ar_hpa_ne, hpa_hpa, hpf_hpf, nI_1, two_ne, fokZ, implies_true, Nat.reduceEqDiff]
      exact hw hno
    · simp only [hgk, if_true] at hw
      simp only [oK_some, cont_int, cont_intS, cont_none, cont_noneS, cont_long, cont_longS, true_and, and_true, false_and, and_false, true_implies, false_implies, not_true_eq_false, not_false_eq_true, eq_self, or_true, true_or, Option.isSome_some, hpf_length, hpa_length, bI_eq0, fi_hpa, fl_hpa, ar_hpf, fi_hpf_ne, fl_hpf_ne, ar_hpa_ne, hpa_hpa, hpf_hpf, nI_1, two_ne, fokZ, implies_true, Nat.reduceEqDiff, Bool.true_eq_false]
      by_cases he : i = nI (fcN g k)
      · simp only [he, oK_some, cont_int, cont_intS, cont_none, cont_noneS, cont_long, cont_longS, true_and, and_true, false_and, and_false, true_implies, false_implies, not_true_eq_false, not_false_eq_true, eq_self, or_true, true_or, Option.isSome_some, hpf_length, hpa_length, bI_eq0, fi_hpa, fl_hpa, ar_hpf, fi_hpf_ne, fl_hpf_ne, ar_hpa_ne, hpa_hpa, hpf_hpf, nI_1, two_ne, fokZ, implies_true, Nat.reduceEqDiff]
        refine hQ1 k ?_
        rw [he, if_neg (nI_pos (by omega)), nI_clamp (by omega)]
        exact fil_at (p := g) hgk n hk
      · simp only [he, oK_some, cont_int, cont_intS, cont_none, cont_noneS, cont_long, cont_longS, true_and, and_true, false_and, and_false, true_implies, false_implies, not_true_eq_false, not_false_eq_true, eq_self, or_true, true_or, Option.isSome_some, hpf_length, hpa_length, bI_eq0, fi_hpa, fl_hpa, ar_hpf, fi_hpf_ne, fl_hpf_ne, ar_hpa_ne, hpa_hpa, hpf_hpf, nI_1, two_ne, fokZ, implies_true, Nat.reduceEqDiff]
        refine hw (fun j hj => ?_)
        rcases Nat.lt_or_ge j (fcN g k) with q | q
        · exact hno j q
        · rw [show j = fcN g k by omega]; exact he
theorem C_trouble (hS : Shp H) : Wp scr d 182 0 [some (.ref 0)] [] H Q ↔ Q (some (.int (fi H 0 13))) H := by
  simp (maxDischargeDepth := 12) only [w182_0, w182_1, w182_4, oK_some, cont_int, cont_intS, cont_none, cont_noneS, cont_long, cont_longS, true_and, and_true, false_and, and_false, true_implies, false_implies, not_true_eq_false, not_false_eq_true, eq_self, or_true, true_or, Option.isSome_some, hpf_length, hpa_length, bI_eq0, fi_hpa, fl_hpa, ar_hpf, fi_hpf_ne, fl_hpf_ne, ar_hpa_ne, hpa_hpa, hpf_hpf, nI_1, two_ne, fokZ, implies_true, Nat.reduceEqDiff, g_0_13, sf_0_13, fe_0_13, hS]
theorem C_fault (hS : Shp H) : Wp scr d 122 0 [some (.ref 0)] [] H Q ↔ Q (some (.int (fi H 0 14))) H := by
  simp (maxDischargeDepth := 12) only [w122_0, w122_1, w122_4, oK_some, cont_int, cont_intS, cont_none, cont_noneS, cont_long, cont_longS, true_and, and_true, false_and, and_false, true_implies, false_implies, not_true_eq_false, not_false_eq_true, eq_self, or_true, true_or, Option.isSome_some, hpf_length, hpa_length, bI_eq0, fi_hpa, fl_hpa, ar_hpf, fi_hpf_ne, fl_hpf_ne, ar_hpa_ne, hpa_hpa, hpf_hpf, nI_1, two_ne, fokZ, implies_true, Nat.reduceEqDiff, g_0_14, sf_0_14, fe_0_14, hS]
theorem C_where (hS : Shp H) : Wp scr d 123 0 [some (.ref 0)] [] H Q ↔ Q (some (.int (if fi H 0 13 = 4 then fi H 0 15 else -1))) H := by
  refine Wp_iff ?_
  simp (maxDischargeDepth := 12) only [w123_0, w123_1, w123_4, w123_5, w123_8, w123_9, w123_12, w123_15, w123_16, oK_some, cont_int, cont_intS, cont_none, cont_noneS, cont_long, cont_longS, true_and, and_true, false_and, and_false, true_implies, false_implies, not_true_eq_false, not_false_eq_true, eq_self, or_true, true_or, Option.isSome_some, hpf_length, hpa_length, bI_eq0, fi_hpa, fl_hpa, ar_hpf, fi_hpf_ne, fl_hpf_ne, ar_hpa_ne, hpa_hpa, hpf_hpf, nI_1, two_ne, fokZ, implies_true, Nat.reduceEqDiff, g_0_13, sf_0_13, fe_0_13, g_0_15, sf_0_15, fe_0_15, hS]
  by_cases h : fi H 0 13 = 4 <;> simp [h]
theorem M_fault (hS : Shp H) : Wp scr d 220 0 [some (.ref 68)] [] H Q ↔ Q (some (.int (fi H 68 9))) (hpf H 68 0 (.int 0)) := by
  simp (maxDischargeDepth := 12) only [w220_0, w220_1, w220_2, w220_5, w220_6, w220_9, oK_some, cont_int, cont_intS, cont_none, cont_noneS, cont_long, cont_longS, true_and, and_true, false_and, and_false, true_implies, false_implies, not_true_eq_false, not_false_eq_true, eq_self, or_true, true_or, Option.isSome_some, hpf_length, hpa_length, bI_eq0, fi_hpa, fl_hpa, ar_hpf, fi_hpf_ne, fl_hpf_ne, ar_hpa_ne, hpa_hpa, hpf_hpf, nI_1, two_ne, fokZ, implies_true, Nat.reduceEqDiff, g_68_0, sf_68_0, fe_68_0, g_68_9, sf_68_9, fe_68_9, hS]
theorem M_where (hS : Shp H) : Wp scr d 221 0 [some (.ref 68)] [] H Q ↔ Q (some (.int (if fi H 68 11 = 4 then fi H 68 10 else -1))) (hpf H 68 0 (.int 0)) := by
  refine Wp_iff ?_
  simp (maxDischargeDepth := 12) only [w221_0, w221_1, w221_2, w221_5, w221_6, w221_9, w221_10, w221_13, w221_14, w221_17, w221_20, w221_21, oK_some, cont_int, cont_intS, cont_none, cont_noneS, cont_long, cont_longS, true_and, and_true, false_and, and_false, true_implies, false_implies, not_true_eq_false, not_false_eq_true, eq_self, or_true, true_or, Option.isSome_some, hpf_length, hpa_length, bI_eq0, fi_hpa, fl_hpa, ar_hpf, fi_hpf_ne, fl_hpf_ne, ar_hpa_ne, hpa_hpa, hpf_hpf, nI_1, two_ne, fokZ, implies_true, Nat.reduceEqDiff, g_68_0, sf_68_0, fe_68_0, g_68_11, sf_68_11, fe_68_11, g_68_10, sf_68_10, fe_68_10, hS]
  by_cases h : fi H 68 11 = 4 <;> simp [h]
theorem C_size {what : Int32} (hC : CIv H R st n nS nW nG nU nN) (hM : Mn R n nS nW nG nU nN) (hU : CUn H Us n) (hK : CIm H Ks n) (hz : n = 0 → (∀ j, j < 8 → rg R j = 0) ∧ st.getD 9 0 = 0 ∧ Us = [] ∧ Ks = []) (hQ : Q (some (.int (szM R st n (fi H 0 1) (nI Us.length) (nI Ks.length) what))) H) : Wp scr (d + 1) 181 0 [some (.ref 0), some (.int what)] [] H Q := by
  have hS := hC.shp
  obtain ⟨c2, c3, c4, c5, c6, c7, b2, b3, b4, b5, b6, b7⟩ := id hC.1.2.1
  obtain ⟨m2, m3, m4, m5, m6, m7, _⟩ := id hM
  have r0 := hC.1.2.2.2.2.2.2.2.2.1
  have r1 := hC.1.2.2.2.2.2.2.2.2.2
  obtain ⟨t, ht, u0, u3, u2, ul, us⟩ := id hU
  obtain ⟨k0, k3, k2, kl, ks⟩ := id hK
  have f1 := hC.2.1.2.1
  -- with a slope or without one, the answer is the same
  have val : ∀ j, j ≤ 10 → szM R st n (fi H 0 1) (nI Us.length) (nI Ks.length) (nI j) = (if j ≤ 7 then rg R j else if j = 8 then st.getD 9 0 else if j = 9 then nI Us.length else nI Ks.length) := by
    intro j hj
    unfold szM
    have e11 : ¬ nI j = 11 := fun q => by
      have := (nI_eq (b := 11) (by omega) (by decide)).mp q
      omega
    have h0 : (0 : Int32) ≤ nI j := nI_pos' (by omega)
    rw [if_neg e11]
    by_cases hn : 0 < n
    · rw [if_pos hn]
      by_cases h7 : j ≤ 7
      · rw [if_pos ⟨h0, nI_le (b := 7) h7 (by decide)⟩, if_pos h7, nI_clamp (by omega)]
      · have h7' : ¬ nI j ≤ 7 := nI_ge (a := 7) (by omega) (by omega)
        rw [if_neg (fun q => h7' q.2), if_neg h7]
        have e8 : (nI j = 8) = (j = 8) := propext (nI_eq (b := 8) (by omega) (by decide))
        have e9 : (nI j = 9) = (j = 9) := propext (nI_eq (b := 9) (by omega) (by decide))
        have e10 : (nI j = 10) = (j = 10) := propext (nI_eq (b := 10) (by omega) (by decide))
        by_cases h8 : j = 8
        · rw [if_pos (e8.mpr h8), if_pos h8]
        · rw [if_neg (fun q => h8 (e8.mp q)), if_neg h8]
          by_cases h9 : j = 9
          · rw [if_pos (e9.mpr h9), if_pos h9]
          · rw [if_neg (fun q => h9 (e9.mp q)), if_neg h9, if_pos (e10.mpr (by omega))]
    · obtain ⟨z1, z2, z3, z4⟩ := hz (by omega)
      rw [if_neg hn, if_pos ⟨h0, nI_le (b := 10) hj (by decide)⟩]
      by_cases h7 : j ≤ 7
      · rw [if_pos h7, z1 j (by omega)]
      · rw [if_neg h7, z2, z3, z4]
        split
        · rfl
        · split <;> rfl
  by_cases hv : 0 ≤ what ∧ what ≤ 11
  · obtain ⟨ew, lw⟩ := of_in (n := 11) hv (by omega)
    generalize what.toNatClampNeg = j at ew lw
    subst ew
    simp only [w181_0]
    by_cases h11 : j = 11
    · subst h11
      have e : szM R st n (fi H 0 1) (nI Us.length) (nI Ks.length) (nI 11) = fi H 0 1 := by unfold szM; rw [if_pos (show nI 11 = 11 from rfl)]
      rw [e] at hQ
      rw [Wp_tswI a181_1 (by decide) (o := 169) rfl (t := 170) (by decide)]
      simp (maxDischargeDepth := 12) only [w181_0, w181_64, w181_65, w181_68, w181_71, w181_72, w181_73, w181_76, w181_79, w181_80, w181_81, w181_84, w181_87, w181_90, w181_91, w181_92, w181_95, w181_98, w181_101, w181_102, w181_103, w181_106, w181_109, w181_112, w181_113, w181_114, w181_117, w181_120, w181_123, w181_124, w181_125, w181_128, w181_131, w181_134, w181_135, w181_136, w181_139, w181_142, w181_145, w181_146, w181_147, w181_150, w181_153, w181_154, w181_155, w181_158, w181_161, w181_162, w181_163, w181_166, w181_169, w181_170, w181_171, w181_174, w181_175, w181_176, oK_some, cont_int, cont_intS, cont_none, cont_noneS, cont_long, cont_longS, true_and, and_true, false_and, and_false, true_implies, false_implies, not_true_eq_false, not_false_eq_true, eq_self, or_true, true_or, Option.isSome_some, hpf_length, hpa_length, bI_eq0, fi_hpa, fl_hpa, ar_hpf, fi_hpf_ne, fl_hpf_ne, ar_hpa_ne, hpa_hpa, hpf_hpf, nI_1, two_ne, fokZ, implies_true, Nat.reduceEqDiff, g_0_2, rc_3, g_3_0, sf_3_0, fe_3_0, g_16_0, sf_16_0, fe_16_0, g_3_1, sf_3_1, fe_3_1, g_16_1, sf_16_1, fe_16_1, g_3_2, rc_4, g_16_2, rc_17, rc_6, rc_8, rc_10, rc_12, rc_14, rc_19, rc_21, rc_23, rc_25, rc_27, g_3_3, g_16_3, g_3_4, g_16_4, g_3_5, g_16_5, g_3_6, g_16_6, g_3_7, g_16_7, g_0_5, rc_30, g_30_1, sf_30_1, fe_30_1, g_34_1, sf_34_1, fe_34_1, g_45_1, sf_45_1, fe_45_1, g_0_11, rc_62, rc_65, g_0_12, g_0_1, sf_0_1, fe_0_1, hS]
      exact hQ
    · rw [val j (by omega)] at hQ
      have c : j = 0 ∨ j = 1 ∨ j = 2 ∨ j = 3 ∨ j = 4 ∨ j = 5 ∨ j = 6 ∨ j = 7 ∨ j = 8 ∨ j = 9 ∨ j = 10 := by omega
      rcases c with rfl | rfl | rfl | rfl | rfl | rfl | rfl | rfl | rfl | rfl | rfl
      · rw [Wp_tswI a181_1 (by decide) (o := 63) rfl (t := 64) (by decide)]
        simp (maxDischargeDepth := 12) only [w181_0, w181_64, w181_65, w181_68, w181_71, w181_72, w181_73, w181_76, w181_79, w181_80, w181_81, w181_84, w181_87, w181_90, w181_91, w181_92, w181_95, w181_98, w181_101, w181_102, w181_103, w181_106, w181_109, w181_112, w181_113, w181_114, w181_117, w181_120, w181_123, w181_124, w181_125, w181_128, w181_131, w181_134, w181_135, w181_136, w181_139, w181_142, w181_145, w181_146, w181_147, w181_150, w181_153, w181_154, w181_155, w181_158, w181_161, w181_162, w181_163, w181_166, w181_169, w181_170, w181_171, w181_174, w181_175, w181_176, oK_some, cont_int, cont_intS, cont_none, cont_noneS, cont_long, cont_longS, true_and, and_true, false_and, and_false, true_implies, false_implies, not_true_eq_false, not_false_eq_true, eq_self, or_true, true_or, Option.isSome_some, hpf_length, hpa_length, bI_eq0, fi_hpa, fl_hpa, ar_hpf, fi_hpf_ne, fl_hpf_ne, ar_hpa_ne, hpa_hpa, hpf_hpf, nI_1, two_ne, fokZ, implies_true, Nat.reduceEqDiff, g_0_2, rc_3, g_3_0, sf_3_0, fe_3_0, g_16_0, sf_16_0, fe_16_0, g_3_1, sf_3_1, fe_3_1, g_16_1, sf_16_1, fe_16_1, g_3_2, rc_4, g_16_2, rc_17, rc_6, rc_8, rc_10, rc_12, rc_14, rc_19, rc_21, rc_23, rc_25, rc_27, g_3_3, g_16_3, g_3_4, g_16_4, g_3_5, g_16_5, g_3_6, g_16_6, g_3_7, g_16_7, g_0_5, rc_30, g_30_1, sf_30_1, fe_30_1, g_34_1, sf_34_1, fe_34_1, g_45_1, sf_45_1, fe_45_1, g_0_11, rc_62, rc_65, g_0_12, g_0_1, sf_0_1, fe_0_1, hS, r0]
        exact hQ
      · rw [Wp_tswI a181_1 (by decide) (o := 71) rfl (t := 72) (by decide)]
        simp (maxDischargeDepth := 12) only [w181_0, w181_64, w181_65, w181_68, w181_71, w181_72, w181_73, w181_76, w181_79, w181_80, w181_81, w181_84, w181_87, w181_90, w181_91, w181_92, w181_95, w181_98, w181_101, w181_102, w181_103, w181_106, w181_109, w181_112, w181_113, w181_114, w181_117, w181_120, w181_123, w181_124, w181_125, w181_128, w181_131, w181_134, w181_135, w181_136, w181_139, w181_142, w181_145, w181_146, w181_147, w181_150, w181_153, w181_154, w181_155, w181_158, w181_161, w181_162, w181_163, w181_166, w181_169, w181_170, w181_171, w181_174, w181_175, w181_176, oK_some, cont_int, cont_intS, cont_none, cont_noneS, cont_long, cont_longS, true_and, and_true, false_and, and_false, true_implies, false_implies, not_true_eq_false, not_false_eq_true, eq_self, or_true, true_or, Option.isSome_some, hpf_length, hpa_length, bI_eq0, fi_hpa, fl_hpa, ar_hpf, fi_hpf_ne, fl_hpf_ne, ar_hpa_ne, hpa_hpa, hpf_hpf, nI_1, two_ne, fokZ, implies_true, Nat.reduceEqDiff, g_0_2, rc_3, g_3_0, sf_3_0, fe_3_0, g_16_0, sf_16_0, fe_16_0, g_3_1, sf_3_1, fe_3_1, g_16_1, sf_16_1, fe_16_1, g_3_2, rc_4, g_16_2, rc_17, rc_6, rc_8, rc_10, rc_12, rc_14, rc_19, rc_21, rc_23, rc_25, rc_27, g_3_3, g_16_3, g_3_4, g_16_4, g_3_5, g_16_5, g_3_6, g_16_6, g_3_7, g_16_7, g_0_5, rc_30, g_30_1, sf_30_1, fe_30_1, g_34_1, sf_34_1, fe_34_1, g_45_1, sf_45_1, fe_45_1, g_0_11, rc_62, rc_65, g_0_12, g_0_1, sf_0_1, fe_0_1, hS, r1]
        exact hQ
      · rw [Wp_tswI a181_1 (by decide) (o := 79) rfl (t := 80) (by decide)]
        simp (maxDischargeDepth := 12) only [w181_0, w181_64, w181_65, w181_68, w181_71, w181_72, w181_73, w181_76, w181_79, w181_80, w181_81, w181_84, w181_87, w181_90, w181_91, w181_92, w181_95, w181_98, w181_101, w181_102, w181_103, w181_106, w181_109, w181_112, w181_113, w181_114, w181_117, w181_120, w181_123, w181_124, w181_125, w181_128, w181_131, w181_134, w181_135, w181_136, w181_139, w181_142, w181_145, w181_146, w181_147, w181_150, w181_153, w181_154, w181_155, w181_158, w181_161, w181_162, w181_163, w181_166, w181_169, w181_170, w181_171, w181_174, w181_175, w181_176, oK_some, cont_int, cont_intS, cont_none, cont_noneS, cont_long, cont_longS, true_and, and_true, false_and, and_false, true_implies, false_implies, not_true_eq_false, not_false_eq_true, eq_self, or_true, true_or, Option.isSome_some, hpf_length, hpa_length, bI_eq0, fi_hpa, fl_hpa, ar_hpf, fi_hpf_ne, fl_hpf_ne, ar_hpa_ne, hpa_hpa, hpf_hpf, nI_1, two_ne, fokZ, implies_true, Nat.reduceEqDiff, g_0_2, rc_3, g_3_0, sf_3_0, fe_3_0, g_16_0, sf_16_0, fe_16_0, g_3_1, sf_3_1, fe_3_1, g_16_1, sf_16_1, fe_16_1, g_3_2, rc_4, g_16_2, rc_17, rc_6, rc_8, rc_10, rc_12, rc_14, rc_19, rc_21, rc_23, rc_25, rc_27, g_3_3, g_16_3, g_3_4, g_16_4, g_3_5, g_16_5, g_3_6, g_16_6, g_3_7, g_16_7, g_0_5, rc_30, g_30_1, sf_30_1, fe_30_1, g_34_1, sf_34_1, fe_34_1, g_45_1, sf_45_1, fe_45_1, g_0_11, rc_62, rc_65, g_0_12, g_0_1, sf_0_1, fe_0_1, hS, c_Table_count (g_4_2 hS), c2]
        rw [if_pos (by decide), m2] at hQ
        exact hQ
      · rw [Wp_tswI a181_1 (by decide) (o := 90) rfl (t := 91) (by decide)]
        simp (maxDischargeDepth := 12) only [w181_0, w181_64, w181_65, w181_68, w181_71, w181_72, w181_73, w181_76, w181_79, w181_80, w181_81, w181_84, w181_87, w181_90, w181_91, w181_92, w181_95, w181_98, w181_101, w181_102, w181_103, w181_106, w181_109, w181_112, w181_113, w181_114, w181_117, w181_120, w181_123, w181_124, w181_125, w181_128, w181_131, w181_134, w181_135, w181_136, w181_139, w181_142, w181_145, w181_146, w181_147, w181_150, w181_153, w181_154, w181_155, w181_158, w181_161, w181_162, w181_163, w181_166, w181_169, w181_170, w181_171, w181_174, w181_175, w181_176, oK_some, cont_int, cont_intS, cont_none, cont_noneS, cont_long, cont_longS, true_and, and_true, false_and, and_false, true_implies, false_implies, not_true_eq_false, not_false_eq_true, eq_self, or_true, true_or, Option.isSome_some, hpf_length, hpa_length, bI_eq0, fi_hpa, fl_hpa, ar_hpf, fi_hpf_ne, fl_hpf_ne, ar_hpa_ne, hpa_hpa, hpf_hpf, nI_1, two_ne, fokZ, implies_true, Nat.reduceEqDiff, g_0_2, rc_3, g_3_0, sf_3_0, fe_3_0, g_16_0, sf_16_0, fe_16_0, g_3_1, sf_3_1, fe_3_1, g_16_1, sf_16_1, fe_16_1, g_3_2, rc_4, g_16_2, rc_17, rc_6, rc_8, rc_10, rc_12, rc_14, rc_19, rc_21, rc_23, rc_25, rc_27, g_3_3, g_16_3, g_3_4, g_16_4, g_3_5, g_16_5, g_3_6, g_16_6, g_3_7, g_16_7, g_0_5, rc_30, g_30_1, sf_30_1, fe_30_1, g_34_1, sf_34_1, fe_34_1, g_45_1, sf_45_1, fe_45_1, g_0_11, rc_62, rc_65, g_0_12, g_0_1, sf_0_1, fe_0_1, hS, c_Table_count (g_6_2 hS), c3]
        rw [if_pos (by decide), m3] at hQ
        exact hQ
      · rw [Wp_tswI a181_1 (by decide) (o := 101) rfl (t := 102) (by decide)]
        simp (maxDischargeDepth := 12) only [w181_0, w181_64, w181_65, w181_68, w181_71, w181_72, w181_73, w181_76, w181_79, w181_80, w181_81, w181_84, w181_87, w181_90, w181_91, w181_92, w181_95, w181_98, w181_101, w181_102, w181_103, w181_106, w181_109, w181_112, w181_113, w181_114, w181_117, w181_120, w181_123, w181_124, w181_125, w181_128, w181_131, w181_134, w181_135, w181_136, w181_139, w181_142, w181_145, w181_146, w181_147, w181_150, w181_153, w181_154, w181_155, w181_158, w181_161, w181_162, w181_163, w181_166, w181_169, w181_170, w181_171, w181_174, w181_175, w181_176, oK_some, cont_int, cont_intS, cont_none, cont_noneS, cont_long, cont_longS, true_and, and_true, false_and, and_false, true_implies, false_implies, not_true_eq_false, not_false_eq_true, eq_self, or_true, true_or, Option.isSome_some, hpf_length, hpa_length, bI_eq0, fi_hpa, fl_hpa, ar_hpf, fi_hpf_ne, fl_hpf_ne, ar_hpa_ne, hpa_hpa, hpf_hpf, nI_1, two_ne, fokZ, implies_true, Nat.reduceEqDiff, g_0_2, rc_3, g_3_0, sf_3_0, fe_3_0, g_16_0, sf_16_0, fe_16_0, g_3_1, sf_3_1, fe_3_1, g_16_1, sf_16_1, fe_16_1, g_3_2, rc_4, g_16_2, rc_17, rc_6, rc_8, rc_10, rc_12, rc_14, rc_19, rc_21, rc_23, rc_25, rc_27, g_3_3, g_16_3, g_3_4, g_16_4, g_3_5, g_16_5, g_3_6, g_16_6, g_3_7, g_16_7, g_0_5, rc_30, g_30_1, sf_30_1, fe_30_1, g_34_1, sf_34_1, fe_34_1, g_45_1, sf_45_1, fe_45_1, g_0_11, rc_62, rc_65, g_0_12, g_0_1, sf_0_1, fe_0_1, hS, c_Table_count (g_8_2 hS), c4]
        rw [if_pos (by decide), m4] at hQ
        exact hQ
      · rw [Wp_tswI a181_1 (by decide) (o := 112) rfl (t := 113) (by decide)]
        simp (maxDischargeDepth := 12) only [w181_0, w181_64, w181_65, w181_68, w181_71, w181_72, w181_73, w181_76, w181_79, w181_80, w181_81, w181_84, w181_87, w181_90, w181_91, w181_92, w181_95, w181_98, w181_101, w181_102, w181_103, w181_106, w181_109, w181_112, w181_113, w181_114, w181_117, w181_120, w181_123, w181_124, w181_125, w181_128, w181_131, w181_134, w181_135, w181_136, w181_139, w181_142, w181_145, w181_146, w181_147, w181_150, w181_153, w181_154, w181_155, w181_158, w181_161, w181_162, w181_163, w181_166, w181_169, w181_170, w181_171, w181_174, w181_175, w181_176, oK_some, cont_int, cont_intS, cont_none, cont_noneS, cont_long, cont_longS, true_and, and_true, false_and, and_false, true_implies, false_implies, not_true_eq_false, not_false_eq_true, eq_self, or_true, true_or, Option.isSome_some, hpf_length, hpa_length, bI_eq0, fi_hpa, fl_hpa, ar_hpf, fi_hpf_ne, fl_hpf_ne, ar_hpa_ne, hpa_hpa, hpf_hpf, nI_1, two_ne, fokZ, implies_true, Nat.reduceEqDiff, g_0_2, rc_3, g_3_0, sf_3_0, fe_3_0, g_16_0, sf_16_0, fe_16_0, g_3_1, sf_3_1, fe_3_1, g_16_1, sf_16_1, fe_16_1, g_3_2, rc_4, g_16_2, rc_17, rc_6, rc_8, rc_10, rc_12, rc_14, rc_19, rc_21, rc_23, rc_25, rc_27, g_3_3, g_16_3, g_3_4, g_16_4, g_3_5, g_16_5, g_3_6, g_16_6, g_3_7, g_16_7, g_0_5, rc_30, g_30_1, sf_30_1, fe_30_1, g_34_1, sf_34_1, fe_34_1, g_45_1, sf_45_1, fe_45_1, g_0_11, rc_62, rc_65, g_0_12, g_0_1, sf_0_1, fe_0_1, hS, c_Table_count (g_10_2 hS), c5]
        rw [if_pos (by decide), m5] at hQ
        exact hQ
      · rw [Wp_tswI a181_1 (by decide) (o := 123) rfl (t := 124) (by decide)]
        simp (maxDischargeDepth := 12) only [w181_0, w181_64, w181_65, w181_68, w181_71, w181_72, w181_73, w181_76, w181_79, w181_80, w181_81, w181_84, w181_87, w181_90, w181_91, w181_92, w181_95, w181_98, w181_101, w181_102, w181_103, w181_106, w181_109, w181_112, w181_113, w181_114, w181_117, w181_120, w181_123, w181_124, w181_125, w181_128, w181_131, w181_134, w181_135, w181_136, w181_139, w181_142, w181_145, w181_146, w181_147, w181_150, w181_153, w181_154, w181_155, w181_158, w181_161, w181_162, w181_163, w181_166, w181_169, w181_170, w181_171, w181_174, w181_175, w181_176, oK_some, cont_int, cont_intS, cont_none, cont_noneS, cont_long, cont_longS, true_and, and_true, false_and, and_false, true_implies, false_implies, not_true_eq_false, not_false_eq_true, eq_self, or_true, true_or, Option.isSome_some, hpf_length, hpa_length, bI_eq0, fi_hpa, fl_hpa, ar_hpf, fi_hpf_ne, fl_hpf_ne, ar_hpa_ne, hpa_hpa, hpf_hpf, nI_1, two_ne, fokZ, implies_true, Nat.reduceEqDiff, g_0_2, rc_3, g_3_0, sf_3_0, fe_3_0, g_16_0, sf_16_0, fe_16_0, g_3_1, sf_3_1, fe_3_1, g_16_1, sf_16_1, fe_16_1, g_3_2, rc_4, g_16_2, rc_17, rc_6, rc_8, rc_10, rc_12, rc_14, rc_19, rc_21, rc_23, rc_25, rc_27, g_3_3, g_16_3, g_3_4, g_16_4, g_3_5, g_16_5, g_3_6, g_16_6, g_3_7, g_16_7, g_0_5, rc_30, g_30_1, sf_30_1, fe_30_1, g_34_1, sf_34_1, fe_34_1, g_45_1, sf_45_1, fe_45_1, g_0_11, rc_62, rc_65, g_0_12, g_0_1, sf_0_1, fe_0_1, hS, c_Table_count (g_12_2 hS), c6]
        rw [if_pos (by decide), m6] at hQ
        exact hQ
      · rw [Wp_tswI a181_1 (by decide) (o := 134) rfl (t := 135) (by decide)]
        simp (maxDischargeDepth := 12) only [w181_0, w181_64, w181_65, w181_68, w181_71, w181_72, w181_73, w181_76, w181_79, w181_80, w181_81, w181_84, w181_87, w181_90, w181_91, w181_92, w181_95, w181_98, w181_101, w181_102, w181_103, w181_106, w181_109, w181_112, w181_113, w181_114, w181_117, w181_120, w181_123, w181_124, w181_125, w181_128, w181_131, w181_134, w181_135, w181_136, w181_139, w181_142, w181_145, w181_146, w181_147, w181_150, w181_153, w181_154, w181_155, w181_158, w181_161, w181_162, w181_163, w181_166, w181_169, w181_170, w181_171, w181_174, w181_175, w181_176, oK_some, cont_int, cont_intS, cont_none, cont_noneS, cont_long, cont_longS, true_and, and_true, false_and, and_false, true_implies, false_implies, not_true_eq_false, not_false_eq_true, eq_self, or_true, true_or, Option.isSome_some, hpf_length, hpa_length, bI_eq0, fi_hpa, fl_hpa, ar_hpf, fi_hpf_ne, fl_hpf_ne, ar_hpa_ne, hpa_hpa, hpf_hpf, nI_1, two_ne, fokZ, implies_true, Nat.reduceEqDiff, g_0_2, rc_3, g_3_0, sf_3_0, fe_3_0, g_16_0, sf_16_0, fe_16_0, g_3_1, sf_3_1, fe_3_1, g_16_1, sf_16_1, fe_16_1, g_3_2, rc_4, g_16_2, rc_17, rc_6, rc_8, rc_10, rc_12, rc_14, rc_19, rc_21, rc_23, rc_25, rc_27, g_3_3, g_16_3, g_3_4, g_16_4, g_3_5, g_16_5, g_3_6, g_16_6, g_3_7, g_16_7, g_0_5, rc_30, g_30_1, sf_30_1, fe_30_1, g_34_1, sf_34_1, fe_34_1, g_45_1, sf_45_1, fe_45_1, g_0_11, rc_62, rc_65, g_0_12, g_0_1, sf_0_1, fe_0_1, hS, c_Table_count (g_14_2 hS), c7]
        rw [if_pos (by decide), m7] at hQ
        exact hQ
      · rw [Wp_tswI a181_1 (by decide) (o := 145) rfl (t := 146) (by decide)]
        simp (maxDischargeDepth := 12) only [w181_0, w181_64, w181_65, w181_68, w181_71, w181_72, w181_73, w181_76, w181_79, w181_80, w181_81, w181_84, w181_87, w181_90, w181_91, w181_92, w181_95, w181_98, w181_101, w181_102, w181_103, w181_106, w181_109, w181_112, w181_113, w181_114, w181_117, w181_120, w181_123, w181_124, w181_125, w181_128, w181_131, w181_134, w181_135, w181_136, w181_139, w181_142, w181_145, w181_146, w181_147, w181_150, w181_153, w181_154, w181_155, w181_158, w181_161, w181_162, w181_163, w181_166, w181_169, w181_170, w181_171, w181_174, w181_175, w181_176, oK_some, cont_int, cont_intS, cont_none, cont_noneS, cont_long, cont_longS, true_and, and_true, false_and, and_false, true_implies, false_implies, not_true_eq_false, not_false_eq_true, eq_self, or_true, true_or, Option.isSome_some, hpf_length, hpa_length, bI_eq0, fi_hpa, fl_hpa, ar_hpf, fi_hpf_ne, fl_hpf_ne, ar_hpa_ne, hpa_hpa, hpf_hpf, nI_1, two_ne, fokZ, implies_true, Nat.reduceEqDiff, g_0_2, rc_3, g_3_0, sf_3_0, fe_3_0, g_16_0, sf_16_0, fe_16_0, g_3_1, sf_3_1, fe_3_1, g_16_1, sf_16_1, fe_16_1, g_3_2, rc_4, g_16_2, rc_17, rc_6, rc_8, rc_10, rc_12, rc_14, rc_19, rc_21, rc_23, rc_25, rc_27, g_3_3, g_16_3, g_3_4, g_16_4, g_3_5, g_16_5, g_3_6, g_16_6, g_3_7, g_16_7, g_0_5, rc_30, g_30_1, sf_30_1, fe_30_1, g_34_1, sf_34_1, fe_34_1, g_45_1, sf_45_1, fe_45_1, g_0_11, rc_62, rc_65, g_0_12, g_0_1, sf_0_1, fe_0_1, hS, f1]
        exact hQ
      · rw [Wp_tswI a181_1 (by decide) (o := 153) rfl (t := 154) (by decide)]
        simp (maxDischargeDepth := 12) only [w181_0, w181_64, w181_65, w181_68, w181_71, w181_72, w181_73, w181_76, w181_79, w181_80, w181_81, w181_84, w181_87, w181_90, w181_91, w181_92, w181_95, w181_98, w181_101, w181_102, w181_103, w181_106, w181_109, w181_112, w181_113, w181_114, w181_117, w181_120, w181_123, w181_124, w181_125, w181_128, w181_131, w181_134, w181_135, w181_136, w181_139, w181_142, w181_145, w181_146, w181_147, w181_150, w181_153, w181_154, w181_155, w181_158, w181_161, w181_162, w181_163, w181_166, w181_169, w181_170, w181_171, w181_174, w181_175, w181_176, oK_some, cont_int, cont_intS, cont_none, cont_noneS, cont_long, cont_longS, true_and, and_true, false_and, and_false, true_implies, false_implies, not_true_eq_false, not_false_eq_true, eq_self, or_true, true_or, Option.isSome_some, hpf_length, hpa_length, bI_eq0, fi_hpa, fl_hpa, ar_hpf, fi_hpf_ne, fl_hpf_ne, ar_hpa_ne, hpa_hpa, hpf_hpf, nI_1, two_ne, fokZ, implies_true, Nat.reduceEqDiff, g_0_2, rc_3, g_3_0, sf_3_0, fe_3_0, g_16_0, sf_16_0, fe_16_0, g_3_1, sf_3_1, fe_3_1, g_16_1, sf_16_1, fe_16_1, g_3_2, rc_4, g_16_2, rc_17, rc_6, rc_8, rc_10, rc_12, rc_14, rc_19, rc_21, rc_23, rc_25, rc_27, g_3_3, g_16_3, g_3_4, g_16_4, g_3_5, g_16_5, g_3_6, g_16_6, g_3_7, g_16_7, g_0_5, rc_30, g_30_1, sf_30_1, fe_30_1, g_34_1, sf_34_1, fe_34_1, g_45_1, sf_45_1, fe_45_1, g_0_11, rc_62, rc_65, g_0_12, g_0_1, sf_0_1, fe_0_1, w54_0, w54_1, w54_4, oK_some, cont_int, cont_intS, cont_none, cont_noneS, cont_long, cont_longS, true_and, and_true, false_and, and_false, true_implies, false_implies, not_true_eq_false, not_false_eq_true, eq_self, or_true, true_or, Option.isSome_some, hpf_length, hpa_length, bI_eq0, fi_hpa, fl_hpa, ar_hpf, fi_hpf_ne, fl_hpf_ne, ar_hpa_ne, hpa_hpa, hpf_hpf, nI_1, two_ne, fokZ, implies_true, Nat.reduceEqDiff, g_62_2, sf_62_2, fe_62_2, g_65_2, sf_65_2, fe_65_2, hS, u2]
        exact hQ
      · rw [Wp_tswI a181_1 (by decide) (o := 161) rfl (t := 162) (by decide)]
        simp (maxDischargeDepth := 12) only [w181_0, w181_64, w181_65, w181_68, w181_71, w181_72, w181_73, w181_76, w181_79, w181_80, w181_81, w181_84, w181_87, w181_90, w181_91, w181_92, w181_95, w181_98, w181_101, w181_102, w181_103, w181_106, w181_109, w181_112, w181_113, w181_114, w181_117, w181_120, w181_123, w181_124, w181_125, w181_128, w181_131, w181_134, w181_135, w181_136, w181_139, w181_142, w181_145, w181_146, w181_147, w181_150, w181_153, w181_154, w181_155, w181_158, w181_161, w181_162, w181_163, w181_166, w181_169, w181_170, w181_171, w181_174, w181_175, w181_176, oK_some, cont_int, cont_intS, cont_none, cont_noneS, cont_long, cont_longS, true_and, and_true, false_and, and_false, true_implies, false_implies, not_true_eq_false, not_false_eq_true, eq_self, or_true, true_or, Option.isSome_some, hpf_length, hpa_length, bI_eq0, fi_hpa, fl_hpa, ar_hpf, fi_hpf_ne, fl_hpf_ne, ar_hpa_ne, hpa_hpa, hpf_hpf, nI_1, two_ne, fokZ, implies_true, Nat.reduceEqDiff, g_0_2, rc_3, g_3_0, sf_3_0, fe_3_0, g_16_0, sf_16_0, fe_16_0, g_3_1, sf_3_1, fe_3_1, g_16_1, sf_16_1, fe_16_1, g_3_2, rc_4, g_16_2, rc_17, rc_6, rc_8, rc_10, rc_12, rc_14, rc_19, rc_21, rc_23, rc_25, rc_27, g_3_3, g_16_3, g_3_4, g_16_4, g_3_5, g_16_5, g_3_6, g_16_6, g_3_7, g_16_7, g_0_5, rc_30, g_30_1, sf_30_1, fe_30_1, g_34_1, sf_34_1, fe_34_1, g_45_1, sf_45_1, fe_45_1, g_0_11, rc_62, rc_65, g_0_12, g_0_1, sf_0_1, fe_0_1, w54_0, w54_1, w54_4, oK_some, cont_int, cont_intS, cont_none, cont_noneS, cont_long, cont_longS, true_and, and_true, false_and, and_false, true_implies, false_implies, not_true_eq_false, not_false_eq_true, eq_self, or_true, true_or, Option.isSome_some, hpf_length, hpa_length, bI_eq0, fi_hpa, fl_hpa, ar_hpf, fi_hpf_ne, fl_hpf_ne, ar_hpa_ne, hpa_hpa, hpf_hpf, nI_1, two_ne, fokZ, implies_true, Nat.reduceEqDiff, g_62_2, sf_62_2, fe_62_2, g_65_2, sf_65_2, fe_65_2, hS, k2]
        exact hQ
  · have ho : what.toInt < 0 ∨ 11 < what.toInt := by
      rcases Classical.em (what.toInt < 0 ∨ 11 < what.toInt) with q | q
      · exact q
      · exact absurd ⟨by rw [Int32.le_iff_toInt_le, Int32.toInt_zero]; omega, by rw [Int32.le_iff_toInt_le, show (11 : Int32).toInt = 11 by decide]; omega⟩ hv
    have e : szM R st n (fi H 0 1) (nI Us.length) (nI Ks.length) what = -1 := by
      have ne : ∀ j : Nat, j ≤ 11 → ¬ what = nI j := fun j hj q => by
        rw [q, nI_toInt (by omega)] at ho
        omega
      unfold szM
      rw [if_neg (show ¬ what = 11 from ne 11 (by decide))]
      split
      · rw [if_neg (fun q => hv ⟨q.1, Int32.le_trans q.2 (by decide)⟩), if_neg (show ¬ what = 8 from ne 8 (by decide)), if_neg (show ¬ what = 9 from ne 9 (by decide)), if_neg (show ¬ what = 10 from ne 10 (by decide))]
      · rw [if_neg (fun q => hv ⟨q.1, Int32.le_trans q.2 (by decide)⟩)]
    rw [e] at hQ
    simp only [w181_0]
    rw [Wp_tswO a181_1 ho (t := 175) (by decide)]
    simp (maxDischargeDepth := 12) only [w181_0, w181_64, w181_65, w181_68, w181_71, w181_72, w181_73, w181_76, w181_79, w181_80, w181_81, w181_84, w181_87, w181_90, w181_91, w181_92, w181_95, w181_98, w181_101, w181_102, w181_103, w181_106, w181_109, w181_112, w181_113, w181_114, w181_117, w181_120, w181_123, w181_124, w181_125, w181_128, w181_131, w181_134, w181_135, w181_136, w181_139, w181_142, w181_145, w181_146, w181_147, w181_150, w181_153, w181_154, w181_155, w181_158, w181_161, w181_162, w181_163, w181_166, w181_169, w181_170, w181_171, w181_174, w181_175, w181_176, oK_some, cont_int, cont_intS, cont_none, cont_noneS, cont_long, cont_longS, true_and, and_true, false_and, and_false, true_implies, false_implies, not_true_eq_false, not_false_eq_true, eq_self, or_true, true_or, Option.isSome_some, hpf_length, hpa_length, bI_eq0, fi_hpa, fl_hpa, ar_hpf, fi_hpf_ne, fl_hpf_ne, ar_hpa_ne, hpa_hpa, hpf_hpf, nI_1, two_ne, fokZ, implies_true, Nat.reduceEqDiff, g_0_2, rc_3, g_3_0, sf_3_0, fe_3_0, g_16_0, sf_16_0, fe_16_0, g_3_1, sf_3_1, fe_3_1, g_16_1, sf_16_1, fe_16_1, g_3_2, rc_4, g_16_2, rc_17, rc_6, rc_8, rc_10, rc_12, rc_14, rc_19, rc_21, rc_23, rc_25, rc_27, g_3_3, g_16_3, g_3_4, g_16_4, g_3_5, g_16_5, g_3_6, g_16_6, g_3_7, g_16_7, g_0_5, rc_30, g_30_1, sf_30_1, fe_30_1, g_34_1, sf_34_1, fe_34_1, g_45_1, sf_45_1, fe_45_1, g_0_11, rc_62, rc_65, g_0_12, g_0_1, sf_0_1, fe_0_1]
    exact hQ
theorem ush_bit {w : Int32} {k : Nat} (hk : k < 25) : ush w (nI k) &&& 255 = (w >>> (nI k &&& 31)) &&& 255 := by
  refine b_ext (fun i hi => ?_)
  rw [b_and, b_and, b_255]
  by_cases h : i < 8
  · rw [decide_eq_true h]
    unfold ush
    rw [b_ushr k (by omega), b_sshr k (by omega) w hi, if_pos (by omega)]
  · rw [decide_eq_false h, Bool.and_false, Bool.and_false]
theorem c_feedNumber {w : Int32} {t : Nat} (hS : Shp H) (ht : fi H 0 1 = nI t) (hb : t + 4 ≤ 900) (hQ : ∀ H', Fg [2] [(0, 1)] H H' → ar H' 2 = forN (fun k ys => ys.set (t + k) ((w >>> (nI (24 - 8 * k) &&& 31)) &&& 255)) 4 (ar H 2) → fi H' 0 1 = nI (t + 4) → Q none H') : Wp scr (d + 1) 120 0 [some (.ref 0), some (.int w), none] [] H Q := by
  simp only [w120_0, w120_2]
  have key : ∀ k, k ≤ 4 → ∀ v : Int32, v = (if k = 4 then -8 else nI (24 - 8 * k)) → ∀ H2, Fg [2] [(0, 1)] H H2 → ar H2 2 = forN (fun k ys => ys.set (t + k) ((w >>> (nI (24 - 8 * k) &&& 31)) &&& 255)) k (ar H 2) → fi H2 0 1 = nI (t + k) → Wp scr (d + 1) 120 3 [some (.ref 0), some (.int w), some (.int v)] [] H2 Q := by
    intro k hk
    have : ∃ j, k = 4 - j ∧ j ≤ 4 := ⟨4 - k, by omega, by omega⟩
    obtain ⟨j, rfl, hj⟩ := this
    clear hk
    induction j with
    | zero =>
      intro v hv H2 hF2 a2 f2
      rw [if_pos rfl] at hv
      subst hv
      rw [w120_3]
      simp (maxDischargeDepth := 12) only [w120_0, w120_2, w120_4, w120_7, w120_8, w120_11, w120_12, w120_15, w120_16, w120_17, w120_18, w120_21, w120_22, w120_25, w120_26, w120_27, w120_30, w120_31, w120_32, w120_35, w120_38, w120_41, oK_some, cont_int, cont_intS, cont_none, cont_noneS, cont_long, cont_longS, true_and, and_true, false_and, and_false, true_implies, false_implies, not_true_eq_false, not_false_eq_true, eq_self, or_true, true_or, Option.isSome_some, hpf_length, hpa_length, bI_eq0, fi_hpa, fl_hpa, ar_hpf, fi_hpf_ne, fl_hpf_ne, ar_hpa_ne, hpa_hpa, hpf_hpf, nI_1, two_ne, fokZ, implies_true, Nat.reduceEqDiff, g_0_0, rc_1, g_0_1, sf_0_1, fe_0_1, rc_31, rc_35, rc_37, rc_39, rc_41, rc_46, rc_48, rc_50, rc_53, rc_55, rc_57, rc_59, rc_63, rc_66, show ((-8 : Int32) < 0) = True from eq_true (by decide)]
      exact hQ H2 hF2 a2 f2
    | succ j ih =>
      intro v hv H2 hF2 a2 f2
      have ih' := ih (by omega)
      have hk4 : ¬ 4 - (j + 1) = 4 := by omega
      have ek : 4 - j = 4 - (j + 1) + 1 := by omega
      rw [ek] at ih'
      generalize hk : 4 - (j + 1) = k at hv a2 f2 hk4 ih'
      have hkl : k < 4 := by omega
      rw [if_neg hk4] at hv
      subst hv
      have hs2 := hF2.shp
      have hx : (ar H2 2).length < 2147483648 := by rw [gn_2 hs2]; decide
      have eu : ((w.toUInt32 >>> ((nI (24 - 8 * k)).toUInt32 &&& Int32.toUInt32 31)).toInt32) &&& 255 = (w >>> (nI (24 - 8 * k) &&& 31)) &&& 255 := ush_bit (by omega)
      rw [w120_3]
      simp (maxDischargeDepth := 12) only [w120_0, w120_2, w120_4, w120_7, w120_8, w120_11, w120_12, w120_15, w120_16, w120_17, w120_18, w120_21, w120_22, w120_25, w120_26, w120_27, w120_30, w120_31, w120_32, w120_35, w120_38, w120_41, oK_some, cont_int, cont_intS, cont_none, cont_noneS, cont_long, cont_longS, true_and, and_true, false_and, and_false, true_implies, false_implies, not_true_eq_false, not_false_eq_true, eq_self, or_true, true_or, Option.isSome_some, hpf_length, hpa_length, bI_eq0, fi_hpa, fl_hpa, ar_hpf, fi_hpf_ne, fl_hpf_ne, ar_hpa_ne, hpa_hpa, hpf_hpf, nI_1, two_ne, fokZ, implies_true, Nat.reduceEqDiff, g_0_0, rc_1, g_0_1, sf_0_1, fe_0_1, rc_31, rc_35, rc_37, rc_39, rc_41, rc_46, rc_48, rc_50, rc_53, rc_55, rc_57, rc_59, rc_63, rc_66, hs2, f2, show (nI (24 - 8 * k) < 0) = False from eq_false (nI_pos (by omega)), eu, c_Cells_set (g_1_0 hs2) (ga_2 hs2) hx]
      have es : cSet (ar H2 2) (nI (t + k)) ((w >>> (nI (24 - 8 * k) &&& 31)) &&& 255) = (ar H2 2).set (t + k) ((w >>> (nI (24 - 8 * k) &&& 31)) &&& 255) := by
        unfold cSet
        rw [nI_clamp (by omega), inb_nI (by omega), gn_2 hs2, if_pos (decide_eq_true (by omega))]
      rw [es]
      have hs3 : Shp (hpa H2 2 ((ar H2 2).set (t + k) ((w >>> (nI (24 - 8 * k) &&& 31)) &&& 255))) := sa_2 hs2 (by rw [List.length_set, gn_2 hs2])
      simp (maxDischargeDepth := 12) only [w120_0, w120_2, w120_4, w120_7, w120_8, w120_11, w120_12, w120_15, w120_16, w120_17, w120_18, w120_21, w120_22, w120_25, w120_26, w120_27, w120_30, w120_31, w120_32, w120_35, w120_38, w120_41, oK_some, cont_int, cont_intS, cont_none, cont_noneS, cont_long, cont_longS, true_and, and_true, false_and, and_false, true_implies, false_implies, not_true_eq_false, not_false_eq_true, eq_self, or_true, true_or, Option.isSome_some, hpf_length, hpa_length, bI_eq0, fi_hpa, fl_hpa, ar_hpf, fi_hpf_ne, fl_hpf_ne, ar_hpa_ne, hpa_hpa, hpf_hpf, nI_1, two_ne, fokZ, implies_true, Nat.reduceEqDiff, g_0_0, rc_1, g_0_1, sf_0_1, fe_0_1, rc_31, rc_35, rc_37, rc_39, rc_41, rc_46, rc_48, rc_50, rc_53, rc_55, rc_57, rc_59, rc_63, rc_66, hs3, f2]
      refine ih' _ ?_ _ ((hF2.trans (fg_hpa hs2 (by rw [List.length_set]) (by decide))).trans (fg_hpf (a := 0) (f := 1) (ci := 11) hs3 rfl (by decide))) ?_ ?_
      · by_cases e : k + 1 = 4
        · rw [if_pos e, show k = 3 by omega]
          decide
        · rw [if_neg e]
          have c : k = 0 ∨ k = 1 ∨ k = 2 := by omega
          rcases c with rfl | rfl | rfl <;> decide
      · rw [ar_hpf, ae_2 hs2, a2]
        rfl
      · rw [fe_0_1 hs3]
        rfl
  exact key 0 (by decide) 24 rfl H (Fg.rfl' hS) rfl ht
theorem forN_add {α : Type} {F : Nat → α → α} {a : Nat} {x : α} : ∀ b, forN F (a + b) x = forN (fun k => F (a + k)) b (forN F a x)
  | 0 => rfl
  | b + 1 => by rw [← Nat.add_assoc, forN_succ, forN_succ, forN_add b]
theorem fdT_4 {a b c e f w : Int32} {t k0 : Nat} {xs : List Int32} (hw : ∀ k, k < 4 → fdV a b c e f (k0 + k) = (w >>> (nI (24 - 8 * k) &&& 31)) &&& 255) : fdT a b c e f t (k0 + 4) xs = forN (fun k ys => ys.set (t + k0 + k) ((w >>> (nI (24 - 8 * k) &&& 31)) &&& 255)) 4 (fdT a b c e f t k0 xs) := by
  unfold fdT
  rw [forN_add]
  refine forN_congr 4 _ (fun k hk ys => ?_)
  rw [hw k hk, Nat.add_assoc]
theorem C_feed {a b c e f : Int32} {t : Nat} (hS : Shp H) (ht : fi H 0 1 = nI t) (hb : t ≤ 900) (hQ : ∀ H', Fg [2] [(0, 1)] H H' → (t + 20 ≤ 900 → ar H' 2 = fdT a b c e f t 20 (ar H 2) ∧ fi H' 0 1 = nI (t + 20)) → (¬ t + 20 ≤ 900 → ar H' 2 = ar H 2 ∧ fi H' 0 1 = nI t) → Q (some (.int (if t + 20 ≤ 900 then nI (t + 20) else -1))) H') : Wp scr (d + 2) 119 0 [some (.ref 0), some (.int a), some (.int b), some (.int c), some (.int e), some (.int f)] [] H Q := by
  have e20 : nI t + 20 = nI (t + 20) := ixa t 20 (v := 20) rfl
  by_cases h9 : t + 20 ≤ 900
  · have h9' : (nI (t + 20) ≤ 900) = True := eq_true (nI_le (b := 900) h9 (by decide))
    rw [if_pos h9] at hQ
    simp (maxDischargeDepth := 12) only [w119_0, w119_1, w119_4, w119_6, w119_7, w119_10, w119_13, w119_14, w119_15, w119_16, w119_17, w119_20, w119_21, w119_22, w119_25, w119_26, w119_27, w119_30, w119_31, w119_33, w119_36, w119_37, w119_39, w119_42, w119_43, w119_46, oK_some, cont_int, cont_intS, cont_none, cont_noneS, cont_long, cont_longS, true_and, and_true, false_and, and_false, true_implies, false_implies, not_true_eq_false, not_false_eq_true, eq_self, or_true, true_or, Option.isSome_some, hpf_length, hpa_length, bI_eq0, fi_hpa, fl_hpa, ar_hpf, fi_hpf_ne, fl_hpf_ne, ar_hpa_ne, hpa_hpa, hpf_hpf, nI_1, two_ne, fokZ, implies_true, Nat.reduceEqDiff, g_0_1, sf_0_1, fe_0_1, rc_0, hS, ht, e20, h9']
    have V : ∀ k0 w, (∀ k, k < 4 → (if k0 + k < 4 then a else if k0 + k < 8 then b else if k0 + k < 12 then c else if k0 + k < 16 then e else f) = w) → (k0 % 4 = 0) → ∀ k, k < 4 → fdV a b c e f (k0 + k) = (w >>> (nI (24 - 8 * k) &&& 31)) &&& 255 := fun k0 w hw h4 k hk => by
      unfold fdV
      rw [hw k hk, show (k0 + k) % 4 = k by omega]
    refine c_feedNumber hS ht (by omega) (fun H1 hF1 a1 f1 => ?_)
    have hs1 := hF1.shp
    have b1 := a1.trans (fdT_4 (a := a) (b := b) (c := c) (e := e) (f := f) (k0 := 0) (t := t) (w := a) (xs := ar H 2) (V 0 a (fun k hk => by rw [if_pos (by omega)]) rfl)).symm
    simp (maxDischargeDepth := 12) only [w119_0, w119_1, w119_4, w119_6, w119_7, w119_10, w119_13, w119_14, w119_15, w119_16, w119_17, w119_20, w119_21, w119_22, w119_25, w119_26, w119_27, w119_30, w119_31, w119_33, w119_36, w119_37, w119_39, w119_42, w119_43, w119_46, oK_some, cont_int, cont_intS, cont_none, cont_noneS, cont_long, cont_longS, true_and, and_true, false_and, and_false, true_implies, false_implies, not_true_eq_false, not_false_eq_true, eq_self, or_true, true_or, Option.isSome_some, hpf_length, hpa_length, bI_eq0, fi_hpa, fl_hpa, ar_hpf, fi_hpf_ne, fl_hpf_ne, ar_hpa_ne, hpa_hpa, hpf_hpf, nI_1, two_ne, fokZ, implies_true, Nat.reduceEqDiff, g_0_1, sf_0_1, fe_0_1, rc_0, hF1.len, hs1]
    refine c_feedNumber hs1 f1 (by omega) (fun H2 hF2 a2 f2 => ?_)
    have hs2 := hF2.shp
    rw [b1] at a2
    have b2 := a2.trans (fdT_4 (a := a) (b := b) (c := c) (e := e) (f := f) (k0 := 4) (t := t) (w := b) (xs := ar H 2) (V 4 b (fun k hk => by rw [if_neg (by omega), if_pos (by omega)]) rfl)).symm
    simp (maxDischargeDepth := 12) only [w119_0, w119_1, w119_4, w119_6, w119_7, w119_10, w119_13, w119_14, w119_15, w119_16, w119_17, w119_20, w119_21, w119_22, w119_25, w119_26, w119_27, w119_30, w119_31, w119_33, w119_36, w119_37, w119_39, w119_42, w119_43, w119_46, oK_some, cont_int, cont_intS, cont_none, cont_noneS, cont_long, cont_longS, true_and, and_true, false_and, and_false, true_implies, false_implies, not_true_eq_false, not_false_eq_true, eq_self, or_true, true_or, Option.isSome_some, hpf_length, hpa_length, bI_eq0, fi_hpa, fl_hpa, ar_hpf, fi_hpf_ne, fl_hpf_ne, ar_hpa_ne, hpa_hpa, hpf_hpf, nI_1, two_ne, fokZ, implies_true, Nat.reduceEqDiff, g_0_1, sf_0_1, fe_0_1, rc_0, hF2.len, hs2]
    refine c_feedNumber hs2 f2 (by omega) (fun H3 hF3 a3 f3 => ?_)
    have hs3 := hF3.shp
    rw [b2] at a3
    have b3 := a3.trans (fdT_4 (a := a) (b := b) (c := c) (e := e) (f := f) (k0 := 8) (t := t) (w := c) (xs := ar H 2) (V 8 c (fun k hk => by rw [if_neg (by omega), if_neg (by omega), if_pos (by omega)]) rfl)).symm
    simp (maxDischargeDepth := 12) only [w119_0, w119_1, w119_4, w119_6, w119_7, w119_10, w119_13, w119_14, w119_15, w119_16, w119_17, w119_20, w119_21, w119_22, w119_25, w119_26, w119_27, w119_30, w119_31, w119_33, w119_36, w119_37, w119_39, w119_42, w119_43, w119_46, oK_some, cont_int, cont_intS, cont_none, cont_noneS, cont_long, cont_longS, true_and, and_true, false_and, and_false, true_implies, false_implies, not_true_eq_false, not_false_eq_true, eq_self, or_true, true_or, Option.isSome_some, hpf_length, hpa_length, bI_eq0, fi_hpa, fl_hpa, ar_hpf, fi_hpf_ne, fl_hpf_ne, ar_hpa_ne, hpa_hpa, hpf_hpf, nI_1, two_ne, fokZ, implies_true, Nat.reduceEqDiff, g_0_1, sf_0_1, fe_0_1, rc_0, hF3.len, hs3]
    refine c_feedNumber hs3 f3 (by omega) (fun H4 hF4 a4 f4 => ?_)
    have hs4 := hF4.shp
    rw [b3] at a4
    have b4 := a4.trans (fdT_4 (a := a) (b := b) (c := c) (e := e) (f := f) (k0 := 12) (t := t) (w := e) (xs := ar H 2) (V 12 e (fun k hk => by rw [if_neg (by omega), if_neg (by omega), if_neg (by omega), if_pos (by omega)]) rfl)).symm
    simp (maxDischargeDepth := 12) only [w119_0, w119_1, w119_4, w119_6, w119_7, w119_10, w119_13, w119_14, w119_15, w119_16, w119_17, w119_20, w119_21, w119_22, w119_25, w119_26, w119_27, w119_30, w119_31, w119_33, w119_36, w119_37, w119_39, w119_42, w119_43, w119_46, oK_some, cont_int, cont_intS, cont_none, cont_noneS, cont_long, cont_longS, true_and, and_true, false_and, and_false, true_implies, false_implies, not_true_eq_false, not_false_eq_true, eq_self, or_true, true_or, Option.isSome_some, hpf_length, hpa_length, bI_eq0, fi_hpa, fl_hpa, ar_hpf, fi_hpf_ne, fl_hpf_ne, ar_hpa_ne, hpa_hpa, hpf_hpf, nI_1, two_ne, fokZ, implies_true, Nat.reduceEqDiff, g_0_1, sf_0_1, fe_0_1, rc_0, hF4.len, hs4]
    refine c_feedNumber hs4 f4 (by omega) (fun H5 hF5 a5 f5 => ?_)
    have hs5 := hF5.shp
    rw [b4] at a5
    have b5 := a5.trans (fdT_4 (a := a) (b := b) (c := c) (e := e) (f := f) (k0 := 16) (t := t) (w := f) (xs := ar H 2) (V 16 f (fun k hk => by rw [if_neg (by omega), if_neg (by omega), if_neg (by omega), if_neg (by omega)]) rfl)).symm
    simp (maxDischargeDepth := 12) only [w119_0, w119_1, w119_4, w119_6, w119_7, w119_10, w119_13, w119_14, w119_15, w119_16, w119_17, w119_20, w119_21, w119_22, w119_25, w119_26, w119_27, w119_30, w119_31, w119_33, w119_36, w119_37, w119_39, w119_42, w119_43, w119_46, oK_some, cont_int, cont_intS, cont_none, cont_noneS, cont_long, cont_longS, true_and, and_true, false_and, and_false, true_implies, false_implies, not_true_eq_false, not_false_eq_true, eq_self, or_true, true_or, Option.isSome_some, hpf_length, hpa_length, bI_eq0, fi_hpa, fl_hpa, ar_hpf, fi_hpf_ne, fl_hpf_ne, ar_hpa_ne, hpa_hpa, hpf_hpf, nI_1, two_ne, fokZ, implies_true, Nat.reduceEqDiff, g_0_1, sf_0_1, fe_0_1, rc_0, hF5.len, hs5, f5]
    exact hQ H5 ((((hF1.trans hF2).trans hF3).trans hF4).trans hF5) (fun _ => ⟨b5, f5⟩) (fun q => absurd h9 q)
  · have h9' : (nI (t + 20) ≤ 900) = False := eq_false (nI_ge (a := 900) (b := t + 20) (by omega) (by omega))
    rw [if_neg h9] at hQ
    simp (maxDischargeDepth := 12) only [w119_0, w119_1, w119_4, w119_6, w119_7, w119_10, w119_13, w119_14, w119_15, w119_16, w119_17, w119_20, w119_21, w119_22, w119_25, w119_26, w119_27, w119_30, w119_31, w119_33, w119_36, w119_37, w119_39, w119_42, w119_43, w119_46, oK_some, cont_int, cont_intS, cont_none, cont_noneS, cont_long, cont_longS, true_and, and_true, false_and, and_false, true_implies, false_implies, not_true_eq_false, not_false_eq_true, eq_self, or_true, true_or, Option.isSome_some, hpf_length, hpa_length, bI_eq0, fi_hpa, fl_hpa, ar_hpf, fi_hpf_ne, fl_hpf_ne, ar_hpa_ne, hpa_hpa, hpf_hpf, nI_1, two_ne, fokZ, implies_true, Nat.reduceEqDiff, g_0_1, sf_0_1, fe_0_1, rc_0, hS, ht, e20, h9']
    exact hQ H (Fg.rfl' hS) (fun q => absurd q h9) (fun _ => ⟨rfl, ht⟩)
end CACTS2
