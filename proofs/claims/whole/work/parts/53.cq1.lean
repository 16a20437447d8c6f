/-! ===== the class: queries of what is now, of days to come ===== -/
abbrev SC : List Nat := [33, 34, 36, 38, 40, 42, 43, 44, 45, 47, 49, 51, 52, 54, 56, 58, 60, 61]
abbrev FC : List (Nat × Nat) := [(0, 13)]
/-- a query's end -/
def CR (H : List AC) (Q : Option Value → List AC → Prop) (res tr : Int32) : Prop := ∀ H', Fg SC FC H H' → fi H' 0 13 = tr → Q (some (.int res)) H'
section CQ
variable {scr : List Int32} {d n nS nW nG nU nN : Nat} {H : List AC} {R st ws : List Int32} {rum : Int32} {Q : Option Value → List AC → Prop}
theorem CIv.tr {v : Int32} (hC : CIv H R st n nS nW nG nU nN) : CIv (hpf H 0 13 (.int v)) R st n nS nW nG nU nN := hC.of (S := []) (F := [(0, 13)]) (fg_hpf (a := 0) (f := 13) (ci := 11) hC.shp rfl (by decide)) (by decide) (by decide)
theorem cr_ok {res t : Int32} {S : List Nat} {F : List (Nat × Nat)} {H2 : List AC} (hS : Shp H) (hF : Fg S F (hpf H 0 13 (.int t)) H2) (hs : ∀ a ∈ S, a ∈ SC) (hf : ∀ p ∈ F, p ∈ FC ∨ p.1 ∈ SC) (h0 : 0 ∉ S) (h13 : (0, 13) ∉ F) (hQ : CR H Q res t) : Q (some (.int res)) H2 := by
  refine hQ _ (((fg_hpf (a := 0) (f := 13) (ci := 11) hS rfl (by decide)) : Fg SC FC _ _).trans (hF.mono hs hf)) ?_
  rw [hF.int h0 h13, fe_0_13 hS]
theorem cr_no {t v : Int32} (hS : Shp H) (hQ : CR H Q v t) : Q (some (.int v)) (hpf H 0 13 (.int t)) := hQ _ (fg_hpf (a := 0) (f := 13) (ci := 11) hS rfl (by decide)) (fe_0_13 hS)
theorem nI0 {n : Nat} (h : n < 100) : (nI n = 0) = (n = 0) := propext (nI_eq (b := 0) (by omega) (by decide))
theorem c_slopeTrouble (hC : CIv H R st n nS nW nG nU nN) : Wp scr (d + 1) 124 0 [some (.ref 0)] [] H Q ↔ Q (some (.int (if 0 < n then 0 else 1))) H := by
  refine Wp_iff ?_
  have hS := hC.shp
  have c2 := hC.1.2.1.1
  have b2 := hC.1.2.1.2.2.2.2.2.2.1
  simp (maxDischargeDepth := 12) only [w124_0, w124_1, w124_4, w124_7, w124_10, w124_13, w124_14, w124_17, w124_18, oK_some, cont_int, cont_intS, cont_none, cont_noneS, cont_long, cont_longS, true_and, and_true, false_and, and_false, true_implies, false_implies, not_true_eq_false, not_false_eq_true, eq_self, or_true, true_or, Option.isSome_some, hpf_length, hpa_length, bI_eq0, fi_hpa, fl_hpa, ar_hpf, fi_hpf_ne, fl_hpf_ne, ar_hpa_ne, hpa_hpa, hpf_hpf, nI_1, two_ne, fokZ, implies_true, Nat.reduceEqDiff, g_0_2, rc_3, g_3_2, rc_4, g_16_2, rc_17, rc_6, rc_8, rc_10, rc_12, rc_14, rc_19, rc_21, rc_23, rc_25, rc_27, hS, c_Table_count (g_4_2 hS), c2, nI0 (by omega : n < 100)]
  by_cases hz : n = 0
  · subst hz; simp
  · have : 0 < n := by omega
    simp [hz, this]
theorem c_rowTrouble {k : Int32} (hC : CIv H R st n nS nW nG nU nN) : Wp scr (d + 1) 125 0 [some (.ref 0), some (.int k)] [] H Q ↔ Q (some (.int (if 0 ≤ k ∧ k < nI n then 0 else 1))) H := by
  refine Wp_iff ?_
  have hS := hC.shp
  have c2 := hC.1.2.1.1
  simp (maxDischargeDepth := 12) only [w125_0, w125_1, w125_4, w125_7, w125_8, w125_11, w125_14, w125_15, w125_18, w125_19, oK_some, cont_int, cont_intS, cont_none, cont_noneS, cont_long, cont_longS, true_and, and_true, false_and, and_false, true_implies, false_implies, not_true_eq_false, not_false_eq_true, eq_self, or_true, true_or, Option.isSome_some, hpf_length, hpa_length, bI_eq0, fi_hpa, fl_hpa, ar_hpf, fi_hpf_ne, fl_hpf_ne, ar_hpa_ne, hpa_hpa, hpf_hpf, nI_1, two_ne, fokZ, implies_true, Nat.reduceEqDiff, g_0_2, rc_3, g_3_2, rc_4, g_16_2, rc_17, rc_6, rc_8, rc_10, rc_12, rc_14, rc_19, rc_21, rc_23, rc_25, rc_27, hS, c_Table_has (g_4_2 hS), c2, decide_eq_false_iff_not]
  by_cases hz : 0 ≤ k ∧ k < nI n <;> simp [hz]
theorem c_numberTrouble {m most : Int32} : Wp scr d 126 0 [some (.int m), some (.int most)] [] H Q ↔ Q (some (.int (if 0 ≤ m ∧ m ≤ most then 0 else 2))) H := by
  refine Wp_iff ?_
  simp (maxDischargeDepth := 12) only [w126_0, w126_1, w126_4, w126_5, w126_6, w126_9, w126_10, w126_13, w126_14, oK_some, cont_int, cont_intS, cont_none, cont_noneS, cont_long, cont_longS, true_and, and_true, false_and, and_false, true_implies, false_implies, not_true_eq_false, not_false_eq_true, eq_self, or_true, true_or, Option.isSome_some, hpf_length, hpa_length, bI_eq0, fi_hpa, fl_hpa, ar_hpf, fi_hpf_ne, fl_hpf_ne, ar_hpa_ne, hpa_hpa, hpf_hpf, nI_1, two_ne, fokZ, implies_true, Nat.reduceEqDiff]
  have e1 : 0 ≤ m ↔ ¬ m < 0 := by rw [Int32.not_lt]
  by_cases c1 : m < 0
  · simp [c1, e1]
  · by_cases c2 : m ≤ most
    · simp [c1, c2, e1]
    · simp [c1, c2, e1]
theorem w01 {th : Bool} {m most : Int32} : (if th = true then (if 0 ≤ m ∧ m ≤ most then (0 : Int32) else 2) else 1) = whyF th m most := by
  unfold whyF
  cases th <;> simp
theorem c_daysTrouble {m : Int32} (hC : CIv H R st n nS nW nG nU nN) : Wp scr (d + 2) 127 0 [some (.ref 0), some (.int m)] [] H Q ↔ Q (some (.int (whyF (decide (0 < n)) m 40))) H := by
  refine Wp_iff ?_
  have hS := hC.shp
  simp (maxDischargeDepth := 12) only [w127_0, w127_1, w127_4, w127_7, w127_8, w127_11, w127_12, w127_14, w127_17, oK_some, cont_int, cont_intS, cont_none, cont_noneS, cont_long, cont_longS, true_and, and_true, false_and, and_false, true_implies, false_implies, not_true_eq_false, not_false_eq_true, eq_self, or_true, true_or, Option.isSome_some, hpf_length, hpa_length, bI_eq0, fi_hpa, fl_hpa, ar_hpf, fi_hpf_ne, fl_hpf_ne, ar_hpa_ne, hpa_hpa, hpf_hpf, nI_1, two_ne, fokZ, implies_true, Nat.reduceEqDiff, rc_0, hS, c_slopeTrouble hC, c_numberTrouble]
  rw [← w01]
  by_cases hz : 0 < n <;> simp [hz]
theorem c_hailTrouble {m : Int32} (hC : CIv H R st n nS nW nG nU nN) : Wp scr (d + 2) 129 0 [some (.ref 0), some (.int m)] [] H Q ↔ Q (some (.int (whyF (decide (0 < n)) m 6))) H := by
  refine Wp_iff ?_
  have hS := hC.shp
  simp (maxDischargeDepth := 12) only [w129_0, w129_1, w129_4, w129_7, w129_8, w129_11, w129_12, w129_14, w129_17, oK_some, cont_int, cont_intS, cont_none, cont_noneS, cont_long, cont_longS, true_and, and_true, false_and, and_false, true_implies, false_implies, not_true_eq_false, not_false_eq_true, eq_self, or_true, true_or, Option.isSome_some, hpf_length, hpa_length, bI_eq0, fi_hpa, fl_hpa, ar_hpf, fi_hpf_ne, fl_hpf_ne, ar_hpa_ne, hpa_hpa, hpf_hpf, nI_1, two_ne, fokZ, implies_true, Nat.reduceEqDiff, rc_0, hS, c_slopeTrouble hC, c_numberTrouble]
  rw [← w01]
  by_cases hz : 0 < n <;> simp [hz]
theorem c_rowDaysTrouble {k m : Int32} (hC : CIv H R st n nS nW nG nU nN) : Wp scr (d + 2) 128 0 [some (.ref 0), some (.int k), some (.int m)] [] H Q ↔ Q (some (.int (whyF (decide (0 ≤ k ∧ k < nI n)) m 40))) H := by
  refine Wp_iff ?_
  have hS := hC.shp
  simp (maxDischargeDepth := 12) only [w128_0, w128_1, w128_2, w128_5, w128_8, w128_9, w128_12, w128_13, w128_15, w128_18, oK_some, cont_int, cont_intS, cont_none, cont_noneS, cont_long, cont_longS, true_and, and_true, false_and, and_false, true_implies, false_implies, not_true_eq_false, not_false_eq_true, eq_self, or_true, true_or, Option.isSome_some, hpf_length, hpa_length, bI_eq0, fi_hpa, fl_hpa, ar_hpf, fi_hpf_ne, fl_hpf_ne, ar_hpa_ne, hpa_hpa, hpf_hpf, nI_1, two_ne, fokZ, implies_true, Nat.reduceEqDiff, rc_0, hS, c_rowTrouble hC, c_numberTrouble]
  rw [← w01]
  by_cases hz : 0 ≤ k ∧ k < nI n <;> simp [hz]
theorem c_graftTrouble {seed m : Int32} (hC : CIv H R st n nS nW nG nU nN) : Wp scr (d + 3) 130 0 [some (.ref 0), some (.int seed), some (.int m), none] [] H Q ↔ Q (some (.int (gwF (decide (0 < n)) seed m))) H := by
  refine Wp_iff ?_
  have hS := hC.shp
  simp (maxDischargeDepth := 12) only [w130_0, w130_1, w130_2, w130_5, w130_6, w130_7, w130_10, w130_11, w130_14, w130_15, w130_17, w130_20, oK_some, cont_int, cont_intS, cont_none, cont_noneS, cont_long, cont_longS, true_and, and_true, false_and, and_false, true_implies, false_implies, not_true_eq_false, not_false_eq_true, eq_self, or_true, true_or, Option.isSome_some, hpf_length, hpa_length, bI_eq0, fi_hpa, fl_hpa, ar_hpf, fi_hpf_ne, fl_hpf_ne, ar_hpa_ne, hpa_hpa, hpf_hpf, nI_1, two_ne, fokZ, implies_true, Nat.reduceEqDiff, rc_0, hS, c_daysTrouble hC, c_numberTrouble]
  unfold gwF whyF
  by_cases hz : 0 < n
  · by_cases h1 : 0 ≤ m ∧ m ≤ 40
    · by_cases h2 : 0 ≤ seed ∧ seed ≤ 65536 <;> simp [hz, h1, h2]
    · simp [hz, h1]
  · simp [hz]
theorem c_rowGraftTrouble {k seed m : Int32} (hC : CIv H R st n nS nW nG nU nN) : Wp scr (d + 4) 131 0 [some (.ref 0), some (.int k), some (.int seed), some (.int m)] [] H Q ↔ Q (some (.int (gwF (decide (0 ≤ k ∧ k < nI n)) seed m))) H := by
  refine Wp_iff ?_
  have hS := hC.shp
  have b2 := hC.1.2.1.2.2.2.2.2.2.1
  simp (maxDischargeDepth := 12) only [w131_0, w131_1, w131_2, w131_5, w131_8, w131_9, w131_12, w131_13, w131_14, w131_15, w131_18, oK_some, cont_int, cont_intS, cont_none, cont_noneS, cont_long, cont_longS, true_and, and_true, false_and, and_false, true_implies, false_implies, not_true_eq_false, not_false_eq_true, eq_self, or_true, true_or, Option.isSome_some, hpf_length, hpa_length, bI_eq0, fi_hpa, fl_hpa, ar_hpf, fi_hpf_ne, fl_hpf_ne, ar_hpa_ne, hpa_hpa, hpf_hpf, nI_1, two_ne, fokZ, implies_true, Nat.reduceEqDiff, rc_0, hS, c_rowTrouble hC, c_graftTrouble hC]
  by_cases hk : 0 ≤ k ∧ k < nI n
  · have hz : 0 < n := by
      have := (of_row hk (by omega)).2
      omega
    simp [hk, hz]
  · have e : gwF (decide (0 ≤ k ∧ k < nI n)) seed m = 1 := by unfold gwF; simp [hk]
    rw [e]
    simp [hk]
theorem C_doubters (hC : CIv H R st n nS nW nG nU nN) (hQ : CR H Q (if 0 < n then dbt n st else -1) (if 0 < n then 0 else 1)) : Wp scr (d + 3) 135 0 [some (.ref 0)] [] H Q := by
  have hS := hC.shp
  obtain ⟨c2, c3, c4, c5, c6, c7, b2, b3, b4, b5, b6, b7⟩ := id hC.1.2.1
  have hs0 := sf_0_13 (v := 0) hS
  have hC0 := hC.tr (v := 0)
  by_cases hp : 0 < n
  · rw [if_pos hp, if_pos hp] at hQ
    have hx : (ar (hpf H 0 13 (.int 0)) 32).length < 2147483648 := by rw [gn_32 hs0]; decide
    simp (maxDischargeDepth := 12) only [w135_0, w135_1, w135_2, w135_5, w135_8, w135_9, w135_12, w135_15, w135_16, w135_19, w135_20, w135_23, w135_24, w135_27, w135_30, oK_some, cont_int, cont_intS, cont_none, cont_noneS, cont_long, cont_longS, true_and, and_true, false_and, and_false, true_implies, false_implies, not_true_eq_false, not_false_eq_true, eq_self, or_true, true_or, Option.isSome_some, hpf_length, hpa_length, bI_eq0, fi_hpa, fl_hpa, ar_hpf, fi_hpf_ne, fl_hpf_ne, ar_hpa_ne, hpa_hpa, hpf_hpf, nI_1, two_ne, fokZ, implies_true, Nat.reduceEqDiff, rc_0, g_0_13, sf_0_13, fe_0_13, g_0_2, rc_3, g_0_5, rc_30, rc_16, hS, c_slopeTrouble hC, hp, if_true, hs0, c_doubtersOf hs0 hC0.1.2.1.1 (by omega : n < 100000) (g_30_0 hs0) (g_31_0 hs0) (ga_32 hs0) hx, dbt_congr hC.2.1.1 (by omega : n < 100000)]
    exact cr_no hS hQ
  · rw [if_neg hp, if_neg hp] at hQ
    simp (maxDischargeDepth := 12) only [w135_0, w135_1, w135_2, w135_5, w135_8, w135_9, w135_12, w135_15, w135_16, w135_19, w135_20, w135_23, w135_24, w135_27, w135_30, oK_some, cont_int, cont_intS, cont_none, cont_noneS, cont_long, cont_longS, true_and, and_true, false_and, and_false, true_implies, false_implies, not_true_eq_false, not_false_eq_true, eq_self, or_true, true_or, Option.isSome_some, hpf_length, hpa_length, bI_eq0, fi_hpa, fl_hpa, ar_hpf, fi_hpf_ne, fl_hpf_ne, ar_hpa_ne, hpa_hpa, hpf_hpf, nI_1, two_ne, fokZ, implies_true, Nat.reduceEqDiff, rc_0, g_0_13, sf_0_13, fe_0_13, g_0_2, rc_3, g_0_5, rc_30, rc_16, hS, c_slopeTrouble hC, hp, if_false, show ((1 : Int32) = 0) = False from eq_false (by decide)]
    exact cr_no hS hQ
theorem C_grapes (hC : CIv H R st n nS nW nG nU nN) (hQ : CR H Q (if 0 < n then forN (allG R st) n 0 else -1) (if 0 < n then 0 else 1)) : Wp scr (d + 4) 136 0 [some (.ref 0)] [] H Q := by
  have hS := hC.shp
  obtain ⟨c2, c3, c4, c5, c6, c7, b2, b3, b4, b5, b6, b7⟩ := id hC.1.2.1
  have hs0 := sf_0_13 (v := 0) hS
  have hC0 := hC.tr (v := 0)
  by_cases hp : 0 < n
  · rw [if_pos hp, if_pos hp] at hQ
    have hx : (ar (hpf H 0 13 (.int 0)) 32).length < 2147483648 := by rw [gn_32 hs0]; decide
    simp (maxDischargeDepth := 12) only [w136_0, w136_1, w136_2, w136_5, w136_8, w136_9, w136_12, w136_15, w136_16, w136_19, w136_20, w136_23, w136_24, w136_27, w136_30, oK_some, cont_int, cont_intS, cont_none, cont_noneS, cont_long, cont_longS, true_and, and_true, false_and, and_false, true_implies, false_implies, not_true_eq_false, not_false_eq_true, eq_self, or_true, true_or, Option.isSome_some, hpf_length, hpa_length, bI_eq0, fi_hpa, fl_hpa, ar_hpf, fi_hpf_ne, fl_hpf_ne, ar_hpa_ne, hpa_hpa, hpf_hpf, nI_1, two_ne, fokZ, implies_true, Nat.reduceEqDiff, rc_0, g_0_13, sf_0_13, fe_0_13, g_0_2, rc_3, g_0_5, rc_30, rc_16, hS, c_slopeTrouble hC, hp, if_true, hs0, c_borneBy hs0 hC0.1.2.1.1 (by omega : n < 100000) (g_30_0 hs0) (g_31_0 hs0) (ga_32 hs0) hx, brnF_eq hC.1 hC.2.1.1]
    exact cr_no hS hQ
  · rw [if_neg hp, if_neg hp] at hQ
    simp (maxDischargeDepth := 12) only [w136_0, w136_1, w136_2, w136_5, w136_8, w136_9, w136_12, w136_15, w136_16, w136_19, w136_20, w136_23, w136_24, w136_27, w136_30, oK_some, cont_int, cont_intS, cont_none, cont_noneS, cont_long, cont_longS, true_and, and_true, false_and, and_false, true_implies, false_implies, not_true_eq_false, not_false_eq_true, eq_self, or_true, true_or, Option.isSome_some, hpf_length, hpa_length, bI_eq0, fi_hpa, fl_hpa, ar_hpf, fi_hpf_ne, fl_hpf_ne, ar_hpa_ne, hpa_hpa, hpf_hpf, nI_1, two_ne, fokZ, implies_true, Nat.reduceEqDiff, rc_0, g_0_13, sf_0_13, fe_0_13, g_0_2, rc_3, g_0_5, rc_30, rc_16, hS, c_slopeTrouble hC, hp, if_false, show ((1 : Int32) = 0) = False from eq_false (by decide)]
    exact cr_no hS hQ
theorem C_weakest (hC : CIv H R st n nS nW nG nU nN) (hQ : CR H Q (if 0 < n then nI (forN (wkF st) (n - 1) 0) else -1) (if 0 < n then 0 else 1)) : Wp scr (d + 2) 137 0 [some (.ref 0), none, none] [] H Q := by
  have hS := hC.shp
  obtain ⟨c2, c3, c4, c5, c6, c7, b2, b3, b4, b5, b6, b7⟩ := id hC.1.2.1
  have hs0 := sf_0_13 (v := 0) hS
  have hC0 := hC.tr (v := 0)
  by_cases hp : 0 < n
  · rw [if_pos hp, if_pos hp] at hQ
    have hx : (ar (hpf H 0 13 (.int 0)) 32).length < 2147483648 := by rw [gn_32 hs0]; decide
    have c2' := hC0.1.2.1.1
    simp (maxDischargeDepth := 12) only [w137_0, w137_1, w137_2, w137_5, w137_8, w137_9, w137_12, w137_15, w137_16, w137_17, w137_18, w137_19, w137_20, w137_22, w137_23, w137_26, w137_29, w137_32, w137_35, w137_36, w137_39, w137_42, w137_43, w137_46, w137_47, w137_50, w137_53, w137_54, w137_57, w137_60, w137_61, w137_62, w137_65, w137_68, w137_69, oK_some, cont_int, cont_intS, cont_none, cont_noneS, cont_long, cont_longS, true_and, and_true, false_and, and_false, true_implies, false_implies, not_true_eq_false, not_false_eq_true, eq_self, or_true, true_or, Option.isSome_some, hpf_length, hpa_length, bI_eq0, fi_hpa, fl_hpa, ar_hpf, fi_hpf_ne, fl_hpf_ne, ar_hpa_ne, hpa_hpa, hpf_hpf, nI_1, two_ne, fokZ, implies_true, Nat.reduceEqDiff, rc_0, g_0_13, sf_0_13, fe_0_13, g_0_2, rc_3, g_3_2, rc_4, g_16_2, rc_17, rc_6, rc_8, rc_10, rc_12, rc_14, rc_19, rc_21, rc_23, rc_25, rc_27, g_0_5, rc_30, g_30_0, rc_31, g_34_0, rc_35, g_45_0, rc_46, rc_1, rc_37, rc_39, rc_41, rc_48, rc_50, rc_53, rc_55, rc_57, rc_59, rc_63, rc_66, hS, c_slopeTrouble hC, hp, if_true, hs0]
    have key := down (P := fun i => Wp scr (d + 2) 137 21 [some (.ref 0), some (.int (nI (forN (wkF st) i 0))), some (.int (nI (i + 1)))] [] (hpf H 0 13 (.int 0)) Q) (n - 1) ?_ ?_
    · exact key
    · rw [show n - 1 + 1 = n by omega, w137_21]
      simp (maxDischargeDepth := 12) only [w137_0, w137_1, w137_2, w137_5, w137_8, w137_9, w137_12, w137_15, w137_16, w137_17, w137_18, w137_19, w137_20, w137_22, w137_23, w137_26, w137_29, w137_32, w137_35, w137_36, w137_39, w137_42, w137_43, w137_46, w137_47, w137_50, w137_53, w137_54, w137_57, w137_60, w137_61, w137_62, w137_65, w137_68, w137_69, oK_some, cont_int, cont_intS, cont_none, cont_noneS, cont_long, cont_longS, true_and, and_true, false_and, and_false, true_implies, false_implies, not_true_eq_false, not_false_eq_true, eq_self, or_true, true_or, Option.isSome_some, hpf_length, hpa_length, bI_eq0, fi_hpa, fl_hpa, ar_hpf, fi_hpf_ne, fl_hpf_ne, ar_hpa_ne, hpa_hpa, hpf_hpf, nI_1, two_ne, fokZ, implies_true, Nat.reduceEqDiff, rc_0, g_0_13, sf_0_13, fe_0_13, g_0_2, rc_3, g_3_2, rc_4, g_16_2, rc_17, rc_6, rc_8, rc_10, rc_12, rc_14, rc_19, rc_21, rc_23, rc_25, rc_27, g_0_5, rc_30, g_30_0, rc_31, g_34_0, rc_35, g_45_0, rc_46, rc_1, rc_37, rc_39, rc_41, rc_48, rc_50, rc_53, rc_55, rc_57, rc_59, rc_63, rc_66, hs0, c_Table_count (g_4_2 hs0), c2', nI_les]
      exact cr_no hS hQ
    · intro i hi hw
      have hb := wkF_le (xs := st) i
      rw [forN_succ] at hw
      generalize forN (wkF st) i 0 = b at hw hb ⊢
      rw [w137_21]
      simp (maxDischargeDepth := 12) only [w137_0, w137_1, w137_2, w137_5, w137_8, w137_9, w137_12, w137_15, w137_16, w137_17, w137_18, w137_19, w137_20, w137_22, w137_23, w137_26, w137_29, w137_32, w137_35, w137_36, w137_39, w137_42, w137_43, w137_46, w137_47, w137_50, w137_53, w137_54, w137_57, w137_60, w137_61, w137_62, w137_65, w137_68, w137_69, oK_some, cont_int, cont_intS, cont_none, cont_noneS, cont_long, cont_longS, true_and, and_true, false_and, and_false, true_implies, false_implies, not_true_eq_false, not_false_eq_true, eq_self, or_true, true_or, Option.isSome_some, hpf_length, hpa_length, bI_eq0, fi_hpa, fl_hpa, ar_hpf, fi_hpf_ne, fl_hpf_ne, ar_hpa_ne, hpa_hpa, hpf_hpf, nI_1, two_ne, fokZ, implies_true, Nat.reduceEqDiff, rc_0, g_0_13, sf_0_13, fe_0_13, g_0_2, rc_3, g_3_2, rc_4, g_16_2, rc_17, rc_6, rc_8, rc_10, rc_12, rc_14, rc_19, rc_21, rc_23, rc_25, rc_27, g_0_5, rc_30, g_30_0, rc_31, g_34_0, rc_35, g_45_0, rc_46, rc_1, rc_37, rc_39, rc_41, rc_48, rc_50, rc_53, rc_55, rc_57, rc_59, rc_63, rc_66, hs0, c_Table_count (g_4_2 hs0), c2', nI_lef (by omega : i + 1 < n) (by omega : n < 2147483648), c_Cells_at (g_31_0 hs0) (ga_32 hs0) hx, cAt_nI (show i + 1 < 2147483648 by omega), cAt_nI (show b < 2147483648 by omega), hC0.2.1.1 (i + 1) (by omega), hC0.2.1.1 b (by omega)]
      have s1 := hC0.2.1.1
      rw [ar_hpf] at s1
      rw [s1 (i + 1) (by omega), s1 b (by omega)]
      unfold wkF at hw
      generalize st.getD (i + 1) 0 = x at hw ⊢
      generalize st.getD b 0 = y at hw ⊢
      by_cases hc : x < y
      · have h3 : ¬ y ≤ x := by rw [Int32.not_le]; exact hc
        simp only [hc, if_true] at hw
        simp only [h3, oK_some, cont_int, cont_intS, cont_none, cont_noneS, cont_long, cont_longS, true_and, and_true, false_and, and_false, true_implies, false_implies, not_true_eq_false, not_false_eq_true, eq_self, or_true, true_or, Option.isSome_some, hpf_length, hpa_length, bI_eq0, fi_hpa, fl_hpa, ar_hpf, fi_hpf_ne, fl_hpf_ne, ar_hpa_ne, hpa_hpa, hpf_hpf, nI_1, two_ne, fokZ, implies_true, Nat.reduceEqDiff]
        exact hw
      · have h3 : y ≤ x := by rw [← Int32.not_lt]; exact hc
        simp only [hc, if_false] at hw
        simp only [h3, oK_some, cont_int, cont_intS, cont_none, cont_noneS, cont_long, cont_longS, true_and, and_true, false_and, and_false, true_implies, false_implies, not_true_eq_false, not_false_eq_true, eq_self, or_true, true_or, Option.isSome_some, hpf_length, hpa_length, bI_eq0, fi_hpa, fl_hpa, ar_hpf, fi_hpf_ne, fl_hpf_ne, ar_hpa_ne, hpa_hpa, hpf_hpf, nI_1, two_ne, fokZ, implies_true, Nat.reduceEqDiff]
        exact hw
  · rw [if_neg hp, if_neg hp] at hQ
    simp (maxDischargeDepth := 12) only [w137_0, w137_1, w137_2, w137_5, w137_8, w137_9, w137_12, w137_15, w137_16, w137_17, w137_18, w137_19, w137_20, w137_22, w137_23, w137_26, w137_29, w137_32, w137_35, w137_36, w137_39, w137_42, w137_43, w137_46, w137_47, w137_50, w137_53, w137_54, w137_57, w137_60, w137_61, w137_62, w137_65, w137_68, w137_69, oK_some, cont_int, cont_intS, cont_none, cont_noneS, cont_long, cont_longS, true_and, and_true, false_and, and_false, true_implies, false_implies, not_true_eq_false, not_false_eq_true, eq_self, or_true, true_or, Option.isSome_some, hpf_length, hpa_length, bI_eq0, fi_hpa, fl_hpa, ar_hpf, fi_hpf_ne, fl_hpf_ne, ar_hpa_ne, hpa_hpa, hpf_hpf, nI_1, two_ne, fokZ, implies_true, Nat.reduceEqDiff, rc_0, g_0_13, sf_0_13, fe_0_13, g_0_2, rc_3, g_3_2, rc_4, g_16_2, rc_17, rc_6, rc_8, rc_10, rc_12, rc_14, rc_19, rc_21, rc_23, rc_25, rc_27, g_0_5, rc_30, g_30_0, rc_31, g_34_0, rc_35, g_45_0, rc_46, rc_1, rc_37, rc_39, rc_41, rc_48, rc_50, rc_53, rc_55, rc_57, rc_59, rc_63, rc_66, hS, c_slopeTrouble hC, hp, if_false, show ((1 : Int32) = 0) = False from eq_false (by decide)]
    exact cr_no hS hQ
/-- Table.coins -/
def coiF (xs : List Int32) (s : Int32) (k : Nat) (acc : Int32) : Int32 := if (s >>> (nI k &&& 31)) &&& 1 = 0 then acc else acc + tg xs k 2
theorem c_coins {t a m : Nat} {xs : List Int32} {s : Int32} (h1 : gfl H t 9 1 = some (.ref a)) (h2 : garr H a = some xs) (h3 : gfl H t 9 2 = some (.int (nI m))) (hx : xs.length < 2147483648) (hm : m < 100000) : Wp scr (d + 1) 95 0 [some (.ref t), some (.int s), none, none] [] H Q ↔ Q (some (.int (forN (coiF xs s) m 0))) H := by
  refine Wp_iff ?_
  generalize hQ : (fun (r : Option Value) (H' : List AC) => r = some (.int (forN (coiF xs s) m 0)) ∧ H' = H) = Q1
  simp only [w95_0, w95_1, w95_2, w95_3]
  have key := down (P := fun i => Wp scr (d + 1) 95 4 [some (.ref t), some (.int s), some (.int (forN (coiF xs s) i 0)), some (.int (nI i))] [] H Q1) m ?_ ?_
  · exact key
  · rw [w95_4]
    simp only [w95_0, w95_1, w95_2, w95_3, w95_5, w95_6, w95_9, w95_12, w95_13, w95_14, w95_15, w95_16, w95_17, w95_20, w95_21, w95_22, w95_23, w95_24, w95_27, w95_28, w95_29, w95_32, w95_35, w95_36, oK_some, cont_int, cont_intS, cont_none, cont_noneS, cont_long, cont_longS, true_and, and_true, false_and, and_false, true_implies, false_implies, not_true_eq_false, not_false_eq_true, eq_self, or_true, true_or, Option.isSome_some, hpf_length, hpa_length, bI_eq0, fi_hpa, fl_hpa, ar_hpf, fi_hpf_ne, fl_hpf_ne, ar_hpa_ne, hpa_hpa, hpf_hpf, nI_1, two_ne, fokZ, implies_true, Nat.reduceEqDiff, h3, nI_les]
    rw [← hQ]
    exact ⟨rfl, rfl⟩
  · intro i hi hw
    rw [forN_succ] at hw
    generalize forN (coiF xs s) i 0 = acc at hw ⊢
    rw [w95_4]
    simp only [w95_0, w95_1, w95_2, w95_3, w95_5, w95_6, w95_9, w95_12, w95_13, w95_14, w95_15, w95_16, w95_17, w95_20, w95_21, w95_22, w95_23, w95_24, w95_27, w95_28, w95_29, w95_32, w95_35, w95_36, oK_some, cont_int, cont_intS, cont_none, cont_noneS, cont_long, cont_longS, true_and, and_true, false_and, and_false, true_implies, false_implies, not_true_eq_false, not_false_eq_true, eq_self, or_true, true_or, Option.isSome_some, hpf_length, hpa_length, bI_eq0, fi_hpa, fl_hpa, ar_hpf, fi_hpf_ne, fl_hpf_ne, ar_hpa_ne, hpa_hpa, hpf_hpf, nI_1, two_ne, fokZ, implies_true, Nat.reduceEqDiff, h3, nI_lef hi (by omega : m < 2147483648), rcv_of h1, c_Table_at h1 h2 hx, tg_eq (xs := xs) (i := i) 2 (v := 2) (by omega) (by decide) rfl]
    unfold coiF at hw
    by_cases hc : (s >>> (nI i &&& 31)) &&& 1 = 0
    · simp only [hc, if_true] at hw
      simp only [hc, oK_some, cont_int, cont_intS, cont_none, cont_noneS, cont_long, cont_longS, true_and, and_true, false_and, and_false, true_implies, false_implies, not_true_eq_false, not_false_eq_true, eq_self, or_true, true_or, Option.isSome_some, hpf_length, hpa_length, bI_eq0, fi_hpa, fl_hpa, ar_hpf, fi_hpf_ne, fl_hpf_ne, ar_hpa_ne, hpa_hpa, hpf_hpf, nI_1, two_ne, fokZ, implies_true, Nat.reduceEqDiff]
      exact hw
    · simp only [hc, if_false] at hw
      simp only [hc, oK_some, cont_int, cont_intS, cont_none, cont_noneS, cont_long, cont_longS, true_and, and_true, false_and, and_false, true_implies, false_implies, not_true_eq_false, not_false_eq_true, eq_self, or_true, true_or, Option.isSome_some, hpf_length, hpa_length, bI_eq0, fi_hpa, fl_hpa, ar_hpf, fi_hpf_ne, fl_hpf_ne, ar_hpa_ne, hpa_hpa, hpf_hpf, nI_1, two_ne, fokZ, implies_true, Nat.reduceEqDiff]
      exact hw
theorem coi_cos {xs : List Int32} {s : Int32} {c w m : Nat} (hm : m ≤ 10) (h : ∀ k, k < m → tg xs k 2 = rg R (c + w * k + 2)) : forN (coiF xs s) m 0 = forN (cosF R s c w) m 0 := forN_congr m 0 (fun i hi x => by
  unfold coiF cosF
  simp only [bit_hb (show i < 32 by omega), h i hi]
  cases hb s (nI i)
  · simp [Int32.add_zero]
  · simp)
theorem c_coinsG {s : Int32} (hC : CSl H R n nS nW nG nU nN) : Wp scr (d + 1) 95 0 [some (.ref 10), some (.int s), none, none] [] H Q ↔ Q (some (.int (forN (cosF R s 94 4) nG 0))) H := by
  obtain ⟨hS, ⟨c2, c3, c4, c5, c6, c7, b2, b3, b4, b5, b6, b7⟩, tR, tS, tW, tG, _⟩ := hC
  have hx : (ar H 11).length < 2147483648 := by rw [gn_11 hS]; decide
  rw [c_coins (g_10_1 hS) (ga_11 hS) (by rw [g_10_2 hS, c5]) hx (by omega), coi_cos (R := R) (c := 94) (w := 4) (by omega) (fun k hk => by
    obtain ⟨r, dd, c, _, _, _, _, _, _, e1, e2, _⟩ := tG k hk
    rw [e1, e2])]
theorem c_coinsW {s : Int32} (hC : CSl H R n nS nW nG nU nN) : Wp scr (d + 1) 95 0 [some (.ref 8), some (.int s), none, none] [] H Q ↔ Q (some (.int (forN (cosF R s 79 3) nW 0))) H := by
  obtain ⟨hS, ⟨c2, c3, c4, c5, c6, c7, b2, b3, b4, b5, b6, b7⟩, tR, tS, tW, tG, _⟩ := hC
  have hx : (ar H 9).length < 2147483648 := by rw [gn_9 hS]; decide
  rw [c_coins (g_8_1 hS) (ga_9 hS) (by rw [g_8_2 hS, c4]) hx (by omega), coi_cos (R := R) (c := 79) (w := 3) (by omega) (fun k hk => by
    obtain ⟨s, c, _, _, _, _, _, e1, e2, _⟩ := tW.1 k hk
    rw [e1, e2])]
theorem C_spent (hC : CIv H R st n nS nW nG nU nN) (hQ : CR H Q (if 0 < n then forN (cosF R (st.getD 7 0) 94 4) nG 0 + forN (cosF R (st.getD 8 0) 79 3) nW 0 else -1) (if 0 < n then 0 else 1)) : Wp scr (d + 2) 138 0 [some (.ref 0)] [] H Q := by
  have hS := hC.shp
  obtain ⟨c2, c3, c4, c5, c6, c7, b2, b3, b4, b5, b6, b7⟩ := id hC.1.2.1
  have hs0 := sf_0_13 (v := 0) hS
  have hC0 := hC.tr (v := 0)
  by_cases hp : 0 < n
  · rw [if_pos hp, if_pos hp] at hQ
    have f2 := hC.2.1.2.2.1
    have f3 := hC.2.1.2.2.2
    simp (maxDischargeDepth := 12) only [w138_0, w138_1, w138_2, w138_5, w138_8, w138_9, w138_12, w138_15, w138_16, w138_19, w138_20, w138_23, w138_26, w138_27, w138_30, w138_33, w138_36, w138_37, w138_40, w138_43, w138_44, w138_47, w138_50, w138_53, w138_54, oK_some, cont_int, cont_intS, cont_none, cont_noneS, cont_long, cont_longS, true_and, and_true, false_and, and_false, true_implies, false_implies, not_true_eq_false, not_false_eq_true, eq_self, or_true, true_or, Option.isSome_some, hpf_length, hpa_length, bI_eq0, fi_hpa, fl_hpa, ar_hpf, fi_hpf_ne, fl_hpf_ne, ar_hpa_ne, hpa_hpa, hpf_hpf, nI_1, two_ne, fokZ, implies_true, Nat.reduceEqDiff, rc_0, g_0_13, sf_0_13, fe_0_13, g_0_2, rc_3, g_3_5, rc_10, g_16_5, rc_23, g_0_5, rc_30, g_30_2, sf_30_2, fe_30_2, g_34_2, sf_34_2, fe_34_2, g_45_2, sf_45_2, fe_45_2, rc_4, rc_6, rc_8, rc_12, rc_14, rc_17, rc_19, rc_21, rc_25, rc_27, g_3_4, g_16_4, g_30_3, sf_30_3, fe_30_3, g_34_3, sf_34_3, fe_34_3, g_45_3, sf_45_3, fe_45_3, hS, c_slopeTrouble hC, hp, if_true, hs0, f2, f3, c_coinsG hC0.1, c_coinsW hC0.1]
    exact cr_no hS hQ
  · rw [if_neg hp, if_neg hp] at hQ
    simp (maxDischargeDepth := 12) only [w138_0, w138_1, w138_2, w138_5, w138_8, w138_9, w138_12, w138_15, w138_16, w138_19, w138_20, w138_23, w138_26, w138_27, w138_30, w138_33, w138_36, w138_37, w138_40, w138_43, w138_44, w138_47, w138_50, w138_53, w138_54, oK_some, cont_int, cont_intS, cont_none, cont_noneS, cont_long, cont_longS, true_and, and_true, false_and, and_false, true_implies, false_implies, not_true_eq_false, not_false_eq_true, eq_self, or_true, true_or, Option.isSome_some, hpf_length, hpa_length, bI_eq0, fi_hpa, fl_hpa, ar_hpf, fi_hpf_ne, fl_hpf_ne, ar_hpa_ne, hpa_hpa, hpf_hpf, nI_1, two_ne, fokZ, implies_true, Nat.reduceEqDiff, rc_0, g_0_13, sf_0_13, fe_0_13, g_0_2, rc_3, g_3_5, rc_10, g_16_5, rc_23, g_0_5, rc_30, g_30_2, sf_30_2, fe_30_2, g_34_2, sf_34_2, fe_34_2, g_45_2, sf_45_2, fe_45_2, rc_4, rc_6, rc_8, rc_12, rc_14, rc_17, rc_19, rc_21, rc_25, rc_27, g_3_4, g_16_4, g_30_3, sf_30_3, fe_30_3, g_34_3, sf_34_3, fe_34_3, g_45_3, sf_45_3, fe_45_3, hS, c_slopeTrouble hC, hp, if_false, show ((1 : Int32) = 0) = False from eq_false (by decide)]
    exact cr_no hS hQ
theorem C_when {k : Int32} (hC : CIv H R st n nS nW nG nU nN) (hQ : CR H Q (if 0 ≤ k ∧ k < nI n then fnd (fun i => decide ((daysM R (allU nU) n nW nG nU i st).getD k.toNatClampNeg 0 < 10)) 41 (-2) else -1) (if 0 ≤ k ∧ k < nI n then 0 else 1)) : Wp scr (d + 5) 141 0 [some (.ref 0), some (.int k), none] [] H Q := by
  have hS := hC.shp
  obtain ⟨c2, c3, c4, c5, c6, c7, b2, b3, b4, b5, b6, b7⟩ := id hC.1.2.1
  have hs0 := sf_0_13 (v := 0) hS
  have hC0 := hC.tr (v := 0)
  by_cases hp : 0 ≤ k ∧ k < nI n
  · rw [if_pos hp, if_pos hp] at hQ
    obtain ⟨ek, lk⟩ := of_row hp (by omega)
    generalize k.toNatClampNeg = kk at ek lk hQ
    subst ek
    generalize hpd : (fun i => decide ((daysM R (allU nU) n nW nG nU i st).getD kk 0 < 10)) = p at hQ
    have hpi : ∀ i, decide ((daysM R (allU nU) n nW nG nU i st).getD kk 0 < 10) = p i := fun i => by rw [← hpd]
    simp (maxDischargeDepth := 12) only [w141_0, w141_1, w141_2, w141_3, w141_6, w141_9, w141_10, w141_13, w141_16, w141_17, w141_18, w141_19, w141_22, w141_23, w141_26, w141_29, w141_30, w141_32, w141_34, w141_37, w141_38, w141_41, w141_42, w141_45, w141_48, w141_49, w141_50, w141_51, w141_54, w141_57, w141_58, w141_61, w141_64, w141_66, oK_some, cont_int, cont_intS, cont_none, cont_noneS, cont_long, cont_longS, true_and, and_true, false_and, and_false, true_implies, false_implies, not_true_eq_false, not_false_eq_true, eq_self, or_true, true_or, Option.isSome_some, hpf_length, hpa_length, bI_eq0, fi_hpa, fl_hpa, ar_hpf, fi_hpf_ne, fl_hpf_ne, ar_hpa_ne, hpa_hpa, hpf_hpf, nI_1, two_ne, fokZ, implies_true, Nat.reduceEqDiff, rc_0, g_0_13, sf_0_13, fe_0_13, g_0_6, rc_33, g_0_5, rc_30, hS, c_rowTrouble hC, hp, and_self, if_true, hs0]
    refine w_start hC0 (fun H1 hF1 hW1 => ?_)
    simp (maxDischargeDepth := 12) only [w141_0, w141_1, w141_2, w141_3, w141_6, w141_9, w141_10, w141_13, w141_16, w141_17, w141_18, w141_19, w141_22, w141_23, w141_26, w141_29, w141_30, w141_32, w141_34, w141_37, w141_38, w141_41, w141_42, w141_45, w141_48, w141_49, w141_50, w141_51, w141_54, w141_57, w141_58, w141_61, w141_64, w141_66, oK_some, cont_int, cont_intS, cont_none, cont_noneS, cont_long, cont_longS, true_and, and_true, false_and, and_false, true_implies, false_implies, not_true_eq_false, not_false_eq_true, eq_self, or_true, true_or, Option.isSome_some, hpf_length, hpa_length, bI_eq0, fi_hpa, fl_hpa, ar_hpf, fi_hpf_ne, fl_hpf_ne, ar_hpa_ne, hpa_hpa, hpf_hpf, nI_1, two_ne, fokZ, implies_true, Nat.reduceEqDiff, rc_0, g_0_13, sf_0_13, fe_0_13, g_0_6, rc_33, g_0_5, rc_30, hF1.len]
    have key := down (P := fun i => (∀ j, j < i → p j = false) → ∀ H2, Fg [33, 34, 36, 38, 40, 42] [] (hpf H 0 13 (.int 0)) H2 → Wk H2 (daysM R (allU nU) n nW nG nU i st) (allU nU) n nS nW → Wp scr (d + 5) 141 31 [some (.ref 0), some (.int (nI kk)), some (.int (nI i))] [] H2 Q) 41 ?_ ?_
    · exact key (fun j hj => absurd hj (Nat.not_lt_zero _)) H1 (hF1.mono (by decide) (by decide)) hW1
    · intro hno H2 hF2 hW2
      rw [w141_31]
      simp (maxDischargeDepth := 12) only [w141_0, w141_1, w141_2, w141_3, w141_6, w141_9, w141_10, w141_13, w141_16, w141_17, w141_18, w141_19, w141_22, w141_23, w141_26, w141_29, w141_30, w141_32, w141_34, w141_37, w141_38, w141_41, w141_42, w141_45, w141_48, w141_49, w141_50, w141_51, w141_54, w141_57, w141_58, w141_61, w141_64, w141_66, oK_some, cont_int, cont_intS, cont_none, cont_noneS, cont_long, cont_longS, true_and, and_true, false_and, and_false, true_implies, false_implies, not_true_eq_false, not_false_eq_true, eq_self, or_true, true_or, Option.isSome_some, hpf_length, hpa_length, bI_eq0, fi_hpa, fl_hpa, ar_hpf, fi_hpf_ne, fl_hpf_ne, ar_hpa_ne, hpa_hpa, hpf_hpf, nI_1, two_ne, fokZ, implies_true, Nat.reduceEqDiff, rc_0, g_0_13, sf_0_13, fe_0_13, g_0_6, rc_33, g_0_5, rc_30, l40t]
      rw [fnd_miss hno] at hQ
      exact cr_ok hS hF2 (by decide) (by decide) (by decide) (by decide) hQ
    · intro i hi hw hno H2 hF2 hW2
      have hC2 := hC0.1.of hF2 (by decide) (by decide)
      have hs2 := hF2.shp
      have ei : decide ((ar H2 36).getD kk 0 < 10) = p i := by rw [hW2.1.1 kk lk, hpi]
      rw [w141_31]
      simp (maxDischargeDepth := 12) only [w141_0, w141_1, w141_2, w141_3, w141_6, w141_9, w141_10, w141_13, w141_16, w141_17, w141_18, w141_19, w141_22, w141_23, w141_26, w141_29, w141_30, w141_32, w141_34, w141_37, w141_38, w141_41, w141_42, w141_45, w141_48, w141_49, w141_50, w141_51, w141_54, w141_57, w141_58, w141_61, w141_64, w141_66, oK_some, cont_int, cont_intS, cont_none, cont_noneS, cont_long, cont_longS, true_and, and_true, false_and, and_false, true_implies, false_implies, not_true_eq_false, not_false_eq_true, eq_self, or_true, true_or, Option.isSome_some, hpf_length, hpa_length, bI_eq0, fi_hpa, fl_hpa, ar_hpf, fi_hpf_ne, fl_hpf_ne, ar_hpa_ne, hpa_hpa, hpf_hpf, nI_1, two_ne, fokZ, implies_true, Nat.reduceEqDiff, rc_0, g_0_13, sf_0_13, fe_0_13, g_0_6, rc_33, g_0_5, rc_30, hs2, l40f hi, w_doubts hs2 (by omega : kk < 7), ei]
      cases hpv : p i
      · simp only [oK_some, cont_int, cont_intS, cont_none, cont_noneS, cont_long, cont_longS, true_and, and_true, false_and, and_false, true_implies, false_implies, not_true_eq_false, not_false_eq_true, eq_self, or_true, true_or, Option.isSome_some, hpf_length, hpa_length, bI_eq0, fi_hpa, fl_hpa, ar_hpf, fi_hpf_ne, fl_hpf_ne, ar_hpa_ne, hpa_hpa, hpf_hpf, nI_1, two_ne, fokZ, implies_true, Nat.reduceEqDiff]
        refine w_pass hC2 hW2 (fun H3 hF3 hW3 => ?_)
        simp (maxDischargeDepth := 12) only [w141_0, w141_1, w141_2, w141_3, w141_6, w141_9, w141_10, w141_13, w141_16, w141_17, w141_18, w141_19, w141_22, w141_23, w141_26, w141_29, w141_30, w141_32, w141_34, w141_37, w141_38, w141_41, w141_42, w141_45, w141_48, w141_49, w141_50, w141_51, w141_54, w141_57, w141_58, w141_61, w141_64, w141_66, oK_some, cont_int, cont_intS, cont_none, cont_noneS, cont_long, cont_longS, true_and, and_true, false_and, and_false, true_implies, false_implies, not_true_eq_false, not_false_eq_true, eq_self, or_true, true_or, Option.isSome_some, hpf_length, hpa_length, bI_eq0, fi_hpa, fl_hpa, ar_hpf, fi_hpf_ne, fl_hpf_ne, ar_hpa_ne, hpa_hpa, hpf_hpf, nI_1, two_ne, fokZ, implies_true, Nat.reduceEqDiff, rc_0, g_0_13, sf_0_13, fe_0_13, g_0_6, rc_33, g_0_5, rc_30, hF3.len]
        refine hw (fun j hj => ?_) H3 (hF2.trans (hF3.mono (by decide) (by decide))) hW3
        rcases Nat.lt_or_ge j i with q | q
        · exact hno j q
        · rw [show j = i by omega]; exact hpv
      · simp only [oK_some, cont_int, cont_intS, cont_none, cont_noneS, cont_long, cont_longS, true_and, and_true, false_and, and_false, true_implies, false_implies, not_true_eq_false, not_false_eq_true, eq_self, or_true, true_or, Option.isSome_some, hpf_length, hpa_length, bI_eq0, fi_hpa, fl_hpa, ar_hpf, fi_hpf_ne, fl_hpf_ne, ar_hpa_ne, hpa_hpa, hpf_hpf, nI_1, two_ne, fokZ, implies_true, Nat.reduceEqDiff, Bool.true_eq_false]
        rw [fnd_hit hi hpv hno] at hQ
        exact cr_ok hS hF2 (by decide) (by decide) (by decide) (by decide) hQ
  · rw [if_neg hp, if_neg hp] at hQ
    simp (maxDischargeDepth := 12) only [w141_0, w141_1, w141_2, w141_3, w141_6, w141_9, w141_10, w141_13, w141_16, w141_17, w141_18, w141_19, w141_22, w141_23, w141_26, w141_29, w141_30, w141_32, w141_34, w141_37, w141_38, w141_41, w141_42, w141_45, w141_48, w141_49, w141_50, w141_51, w141_54, w141_57, w141_58, w141_61, w141_64, w141_66, oK_some, cont_int, cont_intS, cont_none, cont_noneS, cont_long, cont_longS, true_and, and_true, false_and, and_false, true_implies, false_implies, not_true_eq_false, not_false_eq_true, eq_self, or_true, true_or, Option.isSome_some, hpf_length, hpa_length, bI_eq0, fi_hpa, fl_hpa, ar_hpf, fi_hpf_ne, fl_hpf_ne, ar_hpa_ne, hpa_hpa, hpf_hpf, nI_1, two_ne, fokZ, implies_true, Nat.reduceEqDiff, rc_0, g_0_13, sf_0_13, fe_0_13, g_0_6, rc_33, g_0_5, rc_30, hS, c_rowTrouble hC, hp, if_false, show ((1 : Int32) = 0) = False from eq_false (by decide)]
    exact cr_no hS hQ
end CQ
