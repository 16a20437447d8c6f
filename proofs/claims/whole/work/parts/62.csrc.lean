/-! ===== the class: which rumours there were ===== -/
/-- faiths told lie in 0 .. 30 -/
def Vf (R : List Int32) (n : Nat) : Prop := ∀ i, i < n → ∃ x, x ≤ 30 ∧ rg R (9 + 3 * i + 1) = nI x
section CSRC
variable {scr : List Int32} {d n nS nW nG nU nN : Nat} {H : List AC} {R st ws : List Int32} {rum : Int32} {Q : Option Value → List AC → Prop}
theorem c_begin45 (hC : CSl H R n nS nW nG nU nN) (hQ : ∀ H', Fg [45, 47] [] H H' → (∀ i, i < n → (ar H' 47).getD i 0 = rg R (9 + 3 * i + 1)) → fi H' 45 1 = 0 → fi H' 45 2 = 0 → fi H' 45 3 = 0 → Q none H') : Wp scr (d + 1) 85 0 [some (.ref 45), some (.ref 3), none] [] H Q := by
  have b2 := hC.2.1.2.2.2.2.2.2.1
  simp only [w85_0, w85_1]
  have key := down (P := fun i => ∀ H2, Fg [45, 47] [] H H2 → (∀ j, j < i → (ar H2 47).getD j 0 = rg R (9 + 3 * j + 1)) → Wp scr (d + 1) 85 2 [some (.ref 45), some (.ref 3), some (.int (nI i))] [] H2 Q) n ?_ ?_
  · exact key H (Fg.rfl' hC.shp) (fun j hj => absurd hj (Nat.not_lt_zero _))
  · intro H2 hF2 h2
    have hC2 := hC.of hF2 (by decide) (by decide)
    have hs2 := hF2.shp
    have c2' := hC2.2.1.1
    rw [w85_2]
    simp (maxDischargeDepth := 12) only [w85_0, w85_1, w85_3, w85_4, w85_7, w85_10, w85_13, w85_14, w85_17, w85_18, w85_19, w85_22, w85_23, w85_24, w85_27, w85_30, w85_33, w85_36, w85_37, w85_38, w85_41, w85_42, w85_43, w85_46, w85_47, w85_48, w85_51, oK_some, cont_int, cont_intS, cont_none, cont_noneS, cont_long, cont_longS, true_and, and_true, false_and, and_false, true_implies, false_implies, not_true_eq_false, not_false_eq_true, eq_self, or_true, true_or, Option.isSome_some, hpf_length, hpa_length, bI_eq0, fi_hpa, fl_hpa, ar_hpf, fi_hpf_ne, fl_hpf_ne, ar_hpa_ne, hpa_hpa, hpf_hpf, nI_1, two_ne, fokZ, implies_true, Nat.reduceEqDiff, g_3_2, rc_4, g_16_2, rc_17, rc_6, rc_8, rc_10, rc_12, rc_14, rc_19, rc_21, rc_23, rc_25, rc_27, g_30_0, rc_31, g_34_0, rc_35, g_45_0, rc_46, rc_1, rc_37, rc_39, rc_41, rc_48, rc_50, rc_53, rc_55, rc_57, rc_59, rc_63, rc_66, g_30_1, sf_30_1, fe_30_1, g_34_1, sf_34_1, fe_34_1, g_45_1, sf_45_1, fe_45_1, g_30_2, sf_30_2, fe_30_2, g_34_2, sf_34_2, fe_34_2, g_45_2, sf_45_2, fe_45_2, g_30_3, sf_30_3, fe_30_3, g_34_3, sf_34_3, fe_34_3, g_45_3, sf_45_3, fe_45_3, hs2, c_Table_count (g_4_2 hs2), c2', nI_les]
    have t1 := sf_45_1 (v := 0) hs2
    have t2 := sf_45_2 (v := 0) t1
    refine hQ _ ((hF2.trans (fr_hpf (S := [45, 47]) (ci := 8) hs2 rfl (by decide)).fg).trans ((fr_hpf (S := [45, 47]) (ci := 8) t1 rfl (by decide)).fg.trans (fr_hpf (S := [45, 47]) (ci := 8) t2 rfl (by decide)).fg)) (fun i hi => ?_) ?_ ?_ ?_
    · rw [ar_hpf, ar_hpf, ar_hpf, h2 i hi]
    · rw [fi_hpf_ne (by decide), fi_hpf_ne (by decide), fe_45_1 hs2]
    · rw [fi_hpf_ne (by decide), fe_45_2 t1]
    · rw [fe_45_3 t2]
  · intro i hi hw H2 hF2 h2
    have hC2 := hC.of hF2 (by decide) (by decide)
    have hs2 := hF2.shp
    have c2' := hC2.2.1.1
    have hx5 : (ar H2 5).length < 2147483648 := by rw [gn_5 hs2]; decide
    have hxb : (ar H2 47).length < 2147483648 := by rw [gn_47 hs2]; decide
    rw [w85_2]
    simp (maxDischargeDepth := 12) only [w85_0, w85_1, w85_3, w85_4, w85_7, w85_10, w85_13, w85_14, w85_17, w85_18, w85_19, w85_22, w85_23, w85_24, w85_27, w85_30, w85_33, w85_36, w85_37, w85_38, w85_41, w85_42, w85_43, w85_46, w85_47, w85_48, w85_51, oK_some, cont_int, cont_intS, cont_none, cont_noneS, cont_long, cont_longS, true_and, and_true, false_and, and_false, true_implies, false_implies, not_true_eq_false, not_false_eq_true, eq_self, or_true, true_or, Option.isSome_some, hpf_length, hpa_length, bI_eq0, fi_hpa, fl_hpa, ar_hpf, fi_hpf_ne, fl_hpf_ne, ar_hpa_ne, hpa_hpa, hpf_hpf, nI_1, two_ne, fokZ, implies_true, Nat.reduceEqDiff, g_3_2, rc_4, g_16_2, rc_17, rc_6, rc_8, rc_10, rc_12, rc_14, rc_19, rc_21, rc_23, rc_25, rc_27, g_30_0, rc_31, g_34_0, rc_35, g_45_0, rc_46, rc_1, rc_37, rc_39, rc_41, rc_48, rc_50, rc_53, rc_55, rc_57, rc_59, rc_63, rc_66, g_30_1, sf_30_1, fe_30_1, g_34_1, sf_34_1, fe_34_1, g_45_1, sf_45_1, fe_45_1, g_30_2, sf_30_2, fe_30_2, g_34_2, sf_34_2, fe_34_2, g_45_2, sf_45_2, fe_45_2, g_30_3, sf_30_3, fe_30_3, g_34_3, sf_34_3, fe_34_3, g_45_3, sf_45_3, fe_45_3, hs2, c_Table_count (g_4_2 hs2), c2', nI_lef hi (by omega : n < 2147483648), c_Table_at (g_4_1 hs2) (ga_5 hs2) hx5, tg_eq (xs := ar H2 5) (i := i) 1 (v := 1) (by omega) (by decide) rfl, (hC2.2.2.1 i hi).2.1, c_Cells_set (g_46_0 hs2) (ga_47 hs2) hxb]
    refine hw _ (hF2.trans (fg_hpa hs2 (by rw [cSet_length]) (by decide))) (fun j hj => ?_)
    rw [ae_47 hs2, cSet_getD (by omega), gn_47 hs2]
    by_cases e : i = j
    · subst e; rw [if_pos ⟨rfl, by omega⟩]
    · rw [if_neg (fun q => e q.1), h2 j (by omega)]
theorem c_begin30 (hC : CSl H R n nS nW nG nU nN) (hQ : ∀ H', Fg [30, 32] [] H H' → (∀ i, i < n → (ar H' 32).getD i 0 = rg R (9 + 3 * i + 1)) → fi H' 30 1 = 0 → fi H' 30 2 = 0 → fi H' 30 3 = 0 → Q none H') : Wp scr (d + 1) 85 0 [some (.ref 30), some (.ref 3), none] [] H Q := by
  have b2 := hC.2.1.2.2.2.2.2.2.1
  simp only [w85_0, w85_1]
  have key := down (P := fun i => ∀ H2, Fg [30, 32] [] H H2 → (∀ j, j < i → (ar H2 32).getD j 0 = rg R (9 + 3 * j + 1)) → Wp scr (d + 1) 85 2 [some (.ref 30), some (.ref 3), some (.int (nI i))] [] H2 Q) n ?_ ?_
  · exact key H (Fg.rfl' hC.shp) (fun j hj => absurd hj (Nat.not_lt_zero _))
  · intro H2 hF2 h2
    have hC2 := hC.of hF2 (by decide) (by decide)
    have hs2 := hF2.shp
    have c2' := hC2.2.1.1
    rw [w85_2]
    simp (maxDischargeDepth := 12) only [w85_0, w85_1, w85_3, w85_4, w85_7, w85_10, w85_13, w85_14, w85_17, w85_18, w85_19, w85_22, w85_23, w85_24, w85_27, w85_30, w85_33, w85_36, w85_37, w85_38, w85_41, w85_42, w85_43, w85_46, w85_47, w85_48, w85_51, oK_some, cont_int, cont_intS, cont_none, cont_noneS, cont_long, cont_longS, true_and, and_true, false_and, and_false, true_implies, false_implies, not_true_eq_false, not_false_eq_true, eq_self, or_true, true_or, Option.isSome_some, hpf_length, hpa_length, bI_eq0, fi_hpa, fl_hpa, ar_hpf, fi_hpf_ne, fl_hpf_ne, ar_hpa_ne, hpa_hpa, hpf_hpf, nI_1, two_ne, fokZ, implies_true, Nat.reduceEqDiff, g_3_2, rc_4, g_16_2, rc_17, rc_6, rc_8, rc_10, rc_12, rc_14, rc_19, rc_21, rc_23, rc_25, rc_27, g_30_0, rc_31, g_34_0, rc_35, g_45_0, rc_46, rc_1, rc_37, rc_39, rc_41, rc_48, rc_50, rc_53, rc_55, rc_57, rc_59, rc_63, rc_66, g_30_1, sf_30_1, fe_30_1, g_34_1, sf_34_1, fe_34_1, g_45_1, sf_45_1, fe_45_1, g_30_2, sf_30_2, fe_30_2, g_34_2, sf_34_2, fe_34_2, g_45_2, sf_45_2, fe_45_2, g_30_3, sf_30_3, fe_30_3, g_34_3, sf_34_3, fe_34_3, g_45_3, sf_45_3, fe_45_3, hs2, c_Table_count (g_4_2 hs2), c2', nI_les]
    have t1 := sf_30_1 (v := 0) hs2
    have t2 := sf_30_2 (v := 0) t1
    refine hQ _ ((hF2.trans (fr_hpf (S := [30, 32]) (ci := 8) hs2 rfl (by decide)).fg).trans ((fr_hpf (S := [30, 32]) (ci := 8) t1 rfl (by decide)).fg.trans (fr_hpf (S := [30, 32]) (ci := 8) t2 rfl (by decide)).fg)) (fun i hi => ?_) ?_ ?_ ?_
    · rw [ar_hpf, ar_hpf, ar_hpf, h2 i hi]
    · rw [fi_hpf_ne (by decide), fi_hpf_ne (by decide), fe_30_1 hs2]
    · rw [fi_hpf_ne (by decide), fe_30_2 t1]
    · rw [fe_30_3 t2]
  · intro i hi hw H2 hF2 h2
    have hC2 := hC.of hF2 (by decide) (by decide)
    have hs2 := hF2.shp
    have c2' := hC2.2.1.1
    have hx5 : (ar H2 5).length < 2147483648 := by rw [gn_5 hs2]; decide
    have hxb : (ar H2 32).length < 2147483648 := by rw [gn_32 hs2]; decide
    rw [w85_2]
    simp (maxDischargeDepth := 12) only [w85_0, w85_1, w85_3, w85_4, w85_7, w85_10, w85_13, w85_14, w85_17, w85_18, w85_19, w85_22, w85_23, w85_24, w85_27, w85_30, w85_33, w85_36, w85_37, w85_38, w85_41, w85_42, w85_43, w85_46, w85_47, w85_48, w85_51, oK_some, cont_int, cont_intS, cont_none, cont_noneS, cont_long, cont_longS, true_and, and_true, false_and, and_false, true_implies, false_implies, not_true_eq_false, not_false_eq_true, eq_self, or_true, true_or, Option.isSome_some, hpf_length, hpa_length, bI_eq0, fi_hpa, fl_hpa, ar_hpf, fi_hpf_ne, fl_hpf_ne, ar_hpa_ne, hpa_hpa, hpf_hpf, nI_1, two_ne, fokZ, implies_true, Nat.reduceEqDiff, g_3_2, rc_4, g_16_2, rc_17, rc_6, rc_8, rc_10, rc_12, rc_14, rc_19, rc_21, rc_23, rc_25, rc_27, g_30_0, rc_31, g_34_0, rc_35, g_45_0, rc_46, rc_1, rc_37, rc_39, rc_41, rc_48, rc_50, rc_53, rc_55, rc_57, rc_59, rc_63, rc_66, g_30_1, sf_30_1, fe_30_1, g_34_1, sf_34_1, fe_34_1, g_45_1, sf_45_1, fe_45_1, g_30_2, sf_30_2, fe_30_2, g_34_2, sf_34_2, fe_34_2, g_45_2, sf_45_2, fe_45_2, g_30_3, sf_30_3, fe_30_3, g_34_3, sf_34_3, fe_34_3, g_45_3, sf_45_3, fe_45_3, hs2, c_Table_count (g_4_2 hs2), c2', nI_lef hi (by omega : n < 2147483648), c_Table_at (g_4_1 hs2) (ga_5 hs2) hx5, tg_eq (xs := ar H2 5) (i := i) 1 (v := 1) (by omega) (by decide) rfl, (hC2.2.2.1 i hi).2.1, c_Cells_set (g_31_0 hs2) (ga_32 hs2) hxb]
    refine hw _ (hF2.trans (fg_hpa hs2 (by rw [cSet_length]) (by decide))) (fun j hj => ?_)
    rw [ae_32 hs2, cSet_getD (by omega), gn_32 hs2]
    by_cases e : i = j
    · subst e; rw [if_pos ⟨rfl, by omega⟩]
    · rw [if_neg (fun q => e q.1), h2 j (by omega)]
theorem lay0_7 : (lay0 R st n).getD 7 0 = st.getD 7 0 := by unfold lay0; rw [getD_rmap (by decide), if_pos rfl]
theorem lay0_8 : (lay0 R st n).getD 8 0 = st.getD 8 0 := by unfold lay0; rw [getD_rmap (by decide), if_neg (by decide), if_pos rfl]
theorem lay0_9 (hn : n ≤ 7) : (lay0 R st n).getD 9 0 = 0 := by unfold lay0; rw [getD_rmap (by decide), if_neg (by decide), if_neg (by decide), if_neg (by omega)]
theorem lay0_lt {i : Nat} (hn : n ≤ 7) (hi : i < n) : (lay0 R st n).getD i 0 = rg R (9 + 3 * i + 1) := by unfold lay0; rw [getD_rmap (by omega), if_neg (by omega), if_neg (by omega), if_pos hi]
theorem c_follow (hC : CIv H R st n nS nW nG nU nN) (hV : Vf R n) (hQ : ∀ H', Fg [33, 34, 36, 38, 40, 42, 45, 47, 49] [] H H' → ar H' 49 = dOn R st n nW nG nU rum → Q none H') : Wp scr (d + 4) 74 0 [some (.ref 44), some (.ref 30), some (.int rum), none] [] H Q := by
  have hS := hC.shp
  have b2 := hC.1.2.1.2.2.2.2.2.2.1
  simp (maxDischargeDepth := 12) only [w74_0, w74_1, w74_4, w74_5, w74_8, w74_11, w74_12, w74_15, w74_16, w74_19, w74_20, w74_23, w74_24, w74_27, w74_30, w74_31, w74_34, w74_35, w74_38, w74_39, w74_41, w74_43, w74_46, w74_47, w74_50, w74_53, w74_54, w74_55, w74_58, w74_59, w74_60, w74_63, w74_66, w74_69, w74_72, w74_75, oK_some, cont_int, cont_intS, cont_none, cont_noneS, cont_long, cont_longS, true_and, and_true, false_and, and_false, true_implies, false_implies, not_true_eq_false, not_false_eq_true, eq_self, or_true, true_or, Option.isSome_some, hpf_length, hpa_length, bI_eq0, fi_hpa, fl_hpa, ar_hpf, fi_hpf_ne, fl_hpf_ne, ar_hpa_ne, hpa_hpa, hpf_hpf, nI_1, two_ne, fokZ, implies_true, Nat.reduceEqDiff, g_44_2, rc_45, g_44_0, rc_3, rc_30, rc_34, g_44_1, rc_33, g_30_2, sf_30_2, fe_30_2, g_34_2, sf_34_2, fe_34_2, g_45_2, sf_45_2, fe_45_2, g_30_3, sf_30_3, fe_30_3, g_34_3, sf_34_3, fe_34_3, g_45_3, sf_45_3, fe_45_3, g_44_3, rc_48, rc_1, rc_31, rc_35, rc_37, rc_39, rc_41, rc_46, rc_50, rc_53, rc_55, rc_57, rc_59, rc_63, rc_66, hS]
  refine c_begin45 hC.1 (fun H1 hF1 h1 g1 g2 g3 => ?_)
  have hC1 := hC.of hF1 (by decide) (by decide)
  have hs1 := hF1.shp
  have f2 := hC1.2.1.2.2.1
  have f3 := hC1.2.1.2.2.2
  simp (maxDischargeDepth := 12) only [w74_0, w74_1, w74_4, w74_5, w74_8, w74_11, w74_12, w74_15, w74_16, w74_19, w74_20, w74_23, w74_24, w74_27, w74_30, w74_31, w74_34, w74_35, w74_38, w74_39, w74_41, w74_43, w74_46, w74_47, w74_50, w74_53, w74_54, w74_55, w74_58, w74_59, w74_60, w74_63, w74_66, w74_69, w74_72, w74_75, oK_some, cont_int, cont_intS, cont_none, cont_noneS, cont_long, cont_longS, true_and, and_true, false_and, and_false, true_implies, false_implies, not_true_eq_false, not_false_eq_true, eq_self, or_true, true_or, Option.isSome_some, hpf_length, hpa_length, bI_eq0, fi_hpa, fl_hpa, ar_hpf, fi_hpf_ne, fl_hpf_ne, ar_hpa_ne, hpa_hpa, hpf_hpf, nI_1, two_ne, fokZ, implies_true, Nat.reduceEqDiff, g_44_2, rc_45, g_44_0, rc_3, rc_30, rc_34, g_44_1, rc_33, g_30_2, sf_30_2, fe_30_2, g_34_2, sf_34_2, fe_34_2, g_45_2, sf_45_2, fe_45_2, g_30_3, sf_30_3, fe_30_3, g_34_3, sf_34_3, fe_34_3, g_45_3, sf_45_3, fe_45_3, g_44_3, rc_48, rc_1, rc_31, rc_35, rc_37, rc_39, rc_41, rc_46, rc_50, rc_53, rc_55, rc_57, rc_59, rc_63, rc_66, hF1.len, hs1, f2, f3]
  refine c_startWith (s := 45) (c := 46) (b := 47) hs1 hC1.1.2.1 rfl rfl rfl (by decide) rfl rfl rfl (by decide) (by decide) (fun H2 hF2 ⟨a1, a2, a3, a4⟩ f5 f6 => ?_)
  have hs2 := hF2.2.1
  rw [g1] at a2
  rw [g2, Int32.zero_or] at a3
  rw [g3, Int32.zero_or] at a4 f5
  simp (maxDischargeDepth := 12) only [w74_0, w74_1, w74_4, w74_5, w74_8, w74_11, w74_12, w74_15, w74_16, w74_19, w74_20, w74_23, w74_24, w74_27, w74_30, w74_31, w74_34, w74_35, w74_38, w74_39, w74_41, w74_43, w74_46, w74_47, w74_50, w74_53, w74_54, w74_55, w74_58, w74_59, w74_60, w74_63, w74_66, w74_69, w74_72, w74_75, oK_some, cont_int, cont_intS, cont_none, cont_noneS, cont_long, cont_longS, true_and, and_true, false_and, and_false, true_implies, false_implies, not_true_eq_false, not_false_eq_true, eq_self, or_true, true_or, Option.isSome_some, hpf_length, hpa_length, bI_eq0, fi_hpa, fl_hpa, ar_hpf, fi_hpf_ne, fl_hpf_ne, ar_hpa_ne, hpa_hpa, hpf_hpf, nI_1, two_ne, fokZ, implies_true, Nat.reduceEqDiff, g_44_2, rc_45, g_44_0, rc_3, rc_30, rc_34, g_44_1, rc_33, g_30_2, sf_30_2, fe_30_2, g_34_2, sf_34_2, fe_34_2, g_45_2, sf_45_2, fe_45_2, g_30_3, sf_30_3, fe_30_3, g_34_3, sf_34_3, fe_34_3, g_45_3, sf_45_3, fe_45_3, g_44_3, rc_48, rc_1, rc_31, rc_35, rc_37, rc_39, rc_41, rc_46, rc_50, rc_53, rc_55, rc_57, rc_59, rc_63, rc_66, w101_0, w101_1, w101_2, w101_5, hF2.1, hs2, g_33_6, sf_33_6]
  generalize hH3 : hpf H2 33 6 (.int rum) = H3
  have hF3 : Fg [33, 34, 36, 38, 40, 42, 45, 47, 49] [] H H3 := by
    rw [← hH3]
    exact ((hF1.mono (by decide) (by decide)).trans ((hF2.fg (F := [])).mono (by decide) (by decide))).trans (((fr_hpf (S := [33]) (ci := 10) hs2 rfl (by decide)).fg (F := [])).mono (by decide) (by decide))
  have hW3 : Wk H3 (lay0 R st n) rum n nS nW := by
    rw [← hH3]
    refine ⟨⟨fun i hi => ?_, ?_, ?_, ?_⟩, ?_, fe_33_6 hs2, lay0_len, fun i hi => ?_⟩
    · rw [ar_hpf, a1, h1 i hi, lay0_lt b2 hi]
    · rw [fi_hpf_ne (by decide), a2, lay0_9 b2]
    · rw [fi_hpf_ne (by decide), a3, lay0_7]
    · rw [fi_hpf_ne (by decide), a4, lay0_8]
    · rw [fi_hpf_ne (by decide), f5, ar_hpf, hF2.arr (by decide), lay0_8]
    · rw [lay0_lt b2 hi]; exact hV i hi
  have key := down (P := fun i => ∀ H4, Fg [33, 34, 36, 38, 40, 42, 45, 47, 49] [] H H4 → Wk H4 (daysM R rum n nW nG nU i (lay0 R st n)) rum n nS nW → (∀ j, j < i → (ar H4 49).getD j 0 = dbt n (daysM R rum n nW nG nU (j + 1) (lay0 R st n))) → Wp scr (d + 4) 74 40 [some (.ref 44), some (.ref 30), some (.int rum), some (.int (nI i))] [] H4 Q) 21 ?_ ?_
  · exact key H3 hF3 hW3 (fun j hj => absurd hj (Nat.not_lt_zero _))
  · intro H4 hF4 _ h4
    rw [w74_40]
    simp (maxDischargeDepth := 12) only [w74_0, w74_1, w74_4, w74_5, w74_8, w74_11, w74_12, w74_15, w74_16, w74_19, w74_20, w74_23, w74_24, w74_27, w74_30, w74_31, w74_34, w74_35, w74_38, w74_39, w74_41, w74_43, w74_46, w74_47, w74_50, w74_53, w74_54, w74_55, w74_58, w74_59, w74_60, w74_63, w74_66, w74_69, w74_72, w74_75, oK_some, cont_int, cont_intS, cont_none, cont_noneS, cont_long, cont_longS, true_and, and_true, false_and, and_false, true_implies, false_implies, not_true_eq_false, not_false_eq_true, eq_self, or_true, true_or, Option.isSome_some, hpf_length, hpa_length, bI_eq0, fi_hpa, fl_hpa, ar_hpf, fi_hpf_ne, fl_hpf_ne, ar_hpa_ne, hpa_hpa, hpf_hpf, nI_1, two_ne, fokZ, implies_true, Nat.reduceEqDiff, g_44_2, rc_45, g_44_0, rc_3, rc_30, rc_34, g_44_1, rc_33, g_30_2, sf_30_2, fe_30_2, g_34_2, sf_34_2, fe_34_2, g_45_2, sf_45_2, fe_45_2, g_30_3, sf_30_3, fe_30_3, g_34_3, sf_34_3, fe_34_3, g_45_3, sf_45_3, fe_45_3, g_44_3, rc_48, rc_1, rc_31, rc_35, rc_37, rc_39, rc_41, rc_46, rc_50, rc_53, rc_55, rc_57, rc_59, rc_63, rc_66, l20t]
    refine hQ H4 hF4 ?_
    apply ext_getD
    · rw [gn_49 hF4.shp, dOn_len]
    · intro j hj
      rw [dOn_len] at hj
      rw [h4 j hj]
      unfold dOn
      rw [getD_rmap hj]
  · intro i hi hw H4 hF4 hW4 h4
    have hC4 := hC.1.of hF4 (by decide) (by decide)
    have hs4 := hF4.shp
    rw [w74_40]
    simp (maxDischargeDepth := 12) only [w74_0, w74_1, w74_4, w74_5, w74_8, w74_11, w74_12, w74_15, w74_16, w74_19, w74_20, w74_23, w74_24, w74_27, w74_30, w74_31, w74_34, w74_35, w74_38, w74_39, w74_41, w74_43, w74_46, w74_47, w74_50, w74_53, w74_54, w74_55, w74_58, w74_59, w74_60, w74_63, w74_66, w74_69, w74_72, w74_75, oK_some, cont_int, cont_intS, cont_none, cont_noneS, cont_long, cont_longS, true_and, and_true, false_and, and_false, true_implies, false_implies, not_true_eq_false, not_false_eq_true, eq_self, or_true, true_or, Option.isSome_some, hpf_length, hpa_length, bI_eq0, fi_hpa, fl_hpa, ar_hpf, fi_hpf_ne, fl_hpf_ne, ar_hpa_ne, hpa_hpa, hpf_hpf, nI_1, two_ne, fokZ, implies_true, Nat.reduceEqDiff, g_44_2, rc_45, g_44_0, rc_3, rc_30, rc_34, g_44_1, rc_33, g_30_2, sf_30_2, fe_30_2, g_34_2, sf_34_2, fe_34_2, g_45_2, sf_45_2, fe_45_2, g_30_3, sf_30_3, fe_30_3, g_34_3, sf_34_3, fe_34_3, g_45_3, sf_45_3, fe_45_3, g_44_3, rc_48, rc_1, rc_31, rc_35, rc_37, rc_39, rc_41, rc_46, rc_50, rc_53, rc_55, rc_57, rc_59, rc_63, rc_66, hs4, l20f hi]
    refine w_pass hC4 hW4 (fun H5 hF5 hW5 => ?_)
    have hC5 := hC4.of hF5 (by decide) (by decide)
    have hs5 := hF5.shp
    have hx : (ar H5 49).length < 2147483648 := by rw [gn_49 hs5]; decide
    have hF6 := hF4.trans (hF5.mono (T := [33, 34, 36, 38, 40, 42, 45, 47, 49]) (G := []) (by decide) (by decide))
    simp (maxDischargeDepth := 12) only [w74_0, w74_1, w74_4, w74_5, w74_8, w74_11, w74_12, w74_15, w74_16, w74_19, w74_20, w74_23, w74_24, w74_27, w74_30, w74_31, w74_34, w74_35, w74_38, w74_39, w74_41, w74_43, w74_46, w74_47, w74_50, w74_53, w74_54, w74_55, w74_58, w74_59, w74_60, w74_63, w74_66, w74_69, w74_72, w74_75, oK_some, cont_int, cont_intS, cont_none, cont_noneS, cont_long, cont_longS, true_and, and_true, false_and, and_false, true_implies, false_implies, not_true_eq_false, not_false_eq_true, eq_self, or_true, true_or, Option.isSome_some, hpf_length, hpa_length, bI_eq0, fi_hpa, fl_hpa, ar_hpf, fi_hpf_ne, fl_hpf_ne, ar_hpa_ne, hpa_hpa, hpf_hpf, nI_1, two_ne, fokZ, implies_true, Nat.reduceEqDiff, g_44_2, rc_45, g_44_0, rc_3, rc_30, rc_34, g_44_1, rc_33, g_30_2, sf_30_2, fe_30_2, g_34_2, sf_34_2, fe_34_2, g_45_2, sf_45_2, fe_45_2, g_30_3, sf_30_3, fe_30_3, g_34_3, sf_34_3, fe_34_3, g_45_3, sf_45_3, fe_45_3, g_44_3, rc_48, rc_1, rc_31, rc_35, rc_37, rc_39, rc_41, rc_46, rc_50, rc_53, rc_55, rc_57, rc_59, rc_63, rc_66, hF5.len, hs5, w_doubting hC5 hW5.1.1, c_Cells_set (g_48_0 hs5) (ga_49 hs5) hx]
    have hF7 : Fg [49] [] H5 (hpa H5 49 (cSet (ar H5 49) (nI i) (dbt n (dayM R rum n nW nG nU (daysM R rum n nW nG nU i (lay0 R st n)))))) := fg_hpa hs5 (by rw [cSet_length]) (by decide)
    refine hw _ (hF6.trans (hF7.mono (by decide) (by decide))) ?_ (fun j hj => ?_)
    · obtain ⟨w1, w2, w3, w4⟩ := hW5
      exact ⟨w1.of hF7 (by decide) (by decide) (by decide), by rw [fi_hpa, ar_hpa_ne (by decide)]; exact w2, by rw [fi_hpa]; exact w3, w4⟩
    · rw [ae_49 hs5, cSet_getD (by omega), gn_49 hs5]
      by_cases e : i = j
      · subst e; rw [if_pos ⟨rfl, by omega⟩]; rfl
      · rw [if_neg (fun q => e q.1), hF5.arr (by decide), h4 j (by omega)]
theorem c_firstWrong {dO : List Int32} (hC : CSl H R n nS nW nG nU nN) (hd : ar H 49 = dO) : Wp scr (d + 1) 75 0 [some (.ref 44), none, none] [] H Q ↔ Q (some (.int (wsM R nN dO))) H := by
  refine Wp_iff ?_
  generalize hQ : (fun (r : Option Value) (H' : List AC) => r = some (.int (wsM R nN dO)) ∧ H' = H) = Q1
  have hS := hC.shp
  have c7 := hC.2.1.2.2.2.2.2.1
  have b7 := hC.2.1.2.2.2.2.2.2.2.2.2.2.2
  have b2 := hC.2.1.2.2.2.2.2.2.1
  have hx15 : (ar H 15).length < 2147483648 := by rw [gn_15 hS]; decide
  have hx49 : (ar H 49).length < 2147483648 := by rw [gn_49 hS]; decide
  simp only [w75_0, w75_1]
  have key := down (P := fun i => (∀ j, j < i → wsP R dO j = false) → ∀ o2 : Option Value, Wp scr (d + 1) 75 2 [some (.ref 44), some (.int (nI i)), o2] [] H Q1) nN ?_ ?_
  · exact key (fun j hj => absurd hj (Nat.not_lt_zero _)) none
  · intro hno o2
    rw [w75_2]
    simp (maxDischargeDepth := 12) only [w75_0, w75_1, w75_3, w75_4, w75_7, w75_10, w75_13, w75_16, w75_17, w75_20, w75_21, w75_24, w75_27, w75_28, w75_29, w75_32, w75_35, w75_36, w75_39, w75_42, w75_43, w75_44, w75_47, w75_48, w75_49, w75_50, w75_51, w75_52, w75_53, w75_56, w75_59, w75_60, w75_61, w75_64, w75_67, w75_68, w75_69, w75_72, w75_75, w75_77, oK_some, cont_int, cont_intS, cont_none, cont_noneS, cont_long, cont_longS, true_and, and_true, false_and, and_false, true_implies, false_implies, not_true_eq_false, not_false_eq_true, eq_self, or_true, true_or, Option.isSome_some, hpf_length, hpa_length, bI_eq0, fi_hpa, fl_hpa, ar_hpf, fi_hpf_ne, fl_hpf_ne, ar_hpa_ne, hpa_hpa, hpf_hpf, nI_1, two_ne, fokZ, implies_true, Nat.reduceEqDiff, g_44_0, rc_3, g_3_7, rc_14, g_16_7, rc_27, rc_4, rc_6, rc_8, rc_10, rc_12, rc_17, rc_19, rc_21, rc_23, rc_25, g_44_3, rc_48, rc_1, rc_31, rc_35, rc_37, rc_39, rc_41, rc_46, rc_50, rc_53, rc_55, rc_57, rc_59, rc_63, rc_66, hS, c_Table_count (g_14_2 hS), c7, nI_les]
    rw [← hQ]
    unfold wsM
    rw [fnd_miss hno]
    exact ⟨rfl, rfl⟩
  · intro i hi hw hno o2
    obtain ⟨r, dd, hr, hdd, s0, s0', s3, s3', s1⟩ := hC.2.2.2.2.2.2.2.1 i hi
    have ep : wsP R dO i = decide (¬ (dO.getD dd 0 >>> (nI r &&& 31)) &&& 1 = rg R (133 + 3 * i + 2)) := by
      unfold wsP
      rw [s3', s0', nI_clamp (by omega)]
    rw [w75_2]
    simp (maxDischargeDepth := 12) only [w75_0, w75_1, w75_3, w75_4, w75_7, w75_10, w75_13, w75_16, w75_17, w75_20, w75_21, w75_24, w75_27, w75_28, w75_29, w75_32, w75_35, w75_36, w75_39, w75_42, w75_43, w75_44, w75_47, w75_48, w75_49, w75_50, w75_51, w75_52, w75_53, w75_56, w75_59, w75_60, w75_61, w75_64, w75_67, w75_68, w75_69, w75_72, w75_75, w75_77, oK_some, cont_int, cont_intS, cont_none, cont_noneS, cont_long, cont_longS, true_and, and_true, false_and, and_false, true_implies, false_implies, not_true_eq_false, not_false_eq_true, eq_self, or_true, true_or, Option.isSome_some, hpf_length, hpa_length, bI_eq0, fi_hpa, fl_hpa, ar_hpf, fi_hpf_ne, fl_hpf_ne, ar_hpa_ne, hpa_hpa, hpf_hpf, nI_1, two_ne, fokZ, implies_true, Nat.reduceEqDiff, g_44_0, rc_3, g_3_7, rc_14, g_16_7, rc_27, rc_4, rc_6, rc_8, rc_10, rc_12, rc_17, rc_19, rc_21, rc_23, rc_25, g_44_3, rc_48, rc_1, rc_31, rc_35, rc_37, rc_39, rc_41, rc_46, rc_50, rc_53, rc_55, rc_57, rc_59, rc_63, rc_66, hS, c_Table_count (g_14_2 hS), c7, nI_lef hi (by omega : nN < 2147483648), c_Table_at (g_14_1 hS) (ga_15 hS) hx15, tg_eq (xs := ar H 15) (i := i) 0 (v := 0) (by omega) (by decide) rfl, tg_eq (xs := ar H 15) (i := i) 1 (v := 1) (by omega) (by decide) rfl, tg_eq (xs := ar H 15) (i := i) 3 (v := 3) (by omega) (by decide) rfl, s0, s1, s3, c_Cells_at (g_48_0 hS) (ga_49 hS) hx49, cAt_nI (show dd < 2147483648 by omega), hd]
    by_cases hc : (dO.getD dd 0 >>> (nI r &&& 31)) &&& 1 = rg R (133 + 3 * i + 2)
    · simp only [hc, oK_some, cont_int, cont_intS, cont_none, cont_noneS, cont_long, cont_longS, true_and, and_true, false_and, and_false, true_implies, false_implies, not_true_eq_false, not_false_eq_true, eq_self, or_true, true_or, Option.isSome_some, hpf_length, hpa_length, bI_eq0, fi_hpa, fl_hpa, ar_hpf, fi_hpf_ne, fl_hpf_ne, ar_hpa_ne, hpa_hpa, hpf_hpf, nI_1, two_ne, fokZ, implies_true, Nat.reduceEqDiff]
      refine hw (fun j hj => ?_) _
      rcases Nat.lt_or_ge j i with q | q
      · exact hno j q
      · rw [show j = i by omega, ep]; exact decide_eq_false (fun z => z hc)
    · simp only [hc, oK_some, cont_int, cont_intS, cont_none, cont_noneS, cont_long, cont_longS, true_and, and_true, false_and, and_false, true_implies, false_implies, not_true_eq_false, not_false_eq_true, eq_self, or_true, true_or, Option.isSome_some, hpf_length, hpa_length, bI_eq0, fi_hpa, fl_hpa, ar_hpf, fi_hpf_ne, fl_hpf_ne, ar_hpa_ne, hpa_hpa, hpf_hpf, nI_1, two_ne, fokZ, implies_true, Nat.reduceEqDiff]
      rw [← hQ]
      unfold wsM
      rw [fnd_hit hi (by rw [ep]; exact decide_eq_true hc) hno]
      exact ⟨rfl, rfl⟩
theorem c_countDoubts {dO D : List Int32} (hC : CSl H R n nS nW nG nU nN) (hd : ar H 49 = dO) (hD : ar H 51 = D) (hQ : ∀ H', Fg [51] [] H H' → ar H' 51 = addD dO n D → Q none H') : Wp scr (d + 1) 76 0 [some (.ref 44), none, none] [] H Q := by
  have b2 := hC.2.1.2.2.2.2.2.2.1
  have hl : D.length = 147 := by rw [← hD]; exact gn_51 hC.shp
  rw [← cdR_eq hl b2] at hQ
  simp only [w76_0, w76_1]
  have key := down (P := fun r => ∀ H2, ∀ o2 : Option Value, Fg [51] [] H H2 → ar H2 51 = forN (cdR dO) r D → Wp scr (d + 1) 76 2 [some (.ref 44), some (.int (nI r)), o2] [] H2 Q) n ?_ ?_
  · exact key H none (Fg.rfl' hC.shp) hD
  · intro H2 o2 hF2 a2
    have hC2 := hC.of hF2 (by decide) (by decide)
    have hs2 := hF2.shp
    have c2' := hC2.2.1.1
    rw [w76_2]
    simp (maxDischargeDepth := 12) only [w76_0, w76_1, w76_3, w76_4, w76_7, w76_10, w76_13, w76_16, w76_17, w76_19, w76_21, w76_24, w76_25, w76_28, w76_29, w76_31, w76_32, w76_33, w76_34, w76_35, w76_38, w76_39, w76_42, w76_43, w76_44, w76_45, w76_46, w76_49, w76_52, w76_55, w76_58, w76_61, oK_some, cont_int, cont_intS, cont_none, cont_noneS, cont_long, cont_longS, true_and, and_true, false_and, and_false, true_implies, false_implies, not_true_eq_false, not_false_eq_true, eq_self, or_true, true_or, Option.isSome_some, hpf_length, hpa_length, bI_eq0, fi_hpa, fl_hpa, ar_hpf, fi_hpf_ne, fl_hpf_ne, ar_hpa_ne, hpa_hpa, hpf_hpf, nI_1, two_ne, fokZ, implies_true, Nat.reduceEqDiff, g_44_0, rc_3, g_3_2, rc_4, g_16_2, rc_17, rc_6, rc_8, rc_10, rc_12, rc_14, rc_19, rc_21, rc_23, rc_25, rc_27, g_44_4, rc_50, g_44_3, rc_48, rc_1, rc_31, rc_35, rc_37, rc_39, rc_41, rc_46, rc_53, rc_55, rc_57, rc_59, rc_63, rc_66, hs2, c_Table_count (g_4_2 hs2), c2', nI_les]
    exact hQ H2 hF2 a2
  · intro r hr hw H2 o2 hF2 a2
    have hC2 := hC.of hF2 (by decide) (by decide)
    have hs2 := hF2.shp
    have c2' := hC2.2.1.1
    rw [forN_succ] at hw
    generalize forN (cdR dO) r D = D1 at hw a2
    rw [w76_2]
    simp (maxDischargeDepth := 12) only [w76_0, w76_1, w76_3, w76_4, w76_7, w76_10, w76_13, w76_16, w76_17, w76_19, w76_21, w76_24, w76_25, w76_28, w76_29, w76_31, w76_32, w76_33, w76_34, w76_35, w76_38, w76_39, w76_42, w76_43, w76_44, w76_45, w76_46, w76_49, w76_52, w76_55, w76_58, w76_61, oK_some, cont_int, cont_intS, cont_none, cont_noneS, cont_long, cont_longS, true_and, and_true, false_and, and_false, true_implies, false_implies, not_true_eq_false, not_false_eq_true, eq_self, or_true, true_or, Option.isSome_some, hpf_length, hpa_length, bI_eq0, fi_hpa, fl_hpa, ar_hpf, fi_hpf_ne, fl_hpf_ne, ar_hpa_ne, hpa_hpa, hpf_hpf, nI_1, two_ne, fokZ, implies_true, Nat.reduceEqDiff, g_44_0, rc_3, g_3_2, rc_4, g_16_2, rc_17, rc_6, rc_8, rc_10, rc_12, rc_14, rc_19, rc_21, rc_23, rc_25, rc_27, g_44_4, rc_50, g_44_3, rc_48, rc_1, rc_31, rc_35, rc_37, rc_39, rc_41, rc_46, rc_53, rc_55, rc_57, rc_59, rc_63, rc_66, hs2, c_Table_count (g_4_2 hs2), c2', nI_lef hr (by omega : n < 2147483648)]
    have key2 := down (P := fun dd => ∀ H3, Fg [51] [] H H3 → ar H3 51 = forN (cdI dO r) dd D1 → Wp scr (d + 1) 76 18 [some (.ref 44), some (.int (nI r)), some (.int (nI dd))] [] H3 Q) 21 ?_ ?_
    · exact key2 H2 hF2 a2
    · intro H3 hF3 a3
      rw [w76_18]
      simp (maxDischargeDepth := 12) only [w76_0, w76_1, w76_3, w76_4, w76_7, w76_10, w76_13, w76_16, w76_17, w76_19, w76_21, w76_24, w76_25, w76_28, w76_29, w76_31, w76_32, w76_33, w76_34, w76_35, w76_38, w76_39, w76_42, w76_43, w76_44, w76_45, w76_46, w76_49, w76_52, w76_55, w76_58, w76_61, oK_some, cont_int, cont_intS, cont_none, cont_noneS, cont_long, cont_longS, true_and, and_true, false_and, and_false, true_implies, false_implies, not_true_eq_false, not_false_eq_true, eq_self, or_true, true_or, Option.isSome_some, hpf_length, hpa_length, bI_eq0, fi_hpa, fl_hpa, ar_hpf, fi_hpf_ne, fl_hpf_ne, ar_hpa_ne, hpa_hpa, hpf_hpf, nI_1, two_ne, fokZ, implies_true, Nat.reduceEqDiff, g_44_0, rc_3, g_3_2, rc_4, g_16_2, rc_17, rc_6, rc_8, rc_10, rc_12, rc_14, rc_19, rc_21, rc_23, rc_25, rc_27, g_44_4, rc_50, g_44_3, rc_48, rc_1, rc_31, rc_35, rc_37, rc_39, rc_41, rc_46, rc_53, rc_55, rc_57, rc_59, rc_63, rc_66, l20t]
      exact hw H3 _ hF3 a3
    · intro dd hdd hw2 H3 hF3 a3
      have hs3 := hF3.shp
      have hx49 : (ar H3 49).length < 2147483648 := by rw [gn_49 hs3]; decide
      have hx51 : (ar H3 51).length < 2147483648 := by rw [gn_51 hs3]; decide
      have a49 : ar H3 49 = dO := by rw [hF3.arr (by decide), hd]
      have e1 : nI r * 21 + nI dd = nI (r * 21 + dd) := by rw [show (21 : Int32) = nI 21 from rfl, pk_mul, nI_add]
      rw [forN_succ, ← a3] at hw2
      rw [w76_18]
      simp (maxDischargeDepth := 12) only [w76_0, w76_1, w76_3, w76_4, w76_7, w76_10, w76_13, w76_16, w76_17, w76_19, w76_21, w76_24, w76_25, w76_28, w76_29, w76_31, w76_32, w76_33, w76_34, w76_35, w76_38, w76_39, w76_42, w76_43, w76_44, w76_45, w76_46, w76_49, w76_52, w76_55, w76_58, w76_61, oK_some, cont_int, cont_intS, cont_none, cont_noneS, cont_long, cont_longS, true_and, and_true, false_and, and_false, true_implies, false_implies, not_true_eq_false, not_false_eq_true, eq_self, or_true, true_or, Option.isSome_some, hpf_length, hpa_length, bI_eq0, fi_hpa, fl_hpa, ar_hpf, fi_hpf_ne, fl_hpf_ne, ar_hpa_ne, hpa_hpa, hpf_hpf, nI_1, two_ne, fokZ, implies_true, Nat.reduceEqDiff, g_44_0, rc_3, g_3_2, rc_4, g_16_2, rc_17, rc_6, rc_8, rc_10, rc_12, rc_14, rc_19, rc_21, rc_23, rc_25, rc_27, g_44_4, rc_50, g_44_3, rc_48, rc_1, rc_31, rc_35, rc_37, rc_39, rc_41, rc_46, rc_53, rc_55, rc_57, rc_59, rc_63, rc_66, hs3, l20f hdd, c_Cells_at (g_48_0 hs3) (ga_49 hs3) hx49, cAt_nI (show dd < 2147483648 by omega), a49, e1, c_Cells_add (g_50_0 hs3) (ga_51 hs3) hx51]
      refine hw2 _ (hF3.trans (fg_hpa hs3 (by rw [cAdd_length]) (by decide))) ?_
      rw [ae_51 hs3]
      rfl
/-- the sets that fit -/
def fitS (R st : List Int32) (n nW nG nU nN : Nat) (set : Nat) : Bool := decide (wsM R nN (dOn R st n nW nG nU (nI set)) = -2)
theorem c_find (hC : CIv H R st n nS nW nG nU nN) (hV : Vf R n) (hQ : ∀ H', Fg [33, 34, 36, 38, 40, 42, 44, 45, 47, 49, 51] [] H H' → fi H' 44 5 = nI (fitN (fitS R st n nW nG nU nN) (2 ^ nU)) → ar H' 51 = forN (fsD (fitS R st n nW nG nU nN) (fun set => dOn R st n nW nG nU (nI set)) n) (2 ^ nU) (List.replicate 147 0) → Q none H') : Wp scr (d + 5) 73 0 [some (.ref 44), some (.ref 30), none, none] [] H Q := by
  have hS := hC.shp
  obtain ⟨c2, c3, c4, c5, c6, c7, b2, b3, b4, b5, b6, b7⟩ := id hC.1.2.1
  have hpw : 2 ^ nU ≤ 2 ^ 5 := p2_lt b6
  generalize hf : fitS R st n nW nG nU nN = fit at hQ
  have hfi : ∀ s, decide (wsM R nN (dOn R st n nW nG nU (nI s)) = -2) = fit s := fun s => by rw [← hf]; rfl
  generalize hdO : (fun set => dOn R st n nW nG nU (nI set)) = dO at hQ
  have hdi : ∀ s : Nat, dOn R st n nW nG nU (nI s) = dO s := fun s => by rw [← hdO]
  have hs1 := sf_44_5 (v := 0) hS
  have hx51 : (ar (hpf H 44 5 (.int 0)) 51).length < 2147483648 := by rw [gn_51 hs1]; decide
  have z51 : List.replicate (ar (hpf H 44 5 (.int 0)) 51).length (0 : Int32) = List.replicate 147 0 := by rw [gn_51 hs1]
  have z51' : List.replicate (ar H 51).length (0 : Int32) = List.replicate 147 0 := by rw [gn_51 hS]
  have hs2 : Shp (hpa (hpf H 44 5 (.int 0)) 51 (List.replicate 147 0)) := sa_51 hs1 (by simp)
  simp (maxDischargeDepth := 12) only [w73_0, w73_1, w73_2, w73_5, w73_6, w73_9, w73_12, w73_13, w73_14, w73_17, w73_20, w73_23, w73_24, w73_25, w73_26, w73_28, w73_29, w73_32, w73_33, w73_34, w73_35, w73_38, w73_39, w73_42, w73_44, w73_47, w73_48, w73_49, w73_52, w73_53, w73_54, w73_55, w73_56, w73_59, w73_60, w73_63, w73_66, w73_69, oK_some, cont_int, cont_intS, cont_none, cont_noneS, cont_long, cont_longS, true_and, and_true, false_and, and_false, true_implies, false_implies, not_true_eq_false, not_false_eq_true, eq_self, or_true, true_or, Option.isSome_some, hpf_length, hpa_length, bI_eq0, fi_hpa, fl_hpa, ar_hpf, fi_hpf_ne, fl_hpf_ne, ar_hpa_ne, hpa_hpa, hpf_hpf, nI_1, two_ne, fokZ, implies_true, Nat.reduceEqDiff, g_44_5, sf_44_5, fe_44_5, g_44_4, rc_50, rc_1, rc_31, rc_35, rc_37, rc_39, rc_41, rc_46, rc_48, rc_53, rc_55, rc_57, rc_59, rc_63, rc_66, g_44_0, rc_3, g_3_6, rc_12, g_16_6, rc_25, rc_4, rc_6, rc_8, rc_10, rc_14, rc_17, rc_19, rc_21, rc_23, rc_27, rc_44, hS, hs1, c_Cells_clear (g_50_0 hs1) (ga_51 hs1) hx51, z51, z51', hs2, c_Table_count (g_12_2 hs2), c6, p2 (by omega : nU ≤ 10)]
  have key := down (P := fun i => ∀ H2, Fg [33, 34, 36, 38, 40, 42, 44, 45, 47, 49, 51] [] H H2 → fi H2 44 5 = nI (fitN fit i) → ar H2 51 = forN (fsD fit dO n) i (List.replicate 147 0) → Wp scr (d + 5) 73 27 [some (.ref 44), some (.ref 30), some (.int (nI (2 ^ nU))), some (.int (nI i))] [] H2 Q) (2 ^ nU) ?_ ?_
  · refine key _ ((fr_hpf (S := [33, 34, 36, 38, 40, 42, 44, 45, 47, 49, 51]) (ci := 7) hS rfl (by decide)).fg.trans (fg_hpa hs1 (by rw [gn_51 hs1]; simp) (by decide))) ?_ ?_
    · rw [fi_hpa, fe_44_5 hS]; rfl
    · rw [ae_51 hs1]; rfl
  · intro H2 hF2 f2 a2
    rw [w73_27]
    simp (maxDischargeDepth := 12) only [w73_0, w73_1, w73_2, w73_5, w73_6, w73_9, w73_12, w73_13, w73_14, w73_17, w73_20, w73_23, w73_24, w73_25, w73_26, w73_28, w73_29, w73_32, w73_33, w73_34, w73_35, w73_38, w73_39, w73_42, w73_44, w73_47, w73_48, w73_49, w73_52, w73_53, w73_54, w73_55, w73_56, w73_59, w73_60, w73_63, w73_66, w73_69, oK_some, cont_int, cont_intS, cont_none, cont_noneS, cont_long, cont_longS, true_and, and_true, false_and, and_false, true_implies, false_implies, not_true_eq_false, not_false_eq_true, eq_self, or_true, true_or, Option.isSome_some, hpf_length, hpa_length, bI_eq0, fi_hpa, fl_hpa, ar_hpf, fi_hpf_ne, fl_hpf_ne, ar_hpa_ne, hpa_hpa, hpf_hpf, nI_1, two_ne, fokZ, implies_true, Nat.reduceEqDiff, g_44_5, sf_44_5, fe_44_5, g_44_4, rc_50, rc_1, rc_31, rc_35, rc_37, rc_39, rc_41, rc_46, rc_48, rc_53, rc_55, rc_57, rc_59, rc_63, rc_66, g_44_0, rc_3, g_3_6, rc_12, g_16_6, rc_25, rc_4, rc_6, rc_8, rc_10, rc_14, rc_17, rc_19, rc_21, rc_23, rc_27, rc_44, nI_les]
    exact hQ H2 hF2 f2 a2
  · intro i hi hw H2 hF2 f2 a2
    have hC2 := hC.of hF2 (by decide) (by decide)
    have hs2 := hF2.shp
    have eF : fitN fit (i + 1) = (if fit i = true then fitN fit i ||| 2 ^ i else fitN fit i) := rfl
    rw [eF, forN_succ] at hw
    rw [w73_27]
    simp (maxDischargeDepth := 12) only [w73_0, w73_1, w73_2, w73_5, w73_6, w73_9, w73_12, w73_13, w73_14, w73_17, w73_20, w73_23, w73_24, w73_25, w73_26, w73_28, w73_29, w73_32, w73_33, w73_34, w73_35, w73_38, w73_39, w73_42, w73_44, w73_47, w73_48, w73_49, w73_52, w73_53, w73_54, w73_55, w73_56, w73_59, w73_60, w73_63, w73_66, w73_69, oK_some, cont_int, cont_intS, cont_none, cont_noneS, cont_long, cont_longS, true_and, and_true, false_and, and_false, true_implies, false_implies, not_true_eq_false, not_false_eq_true, eq_self, or_true, true_or, Option.isSome_some, hpf_length, hpa_length, bI_eq0, fi_hpa, fl_hpa, ar_hpf, fi_hpf_ne, fl_hpf_ne, ar_hpa_ne, hpa_hpa, hpf_hpf, nI_1, two_ne, fokZ, implies_true, Nat.reduceEqDiff, g_44_5, sf_44_5, fe_44_5, g_44_4, rc_50, rc_1, rc_31, rc_35, rc_37, rc_39, rc_41, rc_46, rc_48, rc_53, rc_55, rc_57, rc_59, rc_63, rc_66, g_44_0, rc_3, g_3_6, rc_12, g_16_6, rc_25, rc_4, rc_6, rc_8, rc_10, rc_14, rc_17, rc_19, rc_21, rc_23, rc_27, rc_44, hs2, nI_lef hi (by omega : 2 ^ nU < 2147483648)]
    refine c_follow hC2 hV (fun H3 hF3 a3 => ?_)
    rw [hdi] at a3
    have hC3 := hC2.of hF3 (by decide) (by decide)
    have hs3 := hF3.shp
    have hF4 := hF2.trans (hF3.mono (T := [33, 34, 36, 38, 40, 42, 44, 45, 47, 49, 51]) (G := []) (by decide) (by decide))
    have f3 : fi H3 44 5 = nI (fitN fit i) := by rw [hF3.int (by decide) (by decide), f2]
    have d3 : ar H3 51 = forN (fsD fit dO n) i (List.replicate 147 0) := by rw [hF3.arr (by decide), a2]
    have efit : decide (wsM R nN (dO i) = -2) = fit i := by rw [← hdi, hfi]
    simp (maxDischargeDepth := 12) only [w73_0, w73_1, w73_2, w73_5, w73_6, w73_9, w73_12, w73_13, w73_14, w73_17, w73_20, w73_23, w73_24, w73_25, w73_26, w73_28, w73_29, w73_32, w73_33, w73_34, w73_35, w73_38, w73_39, w73_42, w73_44, w73_47, w73_48, w73_49, w73_52, w73_53, w73_54, w73_55, w73_56, w73_59, w73_60, w73_63, w73_66, w73_69, oK_some, cont_int, cont_intS, cont_none, cont_noneS, cont_long, cont_longS, true_and, and_true, false_and, and_false, true_implies, false_implies, not_true_eq_false, not_false_eq_true, eq_self, or_true, true_or, Option.isSome_some, hpf_length, hpa_length, bI_eq0, fi_hpa, fl_hpa, ar_hpf, fi_hpf_ne, fl_hpf_ne, ar_hpa_ne, hpa_hpa, hpf_hpf, nI_1, two_ne, fokZ, implies_true, Nat.reduceEqDiff, g_44_5, sf_44_5, fe_44_5, g_44_4, rc_50, rc_1, rc_31, rc_35, rc_37, rc_39, rc_41, rc_46, rc_48, rc_53, rc_55, rc_57, rc_59, rc_63, rc_66, g_44_0, rc_3, g_3_6, rc_12, g_16_6, rc_25, rc_4, rc_6, rc_8, rc_10, rc_14, rc_17, rc_19, rc_21, rc_23, rc_27, rc_44, hF3.len, hs3, c_firstWrong hC3.1 a3]
    by_cases hc : wsM R nN (dO i) = -2
    · have ef : fit i = true := by rw [← efit]; exact decide_eq_true hc
      simp only [ef, if_true] at hw
      have t1 := fun v => sf_44_5 (v := v) hs3
      simp only [hc, oK_some, cont_int, cont_intS, cont_none, cont_noneS, cont_long, cont_longS, true_and, and_true, false_and, and_false, true_implies, false_implies, not_true_eq_false, not_false_eq_true, eq_self, or_true, true_or, Option.isSome_some, hpf_length, hpa_length, bI_eq0, fi_hpa, fl_hpa, ar_hpf, fi_hpf_ne, fl_hpf_ne, ar_hpa_ne, hpa_hpa, hpf_hpf, nI_1, two_ne, fokZ, implies_true, Nat.reduceEqDiff, f3, p2_31 (show i < 32 by omega), nI_orN]
      have hC4 : CSl (hpf H3 44 5 (.int (nI (fitN fit i ||| 2 ^ i)))) R n nS nW nG nU nN := hC3.1.of (S := [44]) (F := []) (fr_hpf (ci := 7) hs3 rfl (by decide)).fg (by decide) (by decide)
      refine c_countDoubts (dO := dO i) hC4 (by rw [ar_hpf, a3]) (by rw [ar_hpf, d3]) (fun H5 hF5 a5 => ?_)
      simp (maxDischargeDepth := 12) only [w73_0, w73_1, w73_2, w73_5, w73_6, w73_9, w73_12, w73_13, w73_14, w73_17, w73_20, w73_23, w73_24, w73_25, w73_26, w73_28, w73_29, w73_32, w73_33, w73_34, w73_35, w73_38, w73_39, w73_42, w73_44, w73_47, w73_48, w73_49, w73_52, w73_53, w73_54, w73_55, w73_56, w73_59, w73_60, w73_63, w73_66, w73_69, oK_some, cont_int, cont_intS, cont_none, cont_noneS, cont_long, cont_longS, true_and, and_true, false_and, and_false, true_implies, false_implies, not_true_eq_false, not_false_eq_true, eq_self, or_true, true_or, Option.isSome_some, hpf_length, hpa_length, bI_eq0, fi_hpa, fl_hpa, ar_hpf, fi_hpf_ne, fl_hpf_ne, ar_hpa_ne, hpa_hpa, hpf_hpf, nI_1, two_ne, fokZ, implies_true, Nat.reduceEqDiff, g_44_5, sf_44_5, fe_44_5, g_44_4, rc_50, rc_1, rc_31, rc_35, rc_37, rc_39, rc_41, rc_46, rc_48, rc_53, rc_55, rc_57, rc_59, rc_63, rc_66, g_44_0, rc_3, g_3_6, rc_12, g_16_6, rc_25, rc_4, rc_6, rc_8, rc_10, rc_14, rc_17, rc_19, rc_21, rc_23, rc_27, rc_44, hF5.len]
      refine hw H5 ((hF4.trans (fr_hpf (S := [33, 34, 36, 38, 40, 42, 44, 45, 47, 49, 51]) (ci := 7) hs3 rfl (by decide)).fg).trans (hF5.mono (by decide) (by decide))) ?_ ?_
      · rw [hF5.int (by decide) (by decide), fe_44_5 hs3]
      · rw [a5]
        unfold fsD
        rw [if_pos ef]
    · have ef : fit i = false := by rw [← efit]; exact decide_eq_false hc
      simp only [ef, Bool.false_eq_true, if_false] at hw
      simp only [hc, oK_some, cont_int, cont_intS, cont_none, cont_noneS, cont_long, cont_longS, true_and, and_true, false_and, and_false, true_implies, false_implies, not_true_eq_false, not_false_eq_true, eq_self, or_true, true_or, Option.isSome_some, hpf_length, hpa_length, bI_eq0, fi_hpa, fl_hpa, ar_hpf, fi_hpf_ne, fl_hpf_ne, ar_hpa_ne, hpa_hpa, hpf_hpf, nI_1, two_ne, fokZ, implies_true, Nat.reduceEqDiff]
      refine hw H3 hF4 f3 ?_
      rw [d3]
      unfold fsD
      rw [ef]
      rfl
end CSRC
