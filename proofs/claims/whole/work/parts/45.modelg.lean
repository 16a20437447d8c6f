/-! ===== the Model: layGame, value, take ===== -/
def gB (R st : List Int32) (n nW nG nU m : Nat) (k : Nat) : Int32 := if k < 2 ^ nG ∧ nI k &&& st.getD 7 0 = 0 then nI n - ones (dbt n (daysM R (allU nU) n nW nG nU m (wOr st (nI k) 0))) else 0
def gBs (R st : List Int32) (n nW nG nU m : Nat) : List Int32 := (List.range 64).map (gB R st n nW nG nU m)
theorem gBs_len {R st : List Int32} {n nW nG nU m : Nat} : (gBs R st n nW nG nU m).length = 64 := by unfold gBs; simp
section MODELG
variable {scr : List Int32} {d n nS nW nG nU nN w sh : Nat} {H : List AC} {R st : List Int32} {Q : Option Value → List AC → Prop}
theorem m_layGame {m : Nat} (hI : MIv H R st n nS nW nG nU nN) (hm : m < 100000) (hQ : ∀ H', Fg [76, 77, 81, 82] [(68, 22)] H H' → ar H' 81 = gBs R st n nW nG nU m → ar H' 82 = List.replicate 16384 (-1) → Q none H') : Wp scr (d + 6) 281 0 [some (.ref 68), some (.int (nI m)), none] [] H Q := by
  have hS := hI.shp
  have rgR : ∀ j, R.getD j 0 = rg R j := fun _ => rfl
  obtain ⟨c2, c3, c4, c5, c6, c7, b2, b3, b4, b5, b6, b7⟩ := hI.mn
  have hpw : 2 ^ nG ≤ 2 ^ 6 := p2_lt b5
  simp only [w281_0, w281_1]
  have key := down (P := fun i => ∀ H2, Fg [76, 77, 81, 82] [(68, 22)] H H2 → ar H2 81 = forN (fun k zs => zs.set k (gB R st n nW nG nU m k)) i (ar H 81) → Wp scr (d + 6) 281 2 [some (.ref 68), some (.int (nI m)), some (.int (nI i))] [] H2 Q) 64 ?_ ?_
  · exact key H (Fg.rfl' hS) rfl
  · intro H2 hF2 a2
    have hs2 := hF2.shp
    have a2' : ar H2 81 = gBs R st n nW nG nU m := by
      rw [a2]
      have hfl := fun j => fill_getD (F := gB R st n nW nG nU m) (ys := ar H 81) (j := j) 64 (by rw [gn_81 hS]; decide)
      apply ext_getD
      · rw [(hfl 0).1, gn_81 hS, gBs_len]
      · intro j hj
        rw [gBs_len] at hj
        rw [(hfl j).2, if_pos hj]
        unfold gBs
        rw [getD_rmap hj]
    rw [w281_2]
    simp (maxDischargeDepth := 12) only [w281_0, w281_1, w281_3, w281_5, w281_8, w281_9, w281_12, w281_13, w281_14, w281_15, w281_16, w281_17, w281_18, w281_21, w281_22, w281_23, w281_24, w281_27, w281_28, w281_29, w281_32, w281_34, w281_35, w281_36, w281_39, w281_42, w281_43, w281_44, w281_45, w281_46, w281_49, w281_50, w281_53, w281_54, w281_55, w281_58, w281_59, w281_60, w281_61, w281_62, w281_65, w281_68, w281_71, w281_72, w281_73, w281_76, w281_79, w281_80, w281_82, w281_85, w281_88, w281_89, w281_92, w281_93, w281_94, w281_95, w281_98, w281_101, oK_some, cont_int, cont_intS, cont_none, cont_noneS, cont_long, cont_longS, true_and, and_true, false_and, and_false, true_implies, false_implies, not_true_eq_false, not_false_eq_true, eq_self, or_true, true_or, Option.isSome_some, hpf_length, hpa_length, bI_eq0, fi_hpa, fl_hpa, ar_hpf, fi_hpf_ne, fl_hpf_ne, ar_hpa_ne, hpa_hpa, hpf_hpf, nI_1, two_ne, fokZ, implies_true, Nat.reduceEqDiff, g_68_33, ga_81, gn_81, sa_81, ae_81, g_68_15, ga_71, gn_71, sa_71, ae_71, g_68_17, ga_73, gn_73, sa_73, ae_73, rc_68, g_68_24, ga_77, gn_77, sa_77, ae_77, g_68_34, ga_82, gn_82, sa_82, ae_82, kl_0, kl_1, kl_2, kl_3, kl_4, kl_5, kl_6, kl_7, kl_8, kl_9, kl_10, kl_11, kl_12, jb_0_64, jb_1_64, jb_2_64, jb_3_64, jb_4_64, jb_5_64, jb_6_64, jb_7_64, jb_8_64, jb_9_64, jb_10_64, jb_11_64, jb_12_64, jb_0_10, jb_1_10, jb_2_10, jb_3_10, jb_4_10, jb_5_10, jb_6_10, jb_7_10, jb_8_10, jb_9_10, jb_0_211, jb_1_211, jb_2_211, jb_3_211, jb_4_211, jb_5_211, jb_6_211, jb_7_211, jb_8_211, jb_9_211, jb_10_211, jb_11_211, jb_12_211, show ((64 : Int32) ≤ nI 64) = True from eq_true (by decide)]
    have key2 := down (P := fun i => Wp scr (d + 6) 281 81 [some (.ref 68), some (.int (nI m)), some (.int (nI i))] [] (hpa H2 82 (List.replicate i (-1) ++ (ar H2 82).drop i)) Q) 16384 ?_ ?_
    · rw [List.replicate_zero, List.nil_append, List.drop_zero, hpa_self (ga_82 hs2)] at key2
      exact key2
    · have l82 := gn_82 hs2
      rw [w281_81, List.drop_eq_nil_of_le (by rw [l82]; exact Nat.le_refl _), List.append_nil]
      simp (maxDischargeDepth := 12) only [w281_0, w281_1, w281_3, w281_5, w281_8, w281_9, w281_12, w281_13, w281_14, w281_15, w281_16, w281_17, w281_18, w281_21, w281_22, w281_23, w281_24, w281_27, w281_28, w281_29, w281_32, w281_34, w281_35, w281_36, w281_39, w281_42, w281_43, w281_44, w281_45, w281_46, w281_49, w281_50, w281_53, w281_54, w281_55, w281_58, w281_59, w281_60, w281_61, w281_62, w281_65, w281_68, w281_71, w281_72, w281_73, w281_76, w281_79, w281_80, w281_82, w281_85, w281_88, w281_89, w281_92, w281_93, w281_94, w281_95, w281_98, w281_101, oK_some, cont_int, cont_intS, cont_none, cont_noneS, cont_long, cont_longS, true_and, and_true, false_and, and_false, true_implies, false_implies, not_true_eq_false, not_false_eq_true, eq_self, or_true, true_or, Option.isSome_some, hpf_length, hpa_length, bI_eq0, fi_hpa, fl_hpa, ar_hpf, fi_hpf_ne, fl_hpf_ne, ar_hpa_ne, hpa_hpa, hpf_hpf, nI_1, two_ne, fokZ, implies_true, Nat.reduceEqDiff, g_68_33, ga_81, gn_81, sa_81, ae_81, g_68_15, ga_71, gn_71, sa_71, ae_71, g_68_17, ga_73, gn_73, sa_73, ae_73, rc_68, g_68_24, ga_77, gn_77, sa_77, ae_77, g_68_34, ga_82, gn_82, sa_82, ae_82, kl_0, kl_1, kl_2, kl_3, kl_4, kl_5, kl_6, kl_7, kl_8, kl_9, kl_10, kl_11, kl_12, jb_0_64, jb_1_64, jb_2_64, jb_3_64, jb_4_64, jb_5_64, jb_6_64, jb_7_64, jb_8_64, jb_9_64, jb_10_64, jb_11_64, jb_12_64, jb_0_10, jb_1_10, jb_2_10, jb_3_10, jb_4_10, jb_5_10, jb_6_10, jb_7_10, jb_8_10, jb_9_10, jb_0_211, jb_1_211, jb_2_211, jb_3_211, jb_4_211, jb_5_211, jb_6_211, jb_7_211, jb_8_211, jb_9_211, jb_10_211, jb_11_211, jb_12_211, show ((16384 : Int32) ≤ nI 16384) = True from eq_true (by decide)]
      exact hQ _ (hF2.trans (fg_hpa hs2 (by rw [l82, List.length_replicate]) (by decide))) (by rw [ar_hpa_ne (by decide), a2']) (by rw [ae_82 hs2])
    · intro i hi hw
      have l82 := gn_82 hs2
      have hl : (List.replicate i (-1 : Int32) ++ (ar H2 82).drop i).length = 16384 := by simp [l82]; omega
      have hs3 : Shp (hpa H2 82 (List.replicate i (-1) ++ (ar H2 82).drop i)) := sa_82 hs2 hl
      rw [w281_81]
      simp (maxDischargeDepth := 12) only [w281_0, w281_1, w281_3, w281_5, w281_8, w281_9, w281_12, w281_13, w281_14, w281_15, w281_16, w281_17, w281_18, w281_21, w281_22, w281_23, w281_24, w281_27, w281_28, w281_29, w281_32, w281_34, w281_35, w281_36, w281_39, w281_42, w281_43, w281_44, w281_45, w281_46, w281_49, w281_50, w281_53, w281_54, w281_55, w281_58, w281_59, w281_60, w281_61, w281_62, w281_65, w281_68, w281_71, w281_72, w281_73, w281_76, w281_79, w281_80, w281_82, w281_85, w281_88, w281_89, w281_92, w281_93, w281_94, w281_95, w281_98, w281_101, oK_some, cont_int, cont_intS, cont_none, cont_noneS, cont_long, cont_longS, true_and, and_true, false_and, and_false, true_implies, false_implies, not_true_eq_false, not_false_eq_true, eq_self, or_true, true_or, Option.isSome_some, hpf_length, hpa_length, bI_eq0, fi_hpa, fl_hpa, ar_hpf, fi_hpf_ne, fl_hpf_ne, ar_hpa_ne, hpa_hpa, hpf_hpf, nI_1, two_ne, fokZ, implies_true, Nat.reduceEqDiff, g_68_33, ga_81, gn_81, sa_81, ae_81, g_68_15, ga_71, gn_71, sa_71, ae_71, g_68_17, ga_73, gn_73, sa_73, ae_73, rc_68, g_68_24, ga_77, gn_77, sa_77, ae_77, g_68_34, ga_82, gn_82, sa_82, ae_82, kl_0, kl_1, kl_2, kl_3, kl_4, kl_5, kl_6, kl_7, kl_8, kl_9, kl_10, kl_11, kl_12, jb_0_64, jb_1_64, jb_2_64, jb_3_64, jb_4_64, jb_5_64, jb_6_64, jb_7_64, jb_8_64, jb_9_64, jb_10_64, jb_11_64, jb_12_64, jb_0_10, jb_1_10, jb_2_10, jb_3_10, jb_4_10, jb_5_10, jb_6_10, jb_7_10, jb_8_10, jb_9_10, jb_0_211, jb_1_211, jb_2_211, jb_3_211, jb_4_211, jb_5_211, jb_6_211, jb_7_211, jb_8_211, jb_9_211, jb_10_211, jb_11_211, jb_12_211, hs2, hs3, hl, show ((16384 : Int32) ≤ nI i) = False from eq_false (nI_ge (b := 16384) hi (by decide)), inb_nI (i := i) (by omega), decide_eq_true (by omega : i < 16384), nI_clamp (n := i) (by omega)]
      rw [set_fill (by omega) (by simp), ← List.replicate_succ']
      exact hw
  · intro i hi hw H2 hF2 a2
    have hI2 := hI.of hF2 (by decide) (by decide) (by decide) (by decide)
    have hs2 := hF2.shp
    rw [forN_succ, ← a2] at hw
    have l81 : (ar H2 81).length = 64 := gn_81 hs2
    have hsa : Shp (hpa H2 81 ((ar H2 81).set i 0)) := sa_81 hs2 (by rw [List.length_set, l81])
    have hFa : Fg [76, 77, 81, 82] [(68, 22)] H (hpa H2 81 ((ar H2 81).set i 0)) := hF2.trans (fg_hpa hs2 (by rw [List.length_set]) (by decide))
    have hIa := hI.of hFa (by decide) (by decide) (by decide) (by decide)
    have ea : ar (hpa H2 81 ((ar H2 81).set i 0)) 81 = (ar H2 81).set i 0 := ae_81 hs2
    have hla : (hpa H2 81 ((ar H2 81).set i 0)).length = H2.length := hpa_length
    rw [w281_2]
    simp (maxDischargeDepth := 12) only [w281_0, w281_1, w281_3, w281_5, w281_8, w281_9, w281_12, w281_13, w281_14, w281_15, w281_16, w281_17, w281_18, w281_21, w281_22, w281_23, w281_24, w281_27, w281_28, w281_29, w281_32, w281_34, w281_35, w281_36, w281_39, w281_42, w281_43, w281_44, w281_45, w281_46, w281_49, w281_50, w281_53, w281_54, w281_55, w281_58, w281_59, w281_60, w281_61, w281_62, w281_65, w281_68, w281_71, w281_72, w281_73, w281_76, w281_79, w281_80, w281_82, w281_85, w281_88, w281_89, w281_92, w281_93, w281_94, w281_95, w281_98, w281_101, oK_some, cont_int, cont_intS, cont_none, cont_noneS, cont_long, cont_longS, true_and, and_true, false_and, and_false, true_implies, false_implies, not_true_eq_false, not_false_eq_true, eq_self, or_true, true_or, Option.isSome_some, hpf_length, hpa_length, bI_eq0, fi_hpa, fl_hpa, ar_hpf, fi_hpf_ne, fl_hpf_ne, ar_hpa_ne, hpa_hpa, hpf_hpf, nI_1, two_ne, fokZ, implies_true, Nat.reduceEqDiff, g_68_33, ga_81, gn_81, sa_81, ae_81, g_68_15, ga_71, gn_71, sa_71, ae_71, g_68_17, ga_73, gn_73, sa_73, ae_73, rc_68, g_68_24, ga_77, gn_77, sa_77, ae_77, g_68_34, ga_82, gn_82, sa_82, ae_82, kl_0, kl_1, kl_2, kl_3, kl_4, kl_5, kl_6, kl_7, kl_8, kl_9, kl_10, kl_11, kl_12, jb_0_64, jb_1_64, jb_2_64, jb_3_64, jb_4_64, jb_5_64, jb_6_64, jb_7_64, jb_8_64, jb_9_64, jb_10_64, jb_11_64, jb_12_64, jb_0_10, jb_1_10, jb_2_10, jb_3_10, jb_4_10, jb_5_10, jb_6_10, jb_7_10, jb_8_10, jb_9_10, jb_0_211, jb_1_211, jb_2_211, jb_3_211, jb_4_211, jb_5_211, jb_6_211, jb_7_211, jb_8_211, jb_9_211, jb_10_211, jb_11_211, jb_12_211, hs2, show ((64 : Int32) ≤ nI i) = False from eq_false (nI_ge (b := 64) hi (by decide)), inb_nI (i := i) (by omega), decide_eq_true (by omega : i < 64), nI_clamp (n := i) (by omega)]
    generalize hH3 : hpa H2 81 ((ar H2 81).set i 0) = H3 at hsa hFa hIa ea hla
    have hw0 : gB R st n nW nG nU m i = 0 → Wp scr (d + 6) 281 2 [some (.ref 68), some (.int (nI m)), some (.int (nI (i + 1)))] [] H3 Q := fun e => hw H3 hFa (by rw [ea, e])
    by_cases hc : i < 2 ^ nG
    · by_cases hz : nI i &&& st.getD 7 0 = 0
      · simp (maxDischargeDepth := 12) only [w281_0, w281_1, w281_3, w281_5, w281_8, w281_9, w281_12, w281_13, w281_14, w281_15, w281_16, w281_17, w281_18, w281_21, w281_22, w281_23, w281_24, w281_27, w281_28, w281_29, w281_32, w281_34, w281_35, w281_36, w281_39, w281_42, w281_43, w281_44, w281_45, w281_46, w281_49, w281_50, w281_53, w281_54, w281_55, w281_58, w281_59, w281_60, w281_61, w281_62, w281_65, w281_68, w281_71, w281_72, w281_73, w281_76, w281_79, w281_80, w281_82, w281_85, w281_88, w281_89, w281_92, w281_93, w281_94, w281_95, w281_98, w281_101, oK_some, cont_int, cont_intS, cont_none, cont_noneS, cont_long, cont_longS, true_and, and_true, false_and, and_false, true_implies, false_implies, not_true_eq_false, not_false_eq_true, eq_self, or_true, true_or, Option.isSome_some, hpf_length, hpa_length, bI_eq0, fi_hpa, fl_hpa, ar_hpf, fi_hpf_ne, fl_hpf_ne, ar_hpa_ne, hpa_hpa, hpf_hpf, nI_1, two_ne, fokZ, implies_true, Nat.reduceEqDiff, g_68_33, ga_81, gn_81, sa_81, ae_81, g_68_15, ga_71, gn_71, sa_71, ae_71, g_68_17, ga_73, gn_73, sa_73, ae_73, rc_68, g_68_24, ga_77, gn_77, sa_77, ae_77, g_68_34, ga_82, gn_82, sa_82, ae_82, kl_0, kl_1, kl_2, kl_3, kl_4, kl_5, kl_6, kl_7, kl_8, kl_9, kl_10, kl_11, kl_12, jb_0_64, jb_1_64, jb_2_64, jb_3_64, jb_4_64, jb_5_64, jb_6_64, jb_7_64, jb_8_64, jb_9_64, jb_10_64, jb_11_64, jb_12_64, jb_0_10, jb_1_10, jb_2_10, jb_3_10, jb_4_10, jb_5_10, jb_6_10, jb_7_10, jb_8_10, jb_9_10, jb_0_211, jb_1_211, jb_2_211, jb_3_211, jb_4_211, jb_5_211, jb_6_211, jb_7_211, jb_8_211, jb_9_211, jb_10_211, jb_11_211, jb_12_211, hsa, hIa.2.1, hIa.2.2.1, hIa.l, hIa.lr, jb_7_10, rgR, c5, p2 (by omega : nG ≤ 10), nI_lef hc (by omega : 2 ^ nG < 2147483648), hz]
        refine m_goOver' hIa hm (fun H4 hF4 a4 => ?_)
        have hFb := hFa.trans (hF4.mono (T := [76, 77, 81, 82]) (G := [(68, 22)]) (by decide) (by decide))
        have hI4 := hI.of hFb (by decide) (by decide) (by decide) (by decide)
        have hs4 := hF4.shp
        have e4 : ar H4 81 = (ar H2 81).set i 0 := by rw [hF4.arr (by decide), ea]
        simp (maxDischargeDepth := 12) only [w281_0, w281_1, w281_3, w281_5, w281_8, w281_9, w281_12, w281_13, w281_14, w281_15, w281_16, w281_17, w281_18, w281_21, w281_22, w281_23, w281_24, w281_27, w281_28, w281_29, w281_32, w281_34, w281_35, w281_36, w281_39, w281_42, w281_43, w281_44, w281_45, w281_46, w281_49, w281_50, w281_53, w281_54, w281_55, w281_58, w281_59, w281_60, w281_61, w281_62, w281_65, w281_68, w281_71, w281_72, w281_73, w281_76, w281_79, w281_80, w281_82, w281_85, w281_88, w281_89, w281_92, w281_93, w281_94, w281_95, w281_98, w281_101, oK_some, cont_int, cont_intS, cont_none, cont_noneS, cont_long, cont_longS, true_and, and_true, false_and, and_false, true_implies, false_implies, not_true_eq_false, not_false_eq_true, eq_self, or_true, true_or, Option.isSome_some, hpf_length, hpa_length, bI_eq0, fi_hpa, fl_hpa, ar_hpf, fi_hpf_ne, fl_hpf_ne, ar_hpa_ne, hpa_hpa, hpf_hpf, nI_1, two_ne, fokZ, implies_true, Nat.reduceEqDiff, g_68_33, ga_81, gn_81, sa_81, ae_81, g_68_15, ga_71, gn_71, sa_71, ae_71, g_68_17, ga_73, gn_73, sa_73, ae_73, rc_68, g_68_24, ga_77, gn_77, sa_77, ae_77, g_68_34, ga_82, gn_82, sa_82, ae_82, kl_0, kl_1, kl_2, kl_3, kl_4, kl_5, kl_6, kl_7, kl_8, kl_9, kl_10, kl_11, kl_12, jb_0_64, jb_1_64, jb_2_64, jb_3_64, jb_4_64, jb_5_64, jb_6_64, jb_7_64, jb_8_64, jb_9_64, jb_10_64, jb_11_64, jb_12_64, jb_0_10, jb_1_10, jb_2_10, jb_3_10, jb_4_10, jb_5_10, jb_6_10, jb_7_10, jb_8_10, jb_9_10, jb_0_211, jb_1_211, jb_2_211, jb_3_211, jb_4_211, jb_5_211, jb_6_211, jb_7_211, jb_8_211, jb_9_211, jb_10_211, jb_11_211, jb_12_211, hF4.len, hs4, hI4.2.1, hI4.lr, rgR, c2, m_dbtT hI4, m_ones, a4, e4, List.length_set, l81, inb_nI (i := i) (by omega), decide_eq_true (by omega : i < 64), nI_clamp (n := i) (by omega), List.set_set]
        refine hw _ (hFb.trans (fg_hpa hs4 (by rw [e4, List.length_set, List.length_set]) (by decide))) ?_
        rw [ae_81 hs4]
        unfold gB
        rw [if_pos ⟨hc, hz⟩]
      · simp (maxDischargeDepth := 12) only [w281_0, w281_1, w281_3, w281_5, w281_8, w281_9, w281_12, w281_13, w281_14, w281_15, w281_16, w281_17, w281_18, w281_21, w281_22, w281_23, w281_24, w281_27, w281_28, w281_29, w281_32, w281_34, w281_35, w281_36, w281_39, w281_42, w281_43, w281_44, w281_45, w281_46, w281_49, w281_50, w281_53, w281_54, w281_55, w281_58, w281_59, w281_60, w281_61, w281_62, w281_65, w281_68, w281_71, w281_72, w281_73, w281_76, w281_79, w281_80, w281_82, w281_85, w281_88, w281_89, w281_92, w281_93, w281_94, w281_95, w281_98, w281_101, oK_some, cont_int, cont_intS, cont_none, cont_noneS, cont_long, cont_longS, true_and, and_true, false_and, and_false, true_implies, false_implies, not_true_eq_false, not_false_eq_true, eq_self, or_true, true_or, Option.isSome_some, hpf_length, hpa_length, bI_eq0, fi_hpa, fl_hpa, ar_hpf, fi_hpf_ne, fl_hpf_ne, ar_hpa_ne, hpa_hpa, hpf_hpf, nI_1, two_ne, fokZ, implies_true, Nat.reduceEqDiff, g_68_33, ga_81, gn_81, sa_81, ae_81, g_68_15, ga_71, gn_71, sa_71, ae_71, g_68_17, ga_73, gn_73, sa_73, ae_73, rc_68, g_68_24, ga_77, gn_77, sa_77, ae_77, g_68_34, ga_82, gn_82, sa_82, ae_82, kl_0, kl_1, kl_2, kl_3, kl_4, kl_5, kl_6, kl_7, kl_8, kl_9, kl_10, kl_11, kl_12, jb_0_64, jb_1_64, jb_2_64, jb_3_64, jb_4_64, jb_5_64, jb_6_64, jb_7_64, jb_8_64, jb_9_64, jb_10_64, jb_11_64, jb_12_64, jb_0_10, jb_1_10, jb_2_10, jb_3_10, jb_4_10, jb_5_10, jb_6_10, jb_7_10, jb_8_10, jb_9_10, jb_0_211, jb_1_211, jb_2_211, jb_3_211, jb_4_211, jb_5_211, jb_6_211, jb_7_211, jb_8_211, jb_9_211, jb_10_211, jb_11_211, jb_12_211, hsa, hIa.2.1, hIa.2.2.1, hIa.l, hIa.lr, jb_7_10, rgR, c5, p2 (by omega : nG ≤ 10), nI_lef hc (by omega : 2 ^ nG < 2147483648), hz]
        exact hw0 (by unfold gB; rw [if_neg (fun q => hz q.2)])
    · have hc' : (nI (2 ^ nG) ≤ nI i) = True := eq_true (by rw [Int32.le_iff_toInt_le, nI_toInt (by omega), nI_toInt (by omega)]; omega)
      simp (maxDischargeDepth := 12) only [w281_0, w281_1, w281_3, w281_5, w281_8, w281_9, w281_12, w281_13, w281_14, w281_15, w281_16, w281_17, w281_18, w281_21, w281_22, w281_23, w281_24, w281_27, w281_28, w281_29, w281_32, w281_34, w281_35, w281_36, w281_39, w281_42, w281_43, w281_44, w281_45, w281_46, w281_49, w281_50, w281_53, w281_54, w281_55, w281_58, w281_59, w281_60, w281_61, w281_62, w281_65, w281_68, w281_71, w281_72, w281_73, w281_76, w281_79, w281_80, w281_82, w281_85, w281_88, w281_89, w281_92, w281_93, w281_94, w281_95, w281_98, w281_101, oK_some, cont_int, cont_intS, cont_none, cont_noneS, cont_long, cont_longS, true_and, and_true, false_and, and_false, true_implies, false_implies, not_true_eq_false, not_false_eq_true, eq_self, or_true, true_or, Option.isSome_some, hpf_length, hpa_length, bI_eq0, fi_hpa, fl_hpa, ar_hpf, fi_hpf_ne, fl_hpf_ne, ar_hpa_ne, hpa_hpa, hpf_hpf, nI_1, two_ne, fokZ, implies_true, Nat.reduceEqDiff, g_68_33, ga_81, gn_81, sa_81, ae_81, g_68_15, ga_71, gn_71, sa_71, ae_71, g_68_17, ga_73, gn_73, sa_73, ae_73, rc_68, g_68_24, ga_77, gn_77, sa_77, ae_77, g_68_34, ga_82, gn_82, sa_82, ae_82, kl_0, kl_1, kl_2, kl_3, kl_4, kl_5, kl_6, kl_7, kl_8, kl_9, kl_10, kl_11, kl_12, jb_0_64, jb_1_64, jb_2_64, jb_3_64, jb_4_64, jb_5_64, jb_6_64, jb_7_64, jb_8_64, jb_9_64, jb_10_64, jb_11_64, jb_12_64, jb_0_10, jb_1_10, jb_2_10, jb_3_10, jb_4_10, jb_5_10, jb_6_10, jb_7_10, jb_8_10, jb_9_10, jb_0_211, jb_1_211, jb_2_211, jb_3_211, jb_4_211, jb_5_211, jb_6_211, jb_7_211, jb_8_211, jb_9_211, jb_10_211, jb_11_211, jb_12_211, hsa, hIa.2.1, hIa.lr, rgR, c5, p2 (by omega : nG ≤ 10), hc']
      exact hw0 (by unfold gB; rw [if_neg (fun q => hc q.1)])
theorem Mmo_rep {Bs : List Int32} {sh nG : Nat} : Mmo Bs sh nG (List.replicate 16384 (-1)) := by
  intro one other t p h1 h2 h3 h4
  left
  rw [List.getD_eq_getElem?_getD, List.getElem?_replicate, if_pos (by unfold gky; omega)]
  rfl
theorem M_value {m : Int32} (hI : MIv H R st n nS nW nG nU nN) (hsh : st.getD 7 0 = nI sh) (hs : sh < 64) (hQ : MR H Q (if whyF (decide (0 < n)) m 40 = 0 then vV (gBs R st n nW nG nU m.toNatClampNeg) sh nG 14 0 0 0 0 else -1) (whyF (decide (0 < n)) m 40)) : Wp scr (d + 16) 284 0 [some (.ref 68), some (.int m), none] [] H Q := by
  have hS := hI.shp
  have hg := gd_fg hS
  have hI1 := hI.q hg
  have hs1 := hI1.shp
  have hM1 : Mn (ar (gd H) 71) n nS nW nG nU nN := by rw [hI1.2.1]; exact hI1.mn
  have h14 := hI1.2.2.2.2
  have e73 := hI1.2.2.1
  have rgR : ∀ j, R.getD j 0 = rg R j := fun _ => rfl
  have l73 := hI1.l
  obtain ⟨c2, c3, c4, c5, c6, c7, b2, b3, b4, b5, b6, b7⟩ := hI1.mn
  simp (maxDischargeDepth := 12) only [w284_0, w284_1, w284_4, w284_5, w284_6, w284_9, w284_10, w284_12, w284_15, w284_16, w284_17, w284_20, w284_21, w284_22, w284_25, w284_26, w284_27, w284_28, w284_31, w284_32, w284_33, w284_34, w284_35, w284_36, w284_39, oK_some, cont_int, cont_intS, cont_none, cont_noneS, cont_long, cont_longS, true_and, and_true, false_and, and_false, true_implies, false_implies, not_true_eq_false, not_false_eq_true, eq_self, or_true, true_or, Option.isSome_some, hpf_length, hpa_length, bI_eq0, fi_hpa, fl_hpa, ar_hpf, fi_hpf_ne, fl_hpf_ne, ar_hpa_ne, hpa_hpa, hpf_hpf, nI_1, two_ne, fokZ, implies_true, Nat.reduceEqDiff, rc_68, g_68_14, sf_68_14, fe_68_14, hS, m_good, gd_len, hs1, h14, e73, l73, hI1.2.1, rgR, hI1.lr, m_no, decide_eq_false_iff_not, gn_71, jb_7_10, jb_8_10, jb_9_10, m_why]
  by_cases hw : whyF (decide (0 < n)) m 40 = 0
  · simp only [hw, if_true] at hQ
    simp only [hw, oK_some, cont_int, cont_intS, cont_none, cont_noneS, cont_long, cont_longS, true_and, and_true, false_and, and_false, true_implies, false_implies, not_true_eq_false, not_false_eq_true, eq_self, or_true, true_or, Option.isSome_some, hpf_length, hpa_length, bI_eq0, fi_hpa, fl_hpa, ar_hpf, fi_hpf_ne, fl_hpf_ne, ar_hpa_ne, hpa_hpa, hpf_hpf, nI_1, two_ne, fokZ, implies_true, Nat.reduceEqDiff]
    obtain ⟨hk, hm⟩ := whyF_0 hw
    obtain ⟨em, lm⟩ := of_in (n := 40) hm (by omega)
    rw [em]
    refine m_layGame hI1 (by omega) (fun H2 hF2 a2 a3 => ?_)
    have hI2 := hI1.of hF2 (by decide) (by decide) (by decide) (by decide)
    have hs2 := hF2.shp
    have hms : gms nG sh 0 0 0 ≤ 13 := by
      have := fcn_le (nG := nG) (x := sh ||| 0 ||| 0)
      unfold gms
      omega
    simp (maxDischargeDepth := 12) only [w284_0, w284_1, w284_4, w284_5, w284_6, w284_9, w284_10, w284_12, w284_15, w284_16, w284_17, w284_20, w284_21, w284_22, w284_25, w284_26, w284_27, w284_28, w284_31, w284_32, w284_33, w284_34, w284_35, w284_36, w284_39, oK_some, cont_int, cont_intS, cont_none, cont_noneS, cont_long, cont_longS, true_and, and_true, false_and, and_false, true_implies, false_implies, not_true_eq_false, not_false_eq_true, eq_self, or_true, true_or, Option.isSome_some, hpf_length, hpa_length, bI_eq0, fi_hpa, fl_hpa, ar_hpf, fi_hpf_ne, fl_hpf_ne, ar_hpa_ne, hpa_hpa, hpf_hpf, nI_1, two_ne, fokZ, implies_true, Nat.reduceEqDiff, rc_68, g_68_14, sf_68_14, fe_68_14, hF2.len, hs2]
    refine m_valueOf (d := d) (by omega) hsh hs gBs_len 13 0 0 0 0 (by decide) (by decide) (by decide) (by decide) hms (by decide) H2 hI2 a2 (by rw [a3]; exact Mmo_rep) _ (fun H3 hF3 _ => ?_)
    simp (maxDischargeDepth := 12) only [w284_0, w284_1, w284_4, w284_5, w284_6, w284_9, w284_10, w284_12, w284_15, w284_16, w284_17, w284_20, w284_21, w284_22, w284_25, w284_26, w284_27, w284_28, w284_31, w284_32, w284_33, w284_34, w284_35, w284_36, w284_39, oK_some, cont_int, cont_intS, cont_none, cont_noneS, cont_long, cont_longS, true_and, and_true, false_and, and_false, true_implies, false_implies, not_true_eq_false, not_false_eq_true, eq_self, or_true, true_or, Option.isSome_some, hpf_length, hpa_length, bI_eq0, fi_hpa, fl_hpa, ar_hpf, fi_hpf_ne, fl_hpf_ne, ar_hpa_ne, hpa_hpa, hpf_hpf, nI_1, two_ne, fokZ, implies_true, Nat.reduceEqDiff, rc_68, g_68_14, sf_68_14, fe_68_14, hF3.len]
    have hF4 := hF2.trans (hF3.mono (T := [76, 77, 81, 82]) (G := [(68, 22)]) (by decide) (by decide))
    exact mr_ok hS hF4 (by decide) (by decide) (by decide) (by decide) (by decide) hQ
  · simp only [hw, if_false] at hQ
    simp only [hw, oK_some, cont_int, cont_intS, cont_none, cont_noneS, cont_long, cont_longS, true_and, and_true, false_and, and_false, true_implies, false_implies, not_true_eq_false, not_false_eq_true, eq_self, or_true, true_or, Option.isSome_some, hpf_length, hpa_length, bI_eq0, fi_hpa, fl_hpa, ar_hpf, fi_hpf_ne, fl_hpf_ne, ar_hpa_ne, hpa_hpa, hpf_hpf, nI_1, two_ne, fokZ, implies_true, Nat.reduceEqDiff]
    exact mr_no hS hg (gd_0 hS) hQ
def tkC (Bs : List Int32) (sh nG : Nat) (g : Nat) : Int32 := if sh.testBit g = true then -1 else vV Bs sh nG 14 (2 ^ g) 0 1 0
theorem M_take {m : Int32} (hI : MIv H R st n nS nW nG nU nN) (hsh : st.getD 7 0 = nI sh) (hs : sh < 64) (hQ : MR H Q (if whyF (decide (0 < n)) m 40 = 0 then (if fcn nG sh = 0 then -2 else (forN (wrF (tkC (gBs R st n nW nG nU m.toNatClampNeg) sh nG)) nG (-2, vV (gBs R st n nW nG nU m.toNatClampNeg) sh nG 14 0 0 1 1)).1) else -1) (whyF (decide (0 < n)) m 40)) : Wp scr (d + 16) 285 0 [some (.ref 68), some (.int m), none, none, none, none, none, none] [] H Q := by
  have hS := hI.shp
  have hg := gd_fg hS
  have hI1 := hI.q hg
  have hs1 := hI1.shp
  have hM1 : Mn (ar (gd H) 71) n nS nW nG nU nN := by rw [hI1.2.1]; exact hI1.mn
  have h14 := hI1.2.2.2.2
  have e73 := hI1.2.2.1
  have rgR : ∀ j, R.getD j 0 = rg R j := fun _ => rfl
  have l73 := hI1.l
  obtain ⟨c2, c3, c4, c5, c6, c7, b2, b3, b4, b5, b6, b7⟩ := hI1.mn
  simp (maxDischargeDepth := 12) only [w285_0, w285_1, w285_4, w285_5, w285_6, w285_9, w285_10, w285_12, w285_15, w285_16, w285_17, w285_20, w285_21, w285_22, w285_25, w285_26, w285_27, w285_28, w285_31, w285_32, w285_33, w285_34, w285_37, w285_38, w285_39, w285_42, w285_44, w285_45, w285_47, w285_49, w285_50, w285_51, w285_52, w285_53, w285_54, w285_57, w285_59, w285_60, w285_64, w285_65, w285_68, w285_69, w285_70, w285_73, w285_74, w285_76, w285_79, w285_82, w285_83, w285_84, w285_86, w285_87, w285_88, w285_89, w285_90, w285_93, w285_96, w285_97, w285_99, w285_101, w285_103, w285_106, w285_109, w285_111, w285_113, w285_115, w285_117, w285_120, w285_123, w285_125, oK_some, cont_int, cont_intS, cont_none, cont_noneS, cont_long, cont_longS, true_and, and_true, false_and, and_false, true_implies, false_implies, not_true_eq_false, not_false_eq_true, eq_self, or_true, true_or, Option.isSome_some, hpf_length, hpa_length, bI_eq0, fi_hpa, fl_hpa, ar_hpf, fi_hpf_ne, fl_hpf_ne, ar_hpa_ne, hpa_hpa, hpf_hpf, nI_1, two_ne, fokZ, implies_true, Nat.reduceEqDiff, rc_68, g_68_14, sf_68_14, fe_68_14, g_68_15, ga_71, gn_71, sa_71, ae_71, kl_0, kl_1, kl_2, kl_3, kl_4, kl_5, kl_6, kl_7, kl_8, kl_9, kl_10, kl_11, kl_12, jb_0_211, jb_1_211, jb_2_211, jb_3_211, jb_4_211, jb_5_211, jb_6_211, jb_7_211, jb_8_211, jb_9_211, jb_10_211, jb_11_211, jb_12_211, hS, m_good, gd_len, hs1, h14, e73, l73, hI1.2.1, rgR, hI1.lr, m_no, decide_eq_false_iff_not, gn_71, jb_7_10, jb_8_10, jb_9_10, m_why]
  by_cases hw : whyF (decide (0 < n)) m 40 = 0
  · simp only [hw, if_true] at hQ
    simp only [hw, oK_some, cont_int, cont_intS, cont_none, cont_noneS, cont_long, cont_longS, true_and, and_true, false_and, and_false, true_implies, false_implies, not_true_eq_false, not_false_eq_true, eq_self, or_true, true_or, Option.isSome_some, hpf_length, hpa_length, bI_eq0, fi_hpa, fl_hpa, ar_hpf, fi_hpf_ne, fl_hpf_ne, ar_hpa_ne, hpa_hpa, hpf_hpf, nI_1, two_ne, fokZ, implies_true, Nat.reduceEqDiff]
    obtain ⟨hk, hm⟩ := whyF_0 hw
    obtain ⟨em, lm⟩ := of_in (n := 40) hm (by omega)
    generalize m.toNatClampNeg = mm at em lm hQ
    subst em
    refine m_layGame hI1 (by omega) (fun H2 hF2 a2 a3 => ?_)
    have hI2 := hI1.of hF2 (by decide) (by decide) (by decide) (by decide)
    have hs2 := hF2.shp
    generalize hBs : gBs R st n nW nG nU mm = Bs at hQ a2
    have lB : Bs.length = 64 := by rw [← hBs]; exact gBs_len
    have hx : sh ||| 0 ||| 0 = sh := by rw [Nat.or_zero, Nat.or_zero]
    have fz := fr_zero nG (List.mem_range.mpr (by omega)) sh (List.mem_range.mpr hs)
    have F0 : ∀ Q', Wp scr (d + 15) 282 0 [some (.ref 68), some (.int 0), some (.int 0)] [] H2 Q' ↔ Q' (some (.int (frI nG (nI sh)))) H2 := fun Q' => by
      have F1 := m_freeSigns (scr := scr) (d := d + 15) (one := 0) (other := 0) (Q := Q') hI2 hsh hs (by decide) (by decide)
      rw [hx] at F1
      exact F1
    have gle : ∀ one other p, gms nG sh one other p ≤ 13 := fun one other p => by
      have := fcn_le (nG := nG) (x := sh ||| one ||| other)
      unfold gms
      omega
    simp (maxDischargeDepth := 12) only [w285_0, w285_1, w285_4, w285_5, w285_6, w285_9, w285_10, w285_12, w285_15, w285_16, w285_17, w285_20, w285_21, w285_22, w285_25, w285_26, w285_27, w285_28, w285_31, w285_32, w285_33, w285_34, w285_37, w285_38, w285_39, w285_42, w285_44, w285_45, w285_47, w285_49, w285_50, w285_51, w285_52, w285_53, w285_54, w285_57, w285_59, w285_60, w285_64, w285_65, w285_68, w285_69, w285_70, w285_73, w285_74, w285_76, w285_79, w285_82, w285_83, w285_84, w285_86, w285_87, w285_88, w285_89, w285_90, w285_93, w285_96, w285_97, w285_99, w285_101, w285_103, w285_106, w285_109, w285_111, w285_113, w285_115, w285_117, w285_120, w285_123, w285_125, oK_some, cont_int, cont_intS, cont_none, cont_noneS, cont_long, cont_longS, true_and, and_true, false_and, and_false, true_implies, false_implies, not_true_eq_false, not_false_eq_true, eq_self, or_true, true_or, Option.isSome_some, hpf_length, hpa_length, bI_eq0, fi_hpa, fl_hpa, ar_hpf, fi_hpf_ne, fl_hpf_ne, ar_hpa_ne, hpa_hpa, hpf_hpf, nI_1, two_ne, fokZ, implies_true, Nat.reduceEqDiff, rc_68, g_68_14, sf_68_14, fe_68_14, g_68_15, ga_71, gn_71, sa_71, ae_71, kl_0, kl_1, kl_2, kl_3, kl_4, kl_5, kl_6, kl_7, kl_8, kl_9, kl_10, kl_11, kl_12, jb_0_211, jb_1_211, jb_2_211, jb_3_211, jb_4_211, jb_5_211, jb_6_211, jb_7_211, jb_8_211, jb_9_211, jb_10_211, jb_11_211, jb_12_211, hF2.len, hs2, F0]
    by_cases hz : fcn nG sh = 0
    · have ez : frI nG (nI sh) = 0 := by
        rw [decide_eq_true hz] at fz
        exact of_decide_eq_true fz
      rw [if_pos hz] at hQ
      simp only [ez, oK_some, cont_int, cont_intS, cont_none, cont_noneS, cont_long, cont_longS, true_and, and_true, false_and, and_false, true_implies, false_implies, not_true_eq_false, not_false_eq_true, eq_self, or_true, true_or, Option.isSome_some, hpf_length, hpa_length, bI_eq0, fi_hpa, fl_hpa, ar_hpf, fi_hpf_ne, fl_hpf_ne, ar_hpa_ne, hpa_hpa, hpf_hpf, nI_1, two_ne, fokZ, implies_true, Nat.reduceEqDiff]
      exact mr_ok hS hF2 (by decide) (by decide) (by decide) (by decide) (by decide) hQ
    · have ez : ¬ frI nG (nI sh) = 0 := by
        rw [decide_eq_false hz] at fz
        exact of_decide_eq_false fz
      rw [if_neg hz] at hQ
      simp only [ez, oK_some, cont_int, cont_intS, cont_none, cont_noneS, cont_long, cont_longS, true_and, and_true, false_and, and_false, true_implies, false_implies, not_true_eq_false, not_false_eq_true, eq_self, or_true, true_or, Option.isSome_some, hpf_length, hpa_length, bI_eq0, fi_hpa, fl_hpa, ar_hpf, fi_hpf_ne, fl_hpf_ne, ar_hpa_ne, hpa_hpa, hpf_hpf, nI_1, two_ne, fokZ, implies_true, Nat.reduceEqDiff]
      refine m_valueOf (d := d) (by omega) hsh hs lB 13 0 0 1 1 (by decide) (by decide) (by decide) (by decide) (gle _ _ _) (by decide) H2 hI2 a2 (by rw [a3]; exact Mmo_rep) _ (fun H3 hF3 hV3 => ?_)
      simp (maxDischargeDepth := 12) only [w285_0, w285_1, w285_4, w285_5, w285_6, w285_9, w285_10, w285_12, w285_15, w285_16, w285_17, w285_20, w285_21, w285_22, w285_25, w285_26, w285_27, w285_28, w285_31, w285_32, w285_33, w285_34, w285_37, w285_38, w285_39, w285_42, w285_44, w285_45, w285_47, w285_49, w285_50, w285_51, w285_52, w285_53, w285_54, w285_57, w285_59, w285_60, w285_64, w285_65, w285_68, w285_69, w285_70, w285_73, w285_74, w285_76, w285_79, w285_82, w285_83, w285_84, w285_86, w285_87, w285_88, w285_89, w285_90, w285_93, w285_96, w285_97, w285_99, w285_101, w285_103, w285_106, w285_109, w285_111, w285_113, w285_115, w285_117, w285_120, w285_123, w285_125, oK_some, cont_int, cont_intS, cont_none, cont_noneS, cont_long, cont_longS, true_and, and_true, false_and, and_false, true_implies, false_implies, not_true_eq_false, not_false_eq_true, eq_self, or_true, true_or, Option.isSome_some, hpf_length, hpa_length, bI_eq0, fi_hpa, fl_hpa, ar_hpf, fi_hpf_ne, fl_hpf_ne, ar_hpa_ne, hpa_hpa, hpf_hpf, nI_1, two_ne, fokZ, implies_true, Nat.reduceEqDiff, rc_68, g_68_14, sf_68_14, fe_68_14, g_68_15, ga_71, gn_71, sa_71, ae_71, kl_0, kl_1, kl_2, kl_3, kl_4, kl_5, kl_6, kl_7, kl_8, kl_9, kl_10, kl_11, kl_12, jb_0_211, jb_1_211, jb_2_211, jb_3_211, jb_4_211, jb_5_211, jb_6_211, jb_7_211, jb_8_211, jb_9_211, jb_10_211, jb_11_211, jb_12_211, hF3.len]
      have hF4 := hF2.trans (hF3.mono (T := [76, 77, 81, 82]) (G := [(68, 22)]) (by decide) (by decide))
      generalize vV Bs sh nG 14 0 0 1 1 = v0 at hQ ⊢
      have key := down (P := fun i => ∀ H5, ∀ o7 : Option Value, Fg [76, 77, 81, 82] [(68, 22)] (gd H) H5 → ar H5 81 = Bs → Mmo Bs sh nG (ar H5 82) → Wp scr (d + 16) 285 62 [some (.ref 68), some (.int (nI mm)), some (.int 0), some (.int (frI nG (nI sh))), some (.int (forN (wrF (tkC Bs sh nG)) i (-2, v0)).1), some (.int (forN (wrF (tkC Bs sh nG)) i (-2, v0)).2), some (.int (nI i)), o7] [] H5 Q) nG ?_ ?_
      · exact key H3 none hF4 (by rw [hF3.arr (by decide), a2]) hV3
      · intro H5 o7 hF5 _ _
        have hI5 := hI1.of hF5 (by decide) (by decide) (by decide) (by decide)
        have hs5 := hF5.shp
        rw [w285_62]
        simp (maxDischargeDepth := 12) only [w285_0, w285_1, w285_4, w285_5, w285_6, w285_9, w285_10, w285_12, w285_15, w285_16, w285_17, w285_20, w285_21, w285_22, w285_25, w285_26, w285_27, w285_28, w285_31, w285_32, w285_33, w285_34, w285_37, w285_38, w285_39, w285_42, w285_44, w285_45, w285_47, w285_49, w285_50, w285_51, w285_52, w285_53, w285_54, w285_57, w285_59, w285_60, w285_64, w285_65, w285_68, w285_69, w285_70, w285_73, w285_74, w285_76, w285_79, w285_82, w285_83, w285_84, w285_86, w285_87, w285_88, w285_89, w285_90, w285_93, w285_96, w285_97, w285_99, w285_101, w285_103, w285_106, w285_109, w285_111, w285_113, w285_115, w285_117, w285_120, w285_123, w285_125, oK_some, cont_int, cont_intS, cont_none, cont_noneS, cont_long, cont_longS, true_and, and_true, false_and, and_false, true_implies, false_implies, not_true_eq_false, not_false_eq_true, eq_self, or_true, true_or, Option.isSome_some, hpf_length, hpa_length, bI_eq0, fi_hpa, fl_hpa, ar_hpf, fi_hpf_ne, fl_hpf_ne, ar_hpa_ne, hpa_hpa, hpf_hpf, nI_1, two_ne, fokZ, implies_true, Nat.reduceEqDiff, rc_68, g_68_14, sf_68_14, fe_68_14, g_68_15, ga_71, gn_71, sa_71, ae_71, kl_0, kl_1, kl_2, kl_3, kl_4, kl_5, kl_6, kl_7, kl_8, kl_9, kl_10, kl_11, kl_12, jb_0_211, jb_1_211, jb_2_211, jb_3_211, jb_4_211, jb_5_211, jb_6_211, jb_7_211, jb_8_211, jb_9_211, jb_10_211, jb_11_211, jb_12_211, hs5, hI5.2.1, hI5.lr, rgR, c5, nI_les]
        exact mr_ok hS hF5 (by decide) (by decide) (by decide) (by decide) (by decide) hQ
      · intro i hi hw2 H5 o7 hF5 a5 hV5
        have hI5 := hI1.of hF5 (by decide) (by decide) (by decide) (by decide)
        have hs5 := hF5.shp
        rw [forN_succ] at hw2
        generalize forN (wrF (tkC Bs sh nG)) i (-2, v0) = p at hw2 ⊢
        obtain ⟨p1, p2'⟩ := p
        have fin : ∀ (v : Int32) H6, Fg [76, 77, 81, 82] [(68, 22)] (gd H) H6 → ar H6 81 = Bs → Mmo Bs sh nG (ar H6 82) → tkC Bs sh nG i = v → Wp scr (d + 16) 285 97 [some (.ref 68), some (.int (nI mm)), some (.int 0), some (.int (frI nG (nI sh))), some (.int p1), some (.int p2'), some (.int (nI i)), o7] [.int v] H6 Q := by
          intro v H6 hF6 a6 hV6 ev
          have hw3 := hw2 H6 (some (.int v)) hF6 a6 hV6
          unfold wrF at hw3
          rw [ev] at hw3
          simp (maxDischargeDepth := 12) only [w285_0, w285_1, w285_4, w285_5, w285_6, w285_9, w285_10, w285_12, w285_15, w285_16, w285_17, w285_20, w285_21, w285_22, w285_25, w285_26, w285_27, w285_28, w285_31, w285_32, w285_33, w285_34, w285_37, w285_38, w285_39, w285_42, w285_44, w285_45, w285_47, w285_49, w285_50, w285_51, w285_52, w285_53, w285_54, w285_57, w285_59, w285_60, w285_64, w285_65, w285_68, w285_69, w285_70, w285_73, w285_74, w285_76, w285_79, w285_82, w285_83, w285_84, w285_86, w285_87, w285_88, w285_89, w285_90, w285_93, w285_96, w285_97, w285_99, w285_101, w285_103, w285_106, w285_109, w285_111, w285_113, w285_115, w285_117, w285_120, w285_123, w285_125, oK_some, cont_int, cont_intS, cont_none, cont_noneS, cont_long, cont_longS, true_and, and_true, false_and, and_false, true_implies, false_implies, not_true_eq_false, not_false_eq_true, eq_self, or_true, true_or, Option.isSome_some, hpf_length, hpa_length, bI_eq0, fi_hpa, fl_hpa, ar_hpf, fi_hpf_ne, fl_hpf_ne, ar_hpa_ne, hpa_hpa, hpf_hpf, nI_1, two_ne, fokZ, implies_true, Nat.reduceEqDiff, rc_68, g_68_14, sf_68_14, fe_68_14, g_68_15, ga_71, gn_71, sa_71, ae_71, kl_0, kl_1, kl_2, kl_3, kl_4, kl_5, kl_6, kl_7, kl_8, kl_9, kl_10, kl_11, kl_12, jb_0_211, jb_1_211, jb_2_211, jb_3_211, jb_4_211, jb_5_211, jb_6_211, jb_7_211, jb_8_211, jb_9_211, jb_10_211, jb_11_211, jb_12_211]
          by_cases hc : p2' < v
          · simp only [hc, if_true] at hw3
            simp only [hc, oK_some, cont_int, cont_intS, cont_none, cont_noneS, cont_long, cont_longS, true_and, and_true, false_and, and_false, true_implies, false_implies, not_true_eq_false, not_false_eq_true, eq_self, or_true, true_or, Option.isSome_some, hpf_length, hpa_length, bI_eq0, fi_hpa, fl_hpa, ar_hpf, fi_hpf_ne, fl_hpf_ne, ar_hpa_ne, hpa_hpa, hpf_hpf, nI_1, two_ne, fokZ, implies_true, Nat.reduceEqDiff]
            exact hw3
          · simp only [hc, if_false] at hw3
            simp only [hc, oK_some, cont_int, cont_intS, cont_none, cont_noneS, cont_long, cont_longS, true_and, and_true, false_and, and_false, true_implies, false_implies, not_true_eq_false, not_false_eq_true, eq_self, or_true, true_or, Option.isSome_some, hpf_length, hpa_length, bI_eq0, fi_hpa, fl_hpa, ar_hpf, fi_hpf_ne, fl_hpf_ne, ar_hpa_ne, hpa_hpa, hpf_hpf, nI_1, two_ne, fokZ, implies_true, Nat.reduceEqDiff]
            exact hw3
        have fb := fr_bit nG (List.mem_range.mpr (by omega)) sh (List.mem_range.mpr hs) i (List.mem_range.mpr hi)
        rw [w285_62]
        simp (maxDischargeDepth := 12) only [w285_0, w285_1, w285_4, w285_5, w285_6, w285_9, w285_10, w285_12, w285_15, w285_16, w285_17, w285_20, w285_21, w285_22, w285_25, w285_26, w285_27, w285_28, w285_31, w285_32, w285_33, w285_34, w285_37, w285_38, w285_39, w285_42, w285_44, w285_45, w285_47, w285_49, w285_50, w285_51, w285_52, w285_53, w285_54, w285_57, w285_59, w285_60, w285_64, w285_65, w285_68, w285_69, w285_70, w285_73, w285_74, w285_76, w285_79, w285_82, w285_83, w285_84, w285_86, w285_87, w285_88, w285_89, w285_90, w285_93, w285_96, w285_99, w285_101, w285_103, w285_106, w285_109, w285_111, w285_113, w285_115, w285_117, w285_120, w285_123, w285_125, oK_some, cont_int, cont_intS, cont_none, cont_noneS, cont_long, cont_longS, true_and, and_true, false_and, and_false, true_implies, false_implies, not_true_eq_false, not_false_eq_true, eq_self, or_true, true_or, Option.isSome_some, hpf_length, hpa_length, bI_eq0, fi_hpa, fl_hpa, ar_hpf, fi_hpf_ne, fl_hpf_ne, ar_hpa_ne, hpa_hpa, hpf_hpf, nI_1, two_ne, fokZ, implies_true, Nat.reduceEqDiff, rc_68, g_68_14, sf_68_14, fe_68_14, g_68_15, ga_71, gn_71, sa_71, ae_71, kl_0, kl_1, kl_2, kl_3, kl_4, kl_5, kl_6, kl_7, kl_8, kl_9, kl_10, kl_11, kl_12, jb_0_211, jb_1_211, jb_2_211, jb_3_211, jb_4_211, jb_5_211, jb_6_211, jb_7_211, jb_8_211, jb_9_211, jb_10_211, jb_11_211, jb_12_211, hs5, hI5.2.1, hI5.lr, rgR, c5, nI_lef hi (by omega : nG < 2147483648), m_hasBit, fb, p2 (by omega : i ≤ 10)]
        cases hbt : sh.testBit i
        · simp only [Bool.not_false, Bool.true_eq_false, oK_some, cont_int, cont_intS, cont_none, cont_noneS, cont_long, cont_longS, true_and, and_true, false_and, and_false, true_implies, false_implies, not_true_eq_false, not_false_eq_true, eq_self, or_true, true_or, Option.isSome_some, hpf_length, hpa_length, bI_eq0, fi_hpa, fl_hpa, ar_hpf, fi_hpf_ne, fl_hpf_ne, ar_hpa_ne, hpa_hpa, hpf_hpf, nI_1, two_ne, fokZ, implies_true, Nat.reduceEqDiff]
          refine m_valueOf (d := d) (by omega) hsh hs lB 13 (2 ^ i) 0 1 0 (pow64 (by omega)) (by decide) (by decide) (by decide) (gle _ _ _) (by decide) H5 hI5 a5 hV5 _ (fun H6 hF6 hV6 => ?_)
          simp (maxDischargeDepth := 12) only [w285_0, w285_1, w285_4, w285_5, w285_6, w285_9, w285_10, w285_12, w285_15, w285_16, w285_17, w285_20, w285_21, w285_22, w285_25, w285_26, w285_27, w285_28, w285_31, w285_32, w285_33, w285_34, w285_37, w285_38, w285_39, w285_42, w285_44, w285_45, w285_47, w285_49, w285_50, w285_51, w285_52, w285_53, w285_54, w285_57, w285_59, w285_60, w285_64, w285_65, w285_68, w285_69, w285_70, w285_73, w285_74, w285_76, w285_79, w285_82, w285_83, w285_84, w285_86, w285_87, w285_88, w285_89, w285_90, w285_93, w285_96, w285_99, w285_101, w285_103, w285_106, w285_109, w285_111, w285_113, w285_115, w285_117, w285_120, w285_123, w285_125, oK_some, cont_int, cont_intS, cont_none, cont_noneS, cont_long, cont_longS, true_and, and_true, false_and, and_false, true_implies, false_implies, not_true_eq_false, not_false_eq_true, eq_self, or_true, true_or, Option.isSome_some, hpf_length, hpa_length, bI_eq0, fi_hpa, fl_hpa, ar_hpf, fi_hpf_ne, fl_hpf_ne, ar_hpa_ne, hpa_hpa, hpf_hpf, nI_1, two_ne, fokZ, implies_true, Nat.reduceEqDiff, rc_68, g_68_14, sf_68_14, fe_68_14, g_68_15, ga_71, gn_71, sa_71, ae_71, kl_0, kl_1, kl_2, kl_3, kl_4, kl_5, kl_6, kl_7, kl_8, kl_9, kl_10, kl_11, kl_12, jb_0_211, jb_1_211, jb_2_211, jb_3_211, jb_4_211, jb_5_211, jb_6_211, jb_7_211, jb_8_211, jb_9_211, jb_10_211, jb_11_211, jb_12_211, hF6.len]
          refine fin _ H6 (hF5.trans (hF6.mono (by decide) (by decide))) (by rw [hF6.arr (by decide), a5]) hV6 ?_
          unfold tkC
          rw [hbt]
          simp
        · simp only [Bool.not_true, oK_some, cont_int, cont_intS, cont_none, cont_noneS, cont_long, cont_longS, true_and, and_true, false_and, and_false, true_implies, false_implies, not_true_eq_false, not_false_eq_true, eq_self, or_true, true_or, Option.isSome_some, hpf_length, hpa_length, bI_eq0, fi_hpa, fl_hpa, ar_hpf, fi_hpf_ne, fl_hpf_ne, ar_hpa_ne, hpa_hpa, hpf_hpf, nI_1, two_ne, fokZ, implies_true, Nat.reduceEqDiff]
          refine fin _ H5 hF5 a5 hV5 ?_
          unfold tkC
          rw [hbt]
          simp
  · simp only [hw, if_false] at hQ
    simp only [hw, oK_some, cont_int, cont_intS, cont_none, cont_noneS, cont_long, cont_longS, true_and, and_true, false_and, and_false, true_implies, false_implies, not_true_eq_false, not_false_eq_true, eq_self, or_true, true_or, Option.isSome_some, hpf_length, hpa_length, bI_eq0, fi_hpa, fl_hpa, ar_hpf, fi_hpf_ne, fl_hpf_ne, ar_hpa_ne, hpa_hpa, hpf_hpf, nI_1, two_ne, fokZ, implies_true, Nat.reduceEqDiff]
    exact mr_no hS hg (gd_0 hS) hQ
end MODELG
