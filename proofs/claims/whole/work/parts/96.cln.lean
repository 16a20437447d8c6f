/-! ===== reading: the class's lines: slope, sign, rumour ===== -/
section CLN1
variable {scr : List Int32} {d n c2 c3 c4 c5 c6 c7 : Nat} {t : Tk} {xs R : List Int32} {H : List AC} {Q : Option Value → List AC → Prop}
theorem C_readSlope (h : CP H xs n t) (hf : fi H 29 7 = 0) (hD : DH H xs n R c2 c3 c4 c5 c6 c7) (h8 : rg R 8 = 0) (hok : ∀ R' t', pSlope xs n R t = .ok (R', t') → ∀ H', FgD H H' → CP H' xs n t' → fi H' 29 7 = 0 → DHx H' xs n R' → Q none H') (her : ∀ c p, pSlope xs n R t = .error (c, p) → ∀ H', FgD H H' → CE H' c p → Q none H') : Wp scr (d + 7) 39 0 [some (.ref 29), none, none] [] H Q := by
  have s0 := h.shp
  obtain ⟨m2, m3, m4, m5, m6, m7, b2, b3, b4, b5, b6, b7⟩ := hD.mn
  unfold pSlope at hok her
  rw [if_neg (by rw [h8]; decide)] at hok her
  simp only [pAfter_eb, eb_eb] at hok her
  have hA0 : FgR H H := Fg.rfl' s0
  have hD0 := hD
  have hP0 := h
  have f0 := hf
  have hF0 := hA0
  simp (maxDischargeDepth := 12) only [w39_0, w39_1, w39_4, w39_5, w39_7, w39_10, w39_11, w39_12, w39_14, w39_17, w39_18, w39_19, w39_21, w39_24, w39_25, w39_26, w39_28, w39_31, w39_32, w39_33, w39_36, w39_39, w39_40, w39_43, w39_44, w39_47, w39_48, w39_51, w39_52, w39_55, w39_56, w39_57, w39_60, oK_some, cont_int, cont_intS, cont_none, cont_noneS, cont_long, cont_longS, true_and, and_true, false_and, and_false, true_implies, false_implies, not_true_eq_false, not_false_eq_true, eq_self, or_true, true_or, Option.isSome_some, hpf_length, hpa_length, bI_eq0, fi_hpa, fl_hpa, ar_hpf, fi_hpf_ne, fl_hpf_ne, ar_hpa_ne, hpa_hpa, hpf_hpf, nI_1, two_ne, fokZ, implies_true, Nat.reduceEqDiff, rc_29, g_29_7, sf_29_7, fe_29_7, g_29_1, rc_16, g_3_0, sf_3_0, fe_3_0, g_16_0, sf_16_0, fe_16_0, g_3_1, sf_3_1, fe_3_1, g_16_1, sf_16_1, fe_16_1, g_29_6, sf_29_6, fe_29_6, hF0.len, s0]
  refine C_nx (d := d + 5) hP0 f0 (fun H1 hF1 hP1 f1 => ?_)
  have s1 := hF1.shp
  have hA1 := hA0.trans hF1
  have hD1 := hD.of hA1
  simp (maxDischargeDepth := 12) only [w39_0, w39_1, w39_4, w39_5, w39_7, w39_10, w39_11, w39_12, w39_14, w39_17, w39_18, w39_19, w39_21, w39_24, w39_25, w39_26, w39_28, w39_31, w39_32, w39_33, w39_36, w39_39, w39_40, w39_43, w39_44, w39_47, w39_48, w39_51, w39_52, w39_55, w39_56, w39_57, w39_60, oK_some, cont_int, cont_intS, cont_none, cont_noneS, cont_long, cont_longS, true_and, and_true, false_and, and_false, true_implies, false_implies, not_true_eq_false, not_false_eq_true, eq_self, or_true, true_or, Option.isSome_some, hpf_length, hpa_length, bI_eq0, fi_hpa, fl_hpa, ar_hpf, fi_hpf_ne, fl_hpf_ne, ar_hpa_ne, hpa_hpa, hpf_hpf, nI_1, two_ne, fokZ, implies_true, Nat.reduceEqDiff, rc_29, g_29_7, sf_29_7, fe_29_7, g_29_1, rc_16, g_3_0, sf_3_0, fe_3_0, g_16_0, sf_16_0, fe_16_0, g_3_1, sf_3_1, fe_3_1, g_16_1, sf_16_1, fe_16_1, g_29_6, sf_29_6, fe_29_6, hF1.len, s1]
  refine C_takeW (d := d + 1) hP1 f1 (by decide) (fun t2 e2 H2 hF2 hP2 f2 => ?_) (fun c' p e2 H' hF hP hE => ?_)
  · rw [e2, eb_ok] at hok her
    have s2 := hF2.shp
    have hA2 := hA1.trans hF2
    have hD2 := hD.of hA2
    simp (maxDischargeDepth := 12) only [w39_0, w39_1, w39_4, w39_5, w39_7, w39_10, w39_11, w39_12, w39_14, w39_17, w39_18, w39_19, w39_21, w39_24, w39_25, w39_26, w39_28, w39_31, w39_32, w39_33, w39_36, w39_39, w39_40, w39_43, w39_44, w39_47, w39_48, w39_51, w39_52, w39_55, w39_56, w39_57, w39_60, oK_some, cont_int, cont_intS, cont_none, cont_noneS, cont_long, cont_longS, true_and, and_true, false_and, and_false, true_implies, false_implies, not_true_eq_false, not_false_eq_true, eq_self, or_true, true_or, Option.isSome_some, hpf_length, hpa_length, bI_eq0, fi_hpa, fl_hpa, ar_hpf, fi_hpf_ne, fl_hpf_ne, ar_hpa_ne, hpa_hpa, hpf_hpf, nI_1, two_ne, fokZ, implies_true, Nat.reduceEqDiff, rc_29, g_29_7, sf_29_7, fe_29_7, g_29_1, rc_16, g_3_0, sf_3_0, fe_3_0, g_16_0, sf_16_0, fe_16_0, g_3_1, sf_3_1, fe_3_1, g_16_1, sf_16_1, fe_16_1, g_29_6, sf_29_6, fe_29_6, hF2.len, s2]
    refine C_num (d := d + 4) hP2 f2 (fun w1 t3 e3 H3 hF3 hP3 f3 => ?_) (fun c' p e3 v' H' hF hP hE => ?_)
    · rw [e3, eb_ok] at hok her
      have s3 := hF3.shp
      have hA3 := hA2.trans hF3
      have hD3 := hD.of hA3
      simp (maxDischargeDepth := 12) only [w39_0, w39_1, w39_4, w39_5, w39_7, w39_10, w39_11, w39_12, w39_14, w39_17, w39_18, w39_19, w39_21, w39_24, w39_25, w39_26, w39_28, w39_31, w39_32, w39_33, w39_36, w39_39, w39_40, w39_43, w39_44, w39_47, w39_48, w39_51, w39_52, w39_55, w39_56, w39_57, w39_60, oK_some, cont_int, cont_intS, cont_none, cont_noneS, cont_long, cont_longS, true_and, and_true, false_and, and_false, true_implies, false_implies, not_true_eq_false, not_false_eq_true, eq_self, or_true, true_or, Option.isSome_some, hpf_length, hpa_length, bI_eq0, fi_hpa, fl_hpa, ar_hpf, fi_hpf_ne, fl_hpf_ne, ar_hpa_ne, hpa_hpa, hpf_hpf, nI_1, two_ne, fokZ, implies_true, Nat.reduceEqDiff, rc_29, g_29_7, sf_29_7, fe_29_7, g_29_1, rc_16, g_3_0, sf_3_0, fe_3_0, g_16_0, sf_16_0, fe_16_0, g_3_1, sf_3_1, fe_3_1, g_16_1, sf_16_1, fe_16_1, g_29_6, sf_29_6, fe_29_6, hF3.len, s3]
      refine C_takeW (d := d + 1) hP3 f3 (by decide) (fun t4 e4 H4 hF4 hP4 f4 => ?_) (fun c' p e4 H' hF hP hE => ?_)
      · rw [e4, eb_ok] at hok her
        have s4 := hF4.shp
        have hA4 := hA3.trans hF4
        have hD4 := hD.of hA4
        simp (maxDischargeDepth := 12) only [w39_0, w39_1, w39_4, w39_5, w39_7, w39_10, w39_11, w39_12, w39_14, w39_17, w39_18, w39_19, w39_21, w39_24, w39_25, w39_26, w39_28, w39_31, w39_32, w39_33, w39_36, w39_39, w39_40, w39_43, w39_44, w39_47, w39_48, w39_51, w39_52, w39_55, w39_56, w39_57, w39_60, oK_some, cont_int, cont_intS, cont_none, cont_noneS, cont_long, cont_longS, true_and, and_true, false_and, and_false, true_implies, false_implies, not_true_eq_false, not_false_eq_true, eq_self, or_true, true_or, Option.isSome_some, hpf_length, hpa_length, bI_eq0, fi_hpa, fl_hpa, ar_hpf, fi_hpf_ne, fl_hpf_ne, ar_hpa_ne, hpa_hpa, hpf_hpf, nI_1, two_ne, fokZ, implies_true, Nat.reduceEqDiff, rc_29, g_29_7, sf_29_7, fe_29_7, g_29_1, rc_16, g_3_0, sf_3_0, fe_3_0, g_16_0, sf_16_0, fe_16_0, g_3_1, sf_3_1, fe_3_1, g_16_1, sf_16_1, fe_16_1, g_29_6, sf_29_6, fe_29_6, hF4.len, s4]
        refine C_num (d := d + 4) hP4 f4 (fun w2 t5 e5 H5 hF5 hP5 f5 => ?_) (fun c' p e5 v' H' hF hP hE => ?_)
        · rw [e5, eb_ok] at hok her
          have s5 := hF5.shp
          have hA5 := hA4.trans hF5
          have hD5 := hD.of hA5
          obtain ⟨w1', hw1, rfl⟩ := exI (k := 99) (pNum_ok hP2.1.2.2.2.2.2.2.2.1 e3).2.1 (pNum_ok hP2.1.2.2.2.2.2.2.2.1 e3).2.2 (by decide)
          obtain ⟨w2', hw2, rfl⟩ := exI (k := 100) (pNum_ok hP4.1.2.2.2.2.2.2.2.1 e5).2.1 (pNum_ok hP4.1.2.2.2.2.2.2.2.1 e5).2.2 (by decide)
          obtain ⟨hD9, hF9⟩ := DH_slope hD5 hw1 hw2
          have hAA : FgD H _ := hA5.d.trans (hF9.mono (by decide) (by decide))
          simp (maxDischargeDepth := 12) only [w39_0, w39_1, w39_4, w39_5, w39_7, w39_10, w39_11, w39_12, w39_14, w39_17, w39_18, w39_19, w39_21, w39_24, w39_25, w39_26, w39_28, w39_31, w39_32, w39_33, w39_36, w39_39, w39_40, w39_43, w39_44, w39_47, w39_48, w39_51, w39_52, w39_55, w39_56, w39_57, w39_60, oK_some, cont_int, cont_intS, cont_none, cont_noneS, cont_long, cont_longS, true_and, and_true, false_and, and_false, true_implies, false_implies, not_true_eq_false, not_false_eq_true, eq_self, or_true, true_or, Option.isSome_some, hpf_length, hpa_length, bI_eq0, fi_hpa, fl_hpa, ar_hpf, fi_hpf_ne, fl_hpf_ne, ar_hpa_ne, hpa_hpa, hpf_hpf, nI_1, two_ne, fokZ, implies_true, Nat.reduceEqDiff, rc_29, g_29_7, sf_29_7, fe_29_7, g_29_1, rc_16, g_3_0, sf_3_0, fe_3_0, g_16_0, sf_16_0, fe_16_0, g_3_1, sf_3_1, fe_3_1, g_16_1, sf_16_1, fe_16_1, g_29_6, sf_29_6, fe_29_6, hF5.len, s5, f5]
          exact hok _ _ rfl _ hAA (hP5.og hF9 (by decide) (by decide)) ((hF9.int (by decide) (by decide)).trans f5) ⟨_, _, _, _, _, _, hD9⟩
        · rw [e5, eb_er] at her
          have hA := hA4.trans hF
          have s := hF.shp
          have x := hE.ne
          have hN := (hD.of hA).nmp
          have hDx := hD.of hA
          have q := her _ _ rfl H' hA.d hE
          have y3 : gfl H' 19 9 2 = some (.int (nI c3)) := by rw [g_19_2 s, hDx.2.2.1.2.1]
          have y4 : gfl H' 21 9 2 = some (.int (nI c4)) := by rw [g_21_2 s, hDx.2.2.1.2.2.1]
          have y7 : gfl H' 27 9 2 = some (.int (nI c7)) := by rw [g_27_2 s, hDx.2.2.1.2.2.2.2.2]
          have l3 : (ar H' 20).length < 2147483648 := by rw [gn_20 s]; decide
          have l4 : (ar H' 22).length < 2147483648 := by rw [gn_22 s]; decide
          have l7 : (ar H' 28).length < 2147483648 := by rw [gn_28 s]; decide
          simp (maxDischargeDepth := 12) only [w39_0, w39_1, w39_4, w39_5, w39_7, w39_10, w39_11, w39_12, w39_14, w39_17, w39_18, w39_19, w39_21, w39_24, w39_25, w39_26, w39_28, w39_31, w39_32, w39_33, w39_36, w39_39, w39_40, w39_43, w39_44, w39_47, w39_48, w39_51, w39_52, w39_55, w39_56, w39_57, w39_60, oK_some, cont_int, cont_intS, cont_none, cont_noneS, cont_long, cont_longS, true_and, and_true, false_and, and_false, true_implies, false_implies, not_true_eq_false, not_false_eq_true, eq_self, or_true, true_or, Option.isSome_some, hpf_length, hpa_length, bI_eq0, fi_hpa, fl_hpa, ar_hpf, fi_hpf_ne, fl_hpf_ne, ar_hpa_ne, hpa_hpa, hpf_hpf, nI_1, two_ne, fokZ, implies_true, Nat.reduceEqDiff, rc_29, g_29_7, sf_29_7, fe_29_7, g_29_1, rc_16, g_3_0, sf_3_0, fe_3_0, g_16_0, sf_16_0, fe_16_0, g_3_1, sf_3_1, fe_3_1, g_16_1, sf_16_1, fe_16_1, g_29_6, sf_29_6, fe_29_6, hF.len, s, x, c_takeF (d := d + 1) hP (show 8 < 19 by decide) x, c_takeF (d := d + 1) hP (show 9 < 19 by decide) x, c_numF (d := d + 4) hP x, c_whF (d := d + 5) hP x, c_advF (d := d + 5) s x, c_failF s x, c_rowHF (d := d) hP x hN, c_lineHere (d := d + 1) hP, c_named (d := d + 4) hP hN, c_kindHere (d := d + 1) hP, c_sightOf (d := d + 5) (g_16_3 s) (g_19_1 s) y3 (ga_20 s) l3 (by omega : c3 < 100000), c_wallOn (d := d + 5) (g_16_4 s) (g_21_1 s) y4 (ga_22 s) l4 (by omega : c4 < 100000), c_isSaid (d := d + 5) (g_16_7 s) (g_27_1 s) y7 (ga_28 s) l7 (by omega : c7 < 100000), q]
      · rw [e4, eb_er] at her
        have hA := hA3.trans hF
        have s := hF.shp
        have x := hE.ne
        have hN := (hD.of hA).nmp
        have hDx := hD.of hA
        have q := her _ _ rfl H' hA.d hE
        have y3 : gfl H' 19 9 2 = some (.int (nI c3)) := by rw [g_19_2 s, hDx.2.2.1.2.1]
        have y4 : gfl H' 21 9 2 = some (.int (nI c4)) := by rw [g_21_2 s, hDx.2.2.1.2.2.1]
        have y7 : gfl H' 27 9 2 = some (.int (nI c7)) := by rw [g_27_2 s, hDx.2.2.1.2.2.2.2.2]
        have l3 : (ar H' 20).length < 2147483648 := by rw [gn_20 s]; decide
        have l4 : (ar H' 22).length < 2147483648 := by rw [gn_22 s]; decide
        have l7 : (ar H' 28).length < 2147483648 := by rw [gn_28 s]; decide
        simp (maxDischargeDepth := 12) only [w39_0, w39_1, w39_4, w39_5, w39_7, w39_10, w39_11, w39_12, w39_14, w39_17, w39_18, w39_19, w39_21, w39_24, w39_25, w39_26, w39_28, w39_31, w39_32, w39_33, w39_36, w39_39, w39_40, w39_43, w39_44, w39_47, w39_48, w39_51, w39_52, w39_55, w39_56, w39_57, w39_60, oK_some, cont_int, cont_intS, cont_none, cont_noneS, cont_long, cont_longS, true_and, and_true, false_and, and_false, true_implies, false_implies, not_true_eq_false, not_false_eq_true, eq_self, or_true, true_or, Option.isSome_some, hpf_length, hpa_length, bI_eq0, fi_hpa, fl_hpa, ar_hpf, fi_hpf_ne, fl_hpf_ne, ar_hpa_ne, hpa_hpa, hpf_hpf, nI_1, two_ne, fokZ, implies_true, Nat.reduceEqDiff, rc_29, g_29_7, sf_29_7, fe_29_7, g_29_1, rc_16, g_3_0, sf_3_0, fe_3_0, g_16_0, sf_16_0, fe_16_0, g_3_1, sf_3_1, fe_3_1, g_16_1, sf_16_1, fe_16_1, g_29_6, sf_29_6, fe_29_6, hF.len, s, x, c_takeF (d := d + 1) hP (show 8 < 19 by decide) x, c_takeF (d := d + 1) hP (show 9 < 19 by decide) x, c_numF (d := d + 4) hP x, c_whF (d := d + 5) hP x, c_advF (d := d + 5) s x, c_failF s x, c_rowHF (d := d) hP x hN, c_lineHere (d := d + 1) hP, c_named (d := d + 4) hP hN, c_kindHere (d := d + 1) hP, c_sightOf (d := d + 5) (g_16_3 s) (g_19_1 s) y3 (ga_20 s) l3 (by omega : c3 < 100000), c_wallOn (d := d + 5) (g_16_4 s) (g_21_1 s) y4 (ga_22 s) l4 (by omega : c4 < 100000), c_isSaid (d := d + 5) (g_16_7 s) (g_27_1 s) y7 (ga_28 s) l7 (by omega : c7 < 100000), q]
    · rw [e3, eb_er] at her
      have hA := hA2.trans hF
      have s := hF.shp
      have x := hE.ne
      have hN := (hD.of hA).nmp
      have hDx := hD.of hA
      have q := her _ _ rfl H' hA.d hE
      have y3 : gfl H' 19 9 2 = some (.int (nI c3)) := by rw [g_19_2 s, hDx.2.2.1.2.1]
      have y4 : gfl H' 21 9 2 = some (.int (nI c4)) := by rw [g_21_2 s, hDx.2.2.1.2.2.1]
      have y7 : gfl H' 27 9 2 = some (.int (nI c7)) := by rw [g_27_2 s, hDx.2.2.1.2.2.2.2.2]
      have l3 : (ar H' 20).length < 2147483648 := by rw [gn_20 s]; decide
      have l4 : (ar H' 22).length < 2147483648 := by rw [gn_22 s]; decide
      have l7 : (ar H' 28).length < 2147483648 := by rw [gn_28 s]; decide
      simp (maxDischargeDepth := 12) only [w39_0, w39_1, w39_4, w39_5, w39_7, w39_10, w39_11, w39_12, w39_14, w39_17, w39_18, w39_19, w39_21, w39_24, w39_25, w39_26, w39_28, w39_31, w39_32, w39_33, w39_36, w39_39, w39_40, w39_43, w39_44, w39_47, w39_48, w39_51, w39_52, w39_55, w39_56, w39_57, w39_60, oK_some, cont_int, cont_intS, cont_none, cont_noneS, cont_long, cont_longS, true_and, and_true, false_and, and_false, true_implies, false_implies, not_true_eq_false, not_false_eq_true, eq_self, or_true, true_or, Option.isSome_some, hpf_length, hpa_length, bI_eq0, fi_hpa, fl_hpa, ar_hpf, fi_hpf_ne, fl_hpf_ne, ar_hpa_ne, hpa_hpa, hpf_hpf, nI_1, two_ne, fokZ, implies_true, Nat.reduceEqDiff, rc_29, g_29_7, sf_29_7, fe_29_7, g_29_1, rc_16, g_3_0, sf_3_0, fe_3_0, g_16_0, sf_16_0, fe_16_0, g_3_1, sf_3_1, fe_3_1, g_16_1, sf_16_1, fe_16_1, g_29_6, sf_29_6, fe_29_6, hF.len, s, x, c_takeF (d := d + 1) hP (show 8 < 19 by decide) x, c_takeF (d := d + 1) hP (show 9 < 19 by decide) x, c_numF (d := d + 4) hP x, c_whF (d := d + 5) hP x, c_advF (d := d + 5) s x, c_failF s x, c_rowHF (d := d) hP x hN, c_lineHere (d := d + 1) hP, c_named (d := d + 4) hP hN, c_kindHere (d := d + 1) hP, c_sightOf (d := d + 5) (g_16_3 s) (g_19_1 s) y3 (ga_20 s) l3 (by omega : c3 < 100000), c_wallOn (d := d + 5) (g_16_4 s) (g_21_1 s) y4 (ga_22 s) l4 (by omega : c4 < 100000), c_isSaid (d := d + 5) (g_16_7 s) (g_27_1 s) y7 (ga_28 s) l7 (by omega : c7 < 100000), q]
  · rw [e2, eb_er] at her
    have hA := hA1.trans hF
    have s := hF.shp
    have x := hE.ne
    have hN := (hD.of hA).nmp
    have hDx := hD.of hA
    have q := her _ _ rfl H' hA.d hE
    have y3 : gfl H' 19 9 2 = some (.int (nI c3)) := by rw [g_19_2 s, hDx.2.2.1.2.1]
    have y4 : gfl H' 21 9 2 = some (.int (nI c4)) := by rw [g_21_2 s, hDx.2.2.1.2.2.1]
    have y7 : gfl H' 27 9 2 = some (.int (nI c7)) := by rw [g_27_2 s, hDx.2.2.1.2.2.2.2.2]
    have l3 : (ar H' 20).length < 2147483648 := by rw [gn_20 s]; decide
    have l4 : (ar H' 22).length < 2147483648 := by rw [gn_22 s]; decide
    have l7 : (ar H' 28).length < 2147483648 := by rw [gn_28 s]; decide
    simp (maxDischargeDepth := 12) only [w39_0, w39_1, w39_4, w39_5, w39_7, w39_10, w39_11, w39_12, w39_14, w39_17, w39_18, w39_19, w39_21, w39_24, w39_25, w39_26, w39_28, w39_31, w39_32, w39_33, w39_36, w39_39, w39_40, w39_43, w39_44, w39_47, w39_48, w39_51, w39_52, w39_55, w39_56, w39_57, w39_60, oK_some, cont_int, cont_intS, cont_none, cont_noneS, cont_long, cont_longS, true_and, and_true, false_and, and_false, true_implies, false_implies, not_true_eq_false, not_false_eq_true, eq_self, or_true, true_or, Option.isSome_some, hpf_length, hpa_length, bI_eq0, fi_hpa, fl_hpa, ar_hpf, fi_hpf_ne, fl_hpf_ne, ar_hpa_ne, hpa_hpa, hpf_hpf, nI_1, two_ne, fokZ, implies_true, Nat.reduceEqDiff, rc_29, g_29_7, sf_29_7, fe_29_7, g_29_1, rc_16, g_3_0, sf_3_0, fe_3_0, g_16_0, sf_16_0, fe_16_0, g_3_1, sf_3_1, fe_3_1, g_16_1, sf_16_1, fe_16_1, g_29_6, sf_29_6, fe_29_6, hF.len, s, x, c_takeF (d := d + 1) hP (show 8 < 19 by decide) x, c_takeF (d := d + 1) hP (show 9 < 19 by decide) x, c_numF (d := d + 4) hP x, c_whF (d := d + 5) hP x, c_advF (d := d + 5) s x, c_failF s x, c_rowHF (d := d) hP x hN, c_lineHere (d := d + 1) hP, c_named (d := d + 4) hP hN, c_kindHere (d := d + 1) hP, c_sightOf (d := d + 5) (g_16_3 s) (g_19_1 s) y3 (ga_20 s) l3 (by omega : c3 < 100000), c_wallOn (d := d + 5) (g_16_4 s) (g_21_1 s) y4 (ga_22 s) l4 (by omega : c4 < 100000), c_isSaid (d := d + 5) (g_16_7 s) (g_27_1 s) y7 (ga_28 s) l7 (by omega : c7 < 100000), q]
theorem C_readSign (h : CP H xs n t) (hf : fi H 29 7 = 0) (hD : DH H xs n R c2 c3 c4 c5 c6 c7) (h8 : ¬ rg R 8 = 0) (hok : ∀ R' t', eb (pBeg xs n R (decide (cn R 5 < 6)) t) (fun t1 => pSign xs n R t1) = .ok (R', t') → ∀ H', FgD H H' → CP H' xs n t' → fi H' 29 7 = 0 → DHx H' xs n R' → Q none H') (her : ∀ c p, eb (pBeg xs n R (decide (cn R 5 < 6)) t) (fun t1 => pSign xs n R t1) = .error (c, p) → ∀ H', FgD H H' → CE H' c p → Q none H') : Wp scr (d + 7) 43 0 [some (.ref 29), none, none, none, none] [] H Q := by
  have s0 := h.shp
  obtain ⟨m2, m3, m4, m5, m6, m7, b2, b3, b4, b5, b6, b7⟩ := hD.mn
  have hcn : cn R 5 = c5 := cn_eq m5 (by omega)
  unfold pSign at hok her
  simp only [pAfter_eb, pRow_eb, eb_eb, eb_ok] at hok her
  rw [hcn] at hok her
  have htb : gfl H 23 9 0 = some (.int (nI 6)) := by rw [g_23_0 s0, hD.2.1.2.2.2.1]
  have htc : gfl H 23 9 2 = some (.int (nI c5)) := by rw [g_23_2 s0, hD.2.2.1.2.2.2.1]
  have hA0 : FgR H H := Fg.rfl' s0
  have hD0 := hD
  have hP0 := h
  have f0 := hf
  simp (maxDischargeDepth := 12) only [w43_0, w43_1, w43_2, w43_5, w43_8, w43_11, w43_12, w43_15, w43_16, w43_17, w43_20, w43_21, w43_22, w43_24, w43_27, w43_28, w43_29, w43_31, w43_34, w43_35, w43_36, w43_38, w43_41, w43_42, w43_43, w43_45, w43_48, w43_49, w43_50, w43_52, w43_55, w43_57, w43_58, w43_61, w43_64, w43_65, w43_68, w43_71, w43_72, w43_73, w43_74, w43_76, w43_79, oK_some, cont_int, cont_intS, cont_none, cont_noneS, cont_long, cont_longS, true_and, and_true, false_and, and_false, true_implies, false_implies, not_true_eq_false, not_false_eq_true, eq_self, or_true, true_or, Option.isSome_some, hpf_length, hpa_length, bI_eq0, fi_hpa, fl_hpa, ar_hpf, fi_hpf_ne, fl_hpf_ne, ar_hpa_ne, hpa_hpa, hpf_hpf, nI_1, two_ne, fokZ, implies_true, Nat.reduceEqDiff, g_29_1, rc_16, g_3_5, rc_10, g_16_5, rc_23, rc_29, g_29_7, sf_29_7, fe_29_7, rc_4, rc_6, rc_8, rc_12, rc_14, rc_17, rc_19, rc_21, rc_25, rc_27, s0]
  refine C_enter (d := d + 4) h hf htb htc (by decide) (by omega) h8 (fun t1 e1 H1 hF1 hP1 f1 => ?_) (fun c' p e1 H' hF hP hE => ?_)
  · rw [e1, eb_ok] at hok her
    have s1 := hF1.shp
    have hA1 := hA0.trans hF1
    have hD1 := hD.of hA1
    have hc := of_decide_eq_true (pBeg_ok h.1.2.2.2.2.2.2.2.1 e1).2.1
    simp (maxDischargeDepth := 12) only [w43_0, w43_1, w43_2, w43_5, w43_8, w43_11, w43_12, w43_15, w43_16, w43_17, w43_20, w43_21, w43_22, w43_24, w43_27, w43_28, w43_29, w43_31, w43_34, w43_35, w43_36, w43_38, w43_41, w43_42, w43_43, w43_45, w43_48, w43_49, w43_50, w43_52, w43_55, w43_57, w43_58, w43_61, w43_64, w43_65, w43_68, w43_71, w43_72, w43_73, w43_74, w43_76, w43_79, oK_some, cont_int, cont_intS, cont_none, cont_noneS, cont_long, cont_longS, true_and, and_true, false_and, and_false, true_implies, false_implies, not_true_eq_false, not_false_eq_true, eq_self, or_true, true_or, Option.isSome_some, hpf_length, hpa_length, bI_eq0, fi_hpa, fl_hpa, ar_hpf, fi_hpf_ne, fl_hpf_ne, ar_hpa_ne, hpa_hpa, hpf_hpf, nI_1, two_ne, fokZ, implies_true, Nat.reduceEqDiff, g_29_1, rc_16, g_3_5, rc_10, g_16_5, rc_23, rc_29, g_29_7, sf_29_7, fe_29_7, rc_4, rc_6, rc_8, rc_12, rc_14, rc_17, rc_19, rc_21, rc_25, rc_27, hF1.len, s1]
    refine C_rowH (d := d) hP1 f1 hD1.nmp hD1.nmr hD1.n9 (fun r e2 hre2 => ?_) (fun c' p e2 H' hF hP hE => ?_)
    · rw [e2, eb_ok] at hok her
      simp (maxDischargeDepth := 12) only [w43_0, w43_1, w43_2, w43_5, w43_8, w43_11, w43_12, w43_15, w43_16, w43_17, w43_20, w43_21, w43_22, w43_24, w43_27, w43_28, w43_29, w43_31, w43_34, w43_35, w43_36, w43_38, w43_41, w43_42, w43_43, w43_45, w43_48, w43_49, w43_50, w43_52, w43_55, w43_57, w43_58, w43_61, w43_64, w43_65, w43_68, w43_71, w43_72, w43_73, w43_74, w43_76, w43_79, oK_some, cont_int, cont_intS, cont_none, cont_noneS, cont_long, cont_longS, true_and, and_true, false_and, and_false, true_implies, false_implies, not_true_eq_false, not_false_eq_true, eq_self, or_true, true_or, Option.isSome_some, hpf_length, hpa_length, bI_eq0, fi_hpa, fl_hpa, ar_hpf, fi_hpf_ne, fl_hpf_ne, ar_hpa_ne, hpa_hpa, hpf_hpf, nI_1, two_ne, fokZ, implies_true, Nat.reduceEqDiff, g_29_1, rc_16, g_3_5, rc_10, g_16_5, rc_23, rc_29, g_29_7, sf_29_7, fe_29_7, rc_4, rc_6, rc_8, rc_12, rc_14, rc_17, rc_19, rc_21, rc_25, rc_27, hF1.len, s1]
      refine C_nx (d := d + 5) hP1 f1 (fun H2 hF2 hP2 f2 => ?_)
      have s2 := hF2.shp
      have hA2 := hA1.trans hF2
      have hD2 := hD.of hA2
      simp (maxDischargeDepth := 12) only [w43_0, w43_1, w43_2, w43_5, w43_8, w43_11, w43_12, w43_15, w43_16, w43_17, w43_20, w43_21, w43_22, w43_24, w43_27, w43_28, w43_29, w43_31, w43_34, w43_35, w43_36, w43_38, w43_41, w43_42, w43_43, w43_45, w43_48, w43_49, w43_50, w43_52, w43_55, w43_57, w43_58, w43_61, w43_64, w43_65, w43_68, w43_71, w43_72, w43_73, w43_74, w43_76, w43_79, oK_some, cont_int, cont_intS, cont_none, cont_noneS, cont_long, cont_longS, true_and, and_true, false_and, and_false, true_implies, false_implies, not_true_eq_false, not_false_eq_true, eq_self, or_true, true_or, Option.isSome_some, hpf_length, hpa_length, bI_eq0, fi_hpa, fl_hpa, ar_hpf, fi_hpf_ne, fl_hpf_ne, ar_hpa_ne, hpa_hpa, hpf_hpf, nI_1, two_ne, fokZ, implies_true, Nat.reduceEqDiff, g_29_1, rc_16, g_3_5, rc_10, g_16_5, rc_23, rc_29, g_29_7, sf_29_7, fe_29_7, rc_4, rc_6, rc_8, rc_12, rc_14, rc_17, rc_19, rc_21, rc_25, rc_27, hF2.len, s2]
      refine C_num (d := d + 4) hP2 f2 (fun w1 t3 e3 H3 hF3 hP3 f3 => ?_) (fun c' p e3 v' H' hF hP hE => ?_)
      · rw [e3, eb_ok] at hok her
        have s3 := hF3.shp
        have hA3 := hA2.trans hF3
        have hD3 := hD.of hA3
        simp (maxDischargeDepth := 12) only [w43_0, w43_1, w43_2, w43_5, w43_8, w43_11, w43_12, w43_15, w43_16, w43_17, w43_20, w43_21, w43_22, w43_24, w43_27, w43_28, w43_29, w43_31, w43_34, w43_35, w43_36, w43_38, w43_41, w43_42, w43_43, w43_45, w43_48, w43_49, w43_50, w43_52, w43_55, w43_57, w43_58, w43_61, w43_64, w43_65, w43_68, w43_71, w43_72, w43_73, w43_74, w43_76, w43_79, oK_some, cont_int, cont_intS, cont_none, cont_noneS, cont_long, cont_longS, true_and, and_true, false_and, and_false, true_implies, false_implies, not_true_eq_false, not_false_eq_true, eq_self, or_true, true_or, Option.isSome_some, hpf_length, hpa_length, bI_eq0, fi_hpa, fl_hpa, ar_hpf, fi_hpf_ne, fl_hpf_ne, ar_hpa_ne, hpa_hpa, hpf_hpf, nI_1, two_ne, fokZ, implies_true, Nat.reduceEqDiff, g_29_1, rc_16, g_3_5, rc_10, g_16_5, rc_23, rc_29, g_29_7, sf_29_7, fe_29_7, rc_4, rc_6, rc_8, rc_12, rc_14, rc_17, rc_19, rc_21, rc_25, rc_27, hF3.len, s3]
        refine C_takeW (d := d + 1) hP3 f3 (by decide) (fun t4 e4 H4 hF4 hP4 f4 => ?_) (fun c' p e4 H' hF hP hE => ?_)
        · rw [e4, eb_ok] at hok her
          have s4 := hF4.shp
          have hA4 := hA3.trans hF4
          have hD4 := hD.of hA4
          simp (maxDischargeDepth := 12) only [w43_0, w43_1, w43_2, w43_5, w43_8, w43_11, w43_12, w43_15, w43_16, w43_17, w43_20, w43_21, w43_22, w43_24, w43_27, w43_28, w43_29, w43_31, w43_34, w43_35, w43_36, w43_38, w43_41, w43_42, w43_43, w43_45, w43_48, w43_49, w43_50, w43_52, w43_55, w43_57, w43_58, w43_61, w43_64, w43_65, w43_68, w43_71, w43_72, w43_73, w43_74, w43_76, w43_79, oK_some, cont_int, cont_intS, cont_none, cont_noneS, cont_long, cont_longS, true_and, and_true, false_and, and_false, true_implies, false_implies, not_true_eq_false, not_false_eq_true, eq_self, or_true, true_or, Option.isSome_some, hpf_length, hpa_length, bI_eq0, fi_hpa, fl_hpa, ar_hpf, fi_hpf_ne, fl_hpf_ne, ar_hpa_ne, hpa_hpa, hpf_hpf, nI_1, two_ne, fokZ, implies_true, Nat.reduceEqDiff, g_29_1, rc_16, g_3_5, rc_10, g_16_5, rc_23, rc_29, g_29_7, sf_29_7, fe_29_7, rc_4, rc_6, rc_8, rc_12, rc_14, rc_17, rc_19, rc_21, rc_25, rc_27, hF4.len, s4]
          refine C_num (d := d + 4) hP4 f4 (fun w2 t5 e5 H5 hF5 hP5 f5 => ?_) (fun c' p e5 v' H' hF hP hE => ?_)
          · rw [e5, eb_ok] at hok her
            have s5 := hF5.shp
            have hA5 := hA4.trans hF5
            have hD5 := hD.of hA5
            simp (maxDischargeDepth := 12) only [w43_0, w43_1, w43_2, w43_5, w43_8, w43_11, w43_12, w43_15, w43_16, w43_17, w43_20, w43_21, w43_22, w43_24, w43_27, w43_28, w43_29, w43_31, w43_34, w43_35, w43_36, w43_38, w43_41, w43_42, w43_43, w43_45, w43_48, w43_49, w43_50, w43_52, w43_55, w43_57, w43_58, w43_61, w43_64, w43_65, w43_68, w43_71, w43_72, w43_73, w43_74, w43_76, w43_79, oK_some, cont_int, cont_intS, cont_none, cont_noneS, cont_long, cont_longS, true_and, and_true, false_and, and_false, true_implies, false_implies, not_true_eq_false, not_false_eq_true, eq_self, or_true, true_or, Option.isSome_some, hpf_length, hpa_length, bI_eq0, fi_hpa, fl_hpa, ar_hpf, fi_hpf_ne, fl_hpf_ne, ar_hpa_ne, hpa_hpa, hpf_hpf, nI_1, two_ne, fokZ, implies_true, Nat.reduceEqDiff, g_29_1, rc_16, g_3_5, rc_10, g_16_5, rc_23, rc_29, g_29_7, sf_29_7, fe_29_7, rc_4, rc_6, rc_8, rc_12, rc_14, rc_17, rc_19, rc_21, rc_25, rc_27, hF5.len, s5]
            refine C_takeW (d := d + 1) hP5 f5 (by decide) (fun t6 e6 H6 hF6 hP6 f6 => ?_) (fun c' p e6 H' hF hP hE => ?_)
            · rw [e6, eb_ok] at hok her
              have s6 := hF6.shp
              have hA6 := hA5.trans hF6
              have hD6 := hD.of hA6
              simp (maxDischargeDepth := 12) only [w43_0, w43_1, w43_2, w43_5, w43_8, w43_11, w43_12, w43_15, w43_16, w43_17, w43_20, w43_21, w43_22, w43_24, w43_27, w43_28, w43_29, w43_31, w43_34, w43_35, w43_36, w43_38, w43_41, w43_42, w43_43, w43_45, w43_48, w43_49, w43_50, w43_52, w43_55, w43_57, w43_58, w43_61, w43_64, w43_65, w43_68, w43_71, w43_72, w43_73, w43_74, w43_76, w43_79, oK_some, cont_int, cont_intS, cont_none, cont_noneS, cont_long, cont_longS, true_and, and_true, false_and, and_false, true_implies, false_implies, not_true_eq_false, not_false_eq_true, eq_self, or_true, true_or, Option.isSome_some, hpf_length, hpa_length, bI_eq0, fi_hpa, fl_hpa, ar_hpf, fi_hpf_ne, fl_hpf_ne, ar_hpa_ne, hpa_hpa, hpf_hpf, nI_1, two_ne, fokZ, implies_true, Nat.reduceEqDiff, g_29_1, rc_16, g_3_5, rc_10, g_16_5, rc_23, rc_29, g_29_7, sf_29_7, fe_29_7, rc_4, rc_6, rc_8, rc_12, rc_14, rc_17, rc_19, rc_21, rc_25, rc_27, hF6.len, s6]
              refine C_num (d := d + 4) hP6 f6 (fun w3 t7 e7 H7 hF7 hP7 f7 => ?_) (fun c' p e7 v' H' hF hP hE => ?_)
              · rw [e7, eb_ok] at hok her
                have s7 := hF7.shp
                have hA7 := hA6.trans hF7
                have hD7 := hD.of hA7
                obtain ⟨w2', hw2, rfl⟩ := exI (k := 99) (pNum_ok hP4.1.2.2.2.2.2.2.2.1 e5).2.1 (pNum_ok hP4.1.2.2.2.2.2.2.2.1 e5).2.2 (by decide)
                obtain ⟨w3', hw3, rfl⟩ := exI (k := 20) (pNum_ok hP6.1.2.2.2.2.2.2.2.1 e7).2.1 (pNum_ok hP6.1.2.2.2.2.2.2.2.1 e7).2.2 (by decide)
                have dc := hD7.2.2.1.2.2.2.1
                obtain ⟨hD9, hF9⟩ := DH_sign (tl := w1) hD7 h8 hc hre2 hw3 hw2
                have hAA : FgD H _ := hA7.d.trans (hF9.mono (by decide) (by decide))
                simp (maxDischargeDepth := 12) only [w43_0, w43_1, w43_2, w43_5, w43_8, w43_11, w43_12, w43_15, w43_16, w43_17, w43_20, w43_21, w43_22, w43_24, w43_27, w43_28, w43_29, w43_31, w43_34, w43_35, w43_36, w43_38, w43_41, w43_42, w43_43, w43_45, w43_48, w43_49, w43_50, w43_52, w43_55, w43_57, w43_58, w43_61, w43_64, w43_65, w43_68, w43_71, w43_72, w43_73, w43_74, w43_76, w43_79, oK_some, cont_int, cont_intS, cont_none, cont_noneS, cont_long, cont_longS, true_and, and_true, false_and, and_false, true_implies, false_implies, not_true_eq_false, not_false_eq_true, eq_self, or_true, true_or, Option.isSome_some, hpf_length, hpa_length, bI_eq0, fi_hpa, fl_hpa, ar_hpf, fi_hpf_ne, fl_hpf_ne, ar_hpa_ne, hpa_hpa, hpf_hpf, nI_1, two_ne, fokZ, implies_true, Nat.reduceEqDiff, g_29_1, rc_16, g_3_5, rc_10, g_16_5, rc_23, rc_29, g_29_7, sf_29_7, fe_29_7, rc_4, rc_6, rc_8, rc_12, rc_14, rc_17, rc_19, rc_21, rc_25, rc_27, hF7.len, s7, f7, c_add23 (d := d + 6) s7 dc hc]
                exact hok _ _ rfl _ hAA (hP7.og hF9 (by decide) (by decide)) ((hF9.int (by decide) (by decide)).trans f7) ⟨_, _, _, _, _, _, hD9⟩
              · rw [e7, eb_er] at her
                have hA := hA6.trans hF
                have s := hF.shp
                have x := hE.ne
                have hN := (hD.of hA).nmp
                have hDx := hD.of hA
                have q := her _ _ rfl H' hA.d hE
                have y3 : gfl H' 19 9 2 = some (.int (nI c3)) := by rw [g_19_2 s, hDx.2.2.1.2.1]
                have y4 : gfl H' 21 9 2 = some (.int (nI c4)) := by rw [g_21_2 s, hDx.2.2.1.2.2.1]
                have y7 : gfl H' 27 9 2 = some (.int (nI c7)) := by rw [g_27_2 s, hDx.2.2.1.2.2.2.2.2]
                have l3 : (ar H' 20).length < 2147483648 := by rw [gn_20 s]; decide
                have l4 : (ar H' 22).length < 2147483648 := by rw [gn_22 s]; decide
                have l7 : (ar H' 28).length < 2147483648 := by rw [gn_28 s]; decide
                simp (maxDischargeDepth := 12) only [w43_0, w43_1, w43_2, w43_5, w43_8, w43_11, w43_12, w43_15, w43_16, w43_17, w43_20, w43_21, w43_22, w43_24, w43_27, w43_28, w43_29, w43_31, w43_34, w43_35, w43_36, w43_38, w43_41, w43_42, w43_43, w43_45, w43_48, w43_49, w43_50, w43_52, w43_55, w43_57, w43_58, w43_61, w43_64, w43_65, w43_68, w43_71, w43_72, w43_73, w43_74, w43_76, w43_79, oK_some, cont_int, cont_intS, cont_none, cont_noneS, cont_long, cont_longS, true_and, and_true, false_and, and_false, true_implies, false_implies, not_true_eq_false, not_false_eq_true, eq_self, or_true, true_or, Option.isSome_some, hpf_length, hpa_length, bI_eq0, fi_hpa, fl_hpa, ar_hpf, fi_hpf_ne, fl_hpf_ne, ar_hpa_ne, hpa_hpa, hpf_hpf, nI_1, two_ne, fokZ, implies_true, Nat.reduceEqDiff, g_29_1, rc_16, g_3_5, rc_10, g_16_5, rc_23, rc_29, g_29_7, sf_29_7, fe_29_7, rc_4, rc_6, rc_8, rc_12, rc_14, rc_17, rc_19, rc_21, rc_25, rc_27, hF.len, s, x, c_takeF (d := d + 1) hP (show 17 < 19 by decide) x, c_takeF (d := d + 1) hP (show 18 < 19 by decide) x, c_numF (d := d + 4) hP x, c_whF (d := d + 5) hP x, c_advF (d := d + 5) s x, c_failF s x, c_rowHF (d := d) hP x hN, c_lineHere (d := d + 1) hP, c_named (d := d + 4) hP hN, c_kindHere (d := d + 1) hP, c_sightOf (d := d + 5) (g_16_3 s) (g_19_1 s) y3 (ga_20 s) l3 (by omega : c3 < 100000), c_wallOn (d := d + 5) (g_16_4 s) (g_21_1 s) y4 (ga_22 s) l4 (by omega : c4 < 100000), c_isSaid (d := d + 5) (g_16_7 s) (g_27_1 s) y7 (ga_28 s) l7 (by omega : c7 < 100000), q]
            · rw [e6, eb_er] at her
              have hA := hA5.trans hF
              have s := hF.shp
              have x := hE.ne
              have hN := (hD.of hA).nmp
              have hDx := hD.of hA
              have q := her _ _ rfl H' hA.d hE
              have y3 : gfl H' 19 9 2 = some (.int (nI c3)) := by rw [g_19_2 s, hDx.2.2.1.2.1]
              have y4 : gfl H' 21 9 2 = some (.int (nI c4)) := by rw [g_21_2 s, hDx.2.2.1.2.2.1]
              have y7 : gfl H' 27 9 2 = some (.int (nI c7)) := by rw [g_27_2 s, hDx.2.2.1.2.2.2.2.2]
              have l3 : (ar H' 20).length < 2147483648 := by rw [gn_20 s]; decide
              have l4 : (ar H' 22).length < 2147483648 := by rw [gn_22 s]; decide
              have l7 : (ar H' 28).length < 2147483648 := by rw [gn_28 s]; decide
              simp (maxDischargeDepth := 12) only [w43_0, w43_1, w43_2, w43_5, w43_8, w43_11, w43_12, w43_15, w43_16, w43_17, w43_20, w43_21, w43_22, w43_24, w43_27, w43_28, w43_29, w43_31, w43_34, w43_35, w43_36, w43_38, w43_41, w43_42, w43_43, w43_45, w43_48, w43_49, w43_50, w43_52, w43_55, w43_57, w43_58, w43_61, w43_64, w43_65, w43_68, w43_71, w43_72, w43_73, w43_74, w43_76, w43_79, oK_some, cont_int, cont_intS, cont_none, cont_noneS, cont_long, cont_longS, true_and, and_true, false_and, and_false, true_implies, false_implies, not_true_eq_false, not_false_eq_true, eq_self, or_true, true_or, Option.isSome_some, hpf_length, hpa_length, bI_eq0, fi_hpa, fl_hpa, ar_hpf, fi_hpf_ne, fl_hpf_ne, ar_hpa_ne, hpa_hpa, hpf_hpf, nI_1, two_ne, fokZ, implies_true, Nat.reduceEqDiff, g_29_1, rc_16, g_3_5, rc_10, g_16_5, rc_23, rc_29, g_29_7, sf_29_7, fe_29_7, rc_4, rc_6, rc_8, rc_12, rc_14, rc_17, rc_19, rc_21, rc_25, rc_27, hF.len, s, x, c_takeF (d := d + 1) hP (show 17 < 19 by decide) x, c_takeF (d := d + 1) hP (show 18 < 19 by decide) x, c_numF (d := d + 4) hP x, c_whF (d := d + 5) hP x, c_advF (d := d + 5) s x, c_failF s x, c_rowHF (d := d) hP x hN, c_lineHere (d := d + 1) hP, c_named (d := d + 4) hP hN, c_kindHere (d := d + 1) hP, c_sightOf (d := d + 5) (g_16_3 s) (g_19_1 s) y3 (ga_20 s) l3 (by omega : c3 < 100000), c_wallOn (d := d + 5) (g_16_4 s) (g_21_1 s) y4 (ga_22 s) l4 (by omega : c4 < 100000), c_isSaid (d := d + 5) (g_16_7 s) (g_27_1 s) y7 (ga_28 s) l7 (by omega : c7 < 100000), q]
          · rw [e5, eb_er] at her
            have hA := hA4.trans hF
            have s := hF.shp
            have x := hE.ne
            have hN := (hD.of hA).nmp
            have hDx := hD.of hA
            have q := her _ _ rfl H' hA.d hE
            have y3 : gfl H' 19 9 2 = some (.int (nI c3)) := by rw [g_19_2 s, hDx.2.2.1.2.1]
            have y4 : gfl H' 21 9 2 = some (.int (nI c4)) := by rw [g_21_2 s, hDx.2.2.1.2.2.1]
            have y7 : gfl H' 27 9 2 = some (.int (nI c7)) := by rw [g_27_2 s, hDx.2.2.1.2.2.2.2.2]
            have l3 : (ar H' 20).length < 2147483648 := by rw [gn_20 s]; decide
            have l4 : (ar H' 22).length < 2147483648 := by rw [gn_22 s]; decide
            have l7 : (ar H' 28).length < 2147483648 := by rw [gn_28 s]; decide
            simp (maxDischargeDepth := 12) only [w43_0, w43_1, w43_2, w43_5, w43_8, w43_11, w43_12, w43_15, w43_16, w43_17, w43_20, w43_21, w43_22, w43_24, w43_27, w43_28, w43_29, w43_31, w43_34, w43_35, w43_36, w43_38, w43_41, w43_42, w43_43, w43_45, w43_48, w43_49, w43_50, w43_52, w43_55, w43_57, w43_58, w43_61, w43_64, w43_65, w43_68, w43_71, w43_72, w43_73, w43_74, w43_76, w43_79, oK_some, cont_int, cont_intS, cont_none, cont_noneS, cont_long, cont_longS, true_and, and_true, false_and, and_false, true_implies, false_implies, not_true_eq_false, not_false_eq_true, eq_self, or_true, true_or, Option.isSome_some, hpf_length, hpa_length, bI_eq0, fi_hpa, fl_hpa, ar_hpf, fi_hpf_ne, fl_hpf_ne, ar_hpa_ne, hpa_hpa, hpf_hpf, nI_1, two_ne, fokZ, implies_true, Nat.reduceEqDiff, g_29_1, rc_16, g_3_5, rc_10, g_16_5, rc_23, rc_29, g_29_7, sf_29_7, fe_29_7, rc_4, rc_6, rc_8, rc_12, rc_14, rc_17, rc_19, rc_21, rc_25, rc_27, hF.len, s, x, c_takeF (d := d + 1) hP (show 17 < 19 by decide) x, c_takeF (d := d + 1) hP (show 18 < 19 by decide) x, c_numF (d := d + 4) hP x, c_whF (d := d + 5) hP x, c_advF (d := d + 5) s x, c_failF s x, c_rowHF (d := d) hP x hN, c_lineHere (d := d + 1) hP, c_named (d := d + 4) hP hN, c_kindHere (d := d + 1) hP, c_sightOf (d := d + 5) (g_16_3 s) (g_19_1 s) y3 (ga_20 s) l3 (by omega : c3 < 100000), c_wallOn (d := d + 5) (g_16_4 s) (g_21_1 s) y4 (ga_22 s) l4 (by omega : c4 < 100000), c_isSaid (d := d + 5) (g_16_7 s) (g_27_1 s) y7 (ga_28 s) l7 (by omega : c7 < 100000), q]
        · rw [e4, eb_er] at her
          have hA := hA3.trans hF
          have s := hF.shp
          have x := hE.ne
          have hN := (hD.of hA).nmp
          have hDx := hD.of hA
          have q := her _ _ rfl H' hA.d hE
          have y3 : gfl H' 19 9 2 = some (.int (nI c3)) := by rw [g_19_2 s, hDx.2.2.1.2.1]
          have y4 : gfl H' 21 9 2 = some (.int (nI c4)) := by rw [g_21_2 s, hDx.2.2.1.2.2.1]
          have y7 : gfl H' 27 9 2 = some (.int (nI c7)) := by rw [g_27_2 s, hDx.2.2.1.2.2.2.2.2]
          have l3 : (ar H' 20).length < 2147483648 := by rw [gn_20 s]; decide
          have l4 : (ar H' 22).length < 2147483648 := by rw [gn_22 s]; decide
          have l7 : (ar H' 28).length < 2147483648 := by rw [gn_28 s]; decide
          simp (maxDischargeDepth := 12) only [w43_0, w43_1, w43_2, w43_5, w43_8, w43_11, w43_12, w43_15, w43_16, w43_17, w43_20, w43_21, w43_22, w43_24, w43_27, w43_28, w43_29, w43_31, w43_34, w43_35, w43_36, w43_38, w43_41, w43_42, w43_43, w43_45, w43_48, w43_49, w43_50, w43_52, w43_55, w43_57, w43_58, w43_61, w43_64, w43_65, w43_68, w43_71, w43_72, w43_73, w43_74, w43_76, w43_79, oK_some, cont_int, cont_intS, cont_none, cont_noneS, cont_long, cont_longS, true_and, and_true, false_and, and_false, true_implies, false_implies, not_true_eq_false, not_false_eq_true, eq_self, or_true, true_or, Option.isSome_some, hpf_length, hpa_length, bI_eq0, fi_hpa, fl_hpa, ar_hpf, fi_hpf_ne, fl_hpf_ne, ar_hpa_ne, hpa_hpa, hpf_hpf, nI_1, two_ne, fokZ, implies_true, Nat.reduceEqDiff, g_29_1, rc_16, g_3_5, rc_10, g_16_5, rc_23, rc_29, g_29_7, sf_29_7, fe_29_7, rc_4, rc_6, rc_8, rc_12, rc_14, rc_17, rc_19, rc_21, rc_25, rc_27, hF.len, s, x, c_takeF (d := d + 1) hP (show 17 < 19 by decide) x, c_takeF (d := d + 1) hP (show 18 < 19 by decide) x, c_numF (d := d + 4) hP x, c_whF (d := d + 5) hP x, c_advF (d := d + 5) s x, c_failF s x, c_rowHF (d := d) hP x hN, c_lineHere (d := d + 1) hP, c_named (d := d + 4) hP hN, c_kindHere (d := d + 1) hP, c_sightOf (d := d + 5) (g_16_3 s) (g_19_1 s) y3 (ga_20 s) l3 (by omega : c3 < 100000), c_wallOn (d := d + 5) (g_16_4 s) (g_21_1 s) y4 (ga_22 s) l4 (by omega : c4 < 100000), c_isSaid (d := d + 5) (g_16_7 s) (g_27_1 s) y7 (ga_28 s) l7 (by omega : c7 < 100000), q]
      · rw [e3, eb_er] at her
        have hA := hA2.trans hF
        have s := hF.shp
        have x := hE.ne
        have hN := (hD.of hA).nmp
        have hDx := hD.of hA
        have q := her _ _ rfl H' hA.d hE
        have y3 : gfl H' 19 9 2 = some (.int (nI c3)) := by rw [g_19_2 s, hDx.2.2.1.2.1]
        have y4 : gfl H' 21 9 2 = some (.int (nI c4)) := by rw [g_21_2 s, hDx.2.2.1.2.2.1]
        have y7 : gfl H' 27 9 2 = some (.int (nI c7)) := by rw [g_27_2 s, hDx.2.2.1.2.2.2.2.2]
        have l3 : (ar H' 20).length < 2147483648 := by rw [gn_20 s]; decide
        have l4 : (ar H' 22).length < 2147483648 := by rw [gn_22 s]; decide
        have l7 : (ar H' 28).length < 2147483648 := by rw [gn_28 s]; decide
        simp (maxDischargeDepth := 12) only [w43_0, w43_1, w43_2, w43_5, w43_8, w43_11, w43_12, w43_15, w43_16, w43_17, w43_20, w43_21, w43_22, w43_24, w43_27, w43_28, w43_29, w43_31, w43_34, w43_35, w43_36, w43_38, w43_41, w43_42, w43_43, w43_45, w43_48, w43_49, w43_50, w43_52, w43_55, w43_57, w43_58, w43_61, w43_64, w43_65, w43_68, w43_71, w43_72, w43_73, w43_74, w43_76, w43_79, oK_some, cont_int, cont_intS, cont_none, cont_noneS, cont_long, cont_longS, true_and, and_true, false_and, and_false, true_implies, false_implies, not_true_eq_false, not_false_eq_true, eq_self, or_true, true_or, Option.isSome_some, hpf_length, hpa_length, bI_eq0, fi_hpa, fl_hpa, ar_hpf, fi_hpf_ne, fl_hpf_ne, ar_hpa_ne, hpa_hpa, hpf_hpf, nI_1, two_ne, fokZ, implies_true, Nat.reduceEqDiff, g_29_1, rc_16, g_3_5, rc_10, g_16_5, rc_23, rc_29, g_29_7, sf_29_7, fe_29_7, rc_4, rc_6, rc_8, rc_12, rc_14, rc_17, rc_19, rc_21, rc_25, rc_27, hF.len, s, x, c_takeF (d := d + 1) hP (show 17 < 19 by decide) x, c_takeF (d := d + 1) hP (show 18 < 19 by decide) x, c_numF (d := d + 4) hP x, c_whF (d := d + 5) hP x, c_advF (d := d + 5) s x, c_failF s x, c_rowHF (d := d) hP x hN, c_lineHere (d := d + 1) hP, c_named (d := d + 4) hP hN, c_kindHere (d := d + 1) hP, c_sightOf (d := d + 5) (g_16_3 s) (g_19_1 s) y3 (ga_20 s) l3 (by omega : c3 < 100000), c_wallOn (d := d + 5) (g_16_4 s) (g_21_1 s) y4 (ga_22 s) l4 (by omega : c4 < 100000), c_isSaid (d := d + 5) (g_16_7 s) (g_27_1 s) y7 (ga_28 s) l7 (by omega : c7 < 100000), q]
    · rw [e2, eb_er] at her
      have hA := hA1.trans hF
      have s := hF.shp
      have x := hE.ne
      have hN := (hD.of hA).nmp
      have hDx := hD.of hA
      have q := her _ _ rfl H' hA.d hE
      have y3 : gfl H' 19 9 2 = some (.int (nI c3)) := by rw [g_19_2 s, hDx.2.2.1.2.1]
      have y4 : gfl H' 21 9 2 = some (.int (nI c4)) := by rw [g_21_2 s, hDx.2.2.1.2.2.1]
      have y7 : gfl H' 27 9 2 = some (.int (nI c7)) := by rw [g_27_2 s, hDx.2.2.1.2.2.2.2.2]
      have l3 : (ar H' 20).length < 2147483648 := by rw [gn_20 s]; decide
      have l4 : (ar H' 22).length < 2147483648 := by rw [gn_22 s]; decide
      have l7 : (ar H' 28).length < 2147483648 := by rw [gn_28 s]; decide
      simp (maxDischargeDepth := 12) only [w43_0, w43_1, w43_2, w43_5, w43_8, w43_11, w43_12, w43_15, w43_16, w43_17, w43_20, w43_21, w43_22, w43_24, w43_27, w43_28, w43_29, w43_31, w43_34, w43_35, w43_36, w43_38, w43_41, w43_42, w43_43, w43_45, w43_48, w43_49, w43_50, w43_52, w43_55, w43_57, w43_58, w43_61, w43_64, w43_65, w43_68, w43_71, w43_72, w43_73, w43_74, w43_76, w43_79, oK_some, cont_int, cont_intS, cont_none, cont_noneS, cont_long, cont_longS, true_and, and_true, false_and, and_false, true_implies, false_implies, not_true_eq_false, not_false_eq_true, eq_self, or_true, true_or, Option.isSome_some, hpf_length, hpa_length, bI_eq0, fi_hpa, fl_hpa, ar_hpf, fi_hpf_ne, fl_hpf_ne, ar_hpa_ne, hpa_hpa, hpf_hpf, nI_1, two_ne, fokZ, implies_true, Nat.reduceEqDiff, g_29_1, rc_16, g_3_5, rc_10, g_16_5, rc_23, rc_29, g_29_7, sf_29_7, fe_29_7, rc_4, rc_6, rc_8, rc_12, rc_14, rc_17, rc_19, rc_21, rc_25, rc_27, hF.len, s, x, c_takeF (d := d + 1) hP (show 17 < 19 by decide) x, c_takeF (d := d + 1) hP (show 18 < 19 by decide) x, c_numF (d := d + 4) hP x, c_whF (d := d + 5) hP x, c_advF (d := d + 5) s x, c_failF s x, c_rowHF (d := d) hP x hN, c_lineHere (d := d + 1) hP, c_named (d := d + 4) hP hN, c_kindHere (d := d + 1) hP, c_sightOf (d := d + 5) (g_16_3 s) (g_19_1 s) y3 (ga_20 s) l3 (by omega : c3 < 100000), c_wallOn (d := d + 5) (g_16_4 s) (g_21_1 s) y4 (ga_22 s) l4 (by omega : c4 < 100000), c_isSaid (d := d + 5) (g_16_7 s) (g_27_1 s) y7 (ga_28 s) l7 (by omega : c7 < 100000), q]
  · rw [e1, eb_er] at her
    have hA := hA0.trans hF
    have s := hF.shp
    have x := hE.ne
    have hN := (hD.of hA).nmp
    have hDx := hD.of hA
    have q := her _ _ rfl H' hA.d hE
    have y3 : gfl H' 19 9 2 = some (.int (nI c3)) := by rw [g_19_2 s, hDx.2.2.1.2.1]
    have y4 : gfl H' 21 9 2 = some (.int (nI c4)) := by rw [g_21_2 s, hDx.2.2.1.2.2.1]
    have y7 : gfl H' 27 9 2 = some (.int (nI c7)) := by rw [g_27_2 s, hDx.2.2.1.2.2.2.2.2]
    have l3 : (ar H' 20).length < 2147483648 := by rw [gn_20 s]; decide
    have l4 : (ar H' 22).length < 2147483648 := by rw [gn_22 s]; decide
    have l7 : (ar H' 28).length < 2147483648 := by rw [gn_28 s]; decide
    simp (maxDischargeDepth := 12) only [w43_0, w43_1, w43_2, w43_5, w43_8, w43_11, w43_12, w43_15, w43_16, w43_17, w43_20, w43_21, w43_22, w43_24, w43_27, w43_28, w43_29, w43_31, w43_34, w43_35, w43_36, w43_38, w43_41, w43_42, w43_43, w43_45, w43_48, w43_49, w43_50, w43_52, w43_55, w43_57, w43_58, w43_61, w43_64, w43_65, w43_68, w43_71, w43_72, w43_73, w43_74, w43_76, w43_79, oK_some, cont_int, cont_intS, cont_none, cont_noneS, cont_long, cont_longS, true_and, and_true, false_and, and_false, true_implies, false_implies, not_true_eq_false, not_false_eq_true, eq_self, or_true, true_or, Option.isSome_some, hpf_length, hpa_length, bI_eq0, fi_hpa, fl_hpa, ar_hpf, fi_hpf_ne, fl_hpf_ne, ar_hpa_ne, hpa_hpa, hpf_hpf, nI_1, two_ne, fokZ, implies_true, Nat.reduceEqDiff, g_29_1, rc_16, g_3_5, rc_10, g_16_5, rc_23, rc_29, g_29_7, sf_29_7, fe_29_7, rc_4, rc_6, rc_8, rc_12, rc_14, rc_17, rc_19, rc_21, rc_25, rc_27, hF.len, s, x, c_takeF (d := d + 1) hP (show 17 < 19 by decide) x, c_takeF (d := d + 1) hP (show 18 < 19 by decide) x, c_numF (d := d + 4) hP x, c_whF (d := d + 5) hP x, c_advF (d := d + 5) s x, c_failF s x, c_rowHF (d := d) hP x hN, c_lineHere (d := d + 1) hP, c_named (d := d + 4) hP hN, c_kindHere (d := d + 1) hP, c_sightOf (d := d + 5) (g_16_3 s) (g_19_1 s) y3 (ga_20 s) l3 (by omega : c3 < 100000), c_wallOn (d := d + 5) (g_16_4 s) (g_21_1 s) y4 (ga_22 s) l4 (by omega : c4 < 100000), c_isSaid (d := d + 5) (g_16_7 s) (g_27_1 s) y7 (ga_28 s) l7 (by omega : c7 < 100000), q]
theorem C_readRumour (h : CP H xs n t) (hf : fi H 29 7 = 0) (hD : DH H xs n R c2 c3 c4 c5 c6 c7) (h8 : ¬ rg R 8 = 0) (hok : ∀ R' t', eb (pBeg xs n R (decide (cn R 6 < 5)) t) (fun t1 => pRum xs n R t1) = .ok (R', t') → ∀ H', FgD H H' → CP H' xs n t' → fi H' 29 7 = 0 → DHx H' xs n R' → Q none H') (her : ∀ c p, eb (pBeg xs n R (decide (cn R 6 < 5)) t) (fun t1 => pRum xs n R t1) = .error (c, p) → ∀ H', FgD H H' → CE H' c p → Q none H') : Wp scr (d + 7) 44 0 [some (.ref 29), none, none, none] [] H Q := by
  have s0 := h.shp
  obtain ⟨m2, m3, m4, m5, m6, m7, b2, b3, b4, b5, b6, b7⟩ := hD.mn
  have hcn : cn R 6 = c6 := cn_eq m6 (by omega)
  unfold pRum at hok her
  simp only [pAfter_eb, pRow_eb, eb_eb, eb_ok] at hok her
  rw [hcn] at hok her
  have htb : gfl H 25 9 0 = some (.int (nI 5)) := by rw [g_25_0 s0, hD.2.1.2.2.2.2.1]
  have htc : gfl H 25 9 2 = some (.int (nI c6)) := by rw [g_25_2 s0, hD.2.2.1.2.2.2.2.1]
  have hA0 : FgR H H := Fg.rfl' s0
  have hD0 := hD
  have hP0 := h
  have f0 := hf
  simp (maxDischargeDepth := 12) only [w44_0, w44_1, w44_2, w44_5, w44_8, w44_11, w44_12, w44_15, w44_16, w44_17, w44_20, w44_21, w44_22, w44_24, w44_27, w44_28, w44_29, w44_31, w44_34, w44_35, w44_36, w44_38, w44_41, w44_42, w44_43, w44_46, w44_49, w44_50, w44_53, w44_56, w44_57, w44_58, w44_59, w44_60, w44_63, oK_some, cont_int, cont_intS, cont_none, cont_noneS, cont_long, cont_longS, true_and, and_true, false_and, and_false, true_implies, false_implies, not_true_eq_false, not_false_eq_true, eq_self, or_true, true_or, Option.isSome_some, hpf_length, hpa_length, bI_eq0, fi_hpa, fl_hpa, ar_hpf, fi_hpf_ne, fl_hpf_ne, ar_hpa_ne, hpa_hpa, hpf_hpf, nI_1, two_ne, fokZ, implies_true, Nat.reduceEqDiff, g_29_1, rc_16, g_3_6, rc_12, g_16_6, rc_25, rc_29, g_29_7, sf_29_7, fe_29_7, rc_4, rc_6, rc_8, rc_10, rc_14, rc_17, rc_19, rc_21, rc_23, rc_27, s0]
  refine C_enter (d := d + 4) h hf htb htc (by decide) (by omega) h8 (fun t1 e1 H1 hF1 hP1 f1 => ?_) (fun c' p e1 H' hF hP hE => ?_)
  · rw [e1, eb_ok] at hok her
    have s1 := hF1.shp
    have hA1 := hA0.trans hF1
    have hD1 := hD.of hA1
    have hc := of_decide_eq_true (pBeg_ok h.1.2.2.2.2.2.2.2.1 e1).2.1
    simp (maxDischargeDepth := 12) only [w44_0, w44_1, w44_2, w44_5, w44_8, w44_11, w44_12, w44_15, w44_16, w44_17, w44_20, w44_21, w44_22, w44_24, w44_27, w44_28, w44_29, w44_31, w44_34, w44_35, w44_36, w44_38, w44_41, w44_42, w44_43, w44_46, w44_49, w44_50, w44_53, w44_56, w44_57, w44_58, w44_59, w44_60, w44_63, oK_some, cont_int, cont_intS, cont_none, cont_noneS, cont_long, cont_longS, true_and, and_true, false_and, and_false, true_implies, false_implies, not_true_eq_false, not_false_eq_true, eq_self, or_true, true_or, Option.isSome_some, hpf_length, hpa_length, bI_eq0, fi_hpa, fl_hpa, ar_hpf, fi_hpf_ne, fl_hpf_ne, ar_hpa_ne, hpa_hpa, hpf_hpf, nI_1, two_ne, fokZ, implies_true, Nat.reduceEqDiff, g_29_1, rc_16, g_3_6, rc_12, g_16_6, rc_25, rc_29, g_29_7, sf_29_7, fe_29_7, rc_4, rc_6, rc_8, rc_10, rc_14, rc_17, rc_19, rc_21, rc_23, rc_27, hF1.len, s1]
    refine C_rowH (d := d) hP1 f1 hD1.nmp hD1.nmr hD1.n9 (fun r e2 hre2 => ?_) (fun c' p e2 H' hF hP hE => ?_)
    · rw [e2, eb_ok] at hok her
      simp (maxDischargeDepth := 12) only [w44_0, w44_1, w44_2, w44_5, w44_8, w44_11, w44_12, w44_15, w44_16, w44_17, w44_20, w44_21, w44_22, w44_24, w44_27, w44_28, w44_29, w44_31, w44_34, w44_35, w44_36, w44_38, w44_41, w44_42, w44_43, w44_46, w44_49, w44_50, w44_53, w44_56, w44_57, w44_58, w44_59, w44_60, w44_63, oK_some, cont_int, cont_intS, cont_none, cont_noneS, cont_long, cont_longS, true_and, and_true, false_and, and_false, true_implies, false_implies, not_true_eq_false, not_false_eq_true, eq_self, or_true, true_or, Option.isSome_some, hpf_length, hpa_length, bI_eq0, fi_hpa, fl_hpa, ar_hpf, fi_hpf_ne, fl_hpf_ne, ar_hpa_ne, hpa_hpa, hpf_hpf, nI_1, two_ne, fokZ, implies_true, Nat.reduceEqDiff, g_29_1, rc_16, g_3_6, rc_12, g_16_6, rc_25, rc_29, g_29_7, sf_29_7, fe_29_7, rc_4, rc_6, rc_8, rc_10, rc_14, rc_17, rc_19, rc_21, rc_23, rc_27, hF1.len, s1]
      refine C_nx (d := d + 5) hP1 f1 (fun H2 hF2 hP2 f2 => ?_)
      have s2 := hF2.shp
      have hA2 := hA1.trans hF2
      have hD2 := hD.of hA2
      simp (maxDischargeDepth := 12) only [w44_0, w44_1, w44_2, w44_5, w44_8, w44_11, w44_12, w44_15, w44_16, w44_17, w44_20, w44_21, w44_22, w44_24, w44_27, w44_28, w44_29, w44_31, w44_34, w44_35, w44_36, w44_38, w44_41, w44_42, w44_43, w44_46, w44_49, w44_50, w44_53, w44_56, w44_57, w44_58, w44_59, w44_60, w44_63, oK_some, cont_int, cont_intS, cont_none, cont_noneS, cont_long, cont_longS, true_and, and_true, false_and, and_false, true_implies, false_implies, not_true_eq_false, not_false_eq_true, eq_self, or_true, true_or, Option.isSome_some, hpf_length, hpa_length, bI_eq0, fi_hpa, fl_hpa, ar_hpf, fi_hpf_ne, fl_hpf_ne, ar_hpa_ne, hpa_hpa, hpf_hpf, nI_1, two_ne, fokZ, implies_true, Nat.reduceEqDiff, g_29_1, rc_16, g_3_6, rc_12, g_16_6, rc_25, rc_29, g_29_7, sf_29_7, fe_29_7, rc_4, rc_6, rc_8, rc_10, rc_14, rc_17, rc_19, rc_21, rc_23, rc_27, hF2.len, s2]
      refine C_num (d := d + 4) hP2 f2 (fun w1 t3 e3 H3 hF3 hP3 f3 => ?_) (fun c' p e3 v' H' hF hP hE => ?_)
      · rw [e3, eb_ok] at hok her
        have s3 := hF3.shp
        have hA3 := hA2.trans hF3
        have hD3 := hD.of hA3
        simp (maxDischargeDepth := 12) only [w44_0, w44_1, w44_2, w44_5, w44_8, w44_11, w44_12, w44_15, w44_16, w44_17, w44_20, w44_21, w44_22, w44_24, w44_27, w44_28, w44_29, w44_31, w44_34, w44_35, w44_36, w44_38, w44_41, w44_42, w44_43, w44_46, w44_49, w44_50, w44_53, w44_56, w44_57, w44_58, w44_59, w44_60, w44_63, oK_some, cont_int, cont_intS, cont_none, cont_noneS, cont_long, cont_longS, true_and, and_true, false_and, and_false, true_implies, false_implies, not_true_eq_false, not_false_eq_true, eq_self, or_true, true_or, Option.isSome_some, hpf_length, hpa_length, bI_eq0, fi_hpa, fl_hpa, ar_hpf, fi_hpf_ne, fl_hpf_ne, ar_hpa_ne, hpa_hpa, hpf_hpf, nI_1, two_ne, fokZ, implies_true, Nat.reduceEqDiff, g_29_1, rc_16, g_3_6, rc_12, g_16_6, rc_25, rc_29, g_29_7, sf_29_7, fe_29_7, rc_4, rc_6, rc_8, rc_10, rc_14, rc_17, rc_19, rc_21, rc_23, rc_27, hF3.len, s3]
        refine C_takeW (d := d + 1) hP3 f3 (by decide) (fun t4 e4 H4 hF4 hP4 f4 => ?_) (fun c' p e4 H' hF hP hE => ?_)
        · rw [e4, eb_ok] at hok her
          have s4 := hF4.shp
          have hA4 := hA3.trans hF4
          have hD4 := hD.of hA4
          simp (maxDischargeDepth := 12) only [w44_0, w44_1, w44_2, w44_5, w44_8, w44_11, w44_12, w44_15, w44_16, w44_17, w44_20, w44_21, w44_22, w44_24, w44_27, w44_28, w44_29, w44_31, w44_34, w44_35, w44_36, w44_38, w44_41, w44_42, w44_43, w44_46, w44_49, w44_50, w44_53, w44_56, w44_57, w44_58, w44_59, w44_60, w44_63, oK_some, cont_int, cont_intS, cont_none, cont_noneS, cont_long, cont_longS, true_and, and_true, false_and, and_false, true_implies, false_implies, not_true_eq_false, not_false_eq_true, eq_self, or_true, true_or, Option.isSome_some, hpf_length, hpa_length, bI_eq0, fi_hpa, fl_hpa, ar_hpf, fi_hpf_ne, fl_hpf_ne, ar_hpa_ne, hpa_hpa, hpf_hpf, nI_1, two_ne, fokZ, implies_true, Nat.reduceEqDiff, g_29_1, rc_16, g_3_6, rc_12, g_16_6, rc_25, rc_29, g_29_7, sf_29_7, fe_29_7, rc_4, rc_6, rc_8, rc_10, rc_14, rc_17, rc_19, rc_21, rc_23, rc_27, hF4.len, s4]
          refine C_num (d := d + 4) hP4 f4 (fun w2 t5 e5 H5 hF5 hP5 f5 => ?_) (fun c' p e5 v' H' hF hP hE => ?_)
          · rw [e5, eb_ok] at hok her
            have s5 := hF5.shp
            have hA5 := hA4.trans hF5
            have hD5 := hD.of hA5
            obtain ⟨w2', hw2, rfl⟩ := exI (k := 20) (pNum_ok hP4.1.2.2.2.2.2.2.2.1 e5).2.1 (pNum_ok hP4.1.2.2.2.2.2.2.2.1 e5).2.2 (by decide)
            have dc := hD5.2.2.1.2.2.2.2.1
            obtain ⟨hD9, hF9⟩ := DH_rum (tl := w1) (z := 0) hD5 h8 hc hre2 hw2
            have hAA : FgD H _ := hA5.d.trans (hF9.mono (by decide) (by decide))
            simp (maxDischargeDepth := 12) only [w44_0, w44_1, w44_2, w44_5, w44_8, w44_11, w44_12, w44_15, w44_16, w44_17, w44_20, w44_21, w44_22, w44_24, w44_27, w44_28, w44_29, w44_31, w44_34, w44_35, w44_36, w44_38, w44_41, w44_42, w44_43, w44_46, w44_49, w44_50, w44_53, w44_56, w44_57, w44_58, w44_59, w44_60, w44_63, oK_some, cont_int, cont_intS, cont_none, cont_noneS, cont_long, cont_longS, true_and, and_true, false_and, and_false, true_implies, false_implies, not_true_eq_false, not_false_eq_true, eq_self, or_true, true_or, Option.isSome_some, hpf_length, hpa_length, bI_eq0, fi_hpa, fl_hpa, ar_hpf, fi_hpf_ne, fl_hpf_ne, ar_hpa_ne, hpa_hpa, hpf_hpf, nI_1, two_ne, fokZ, implies_true, Nat.reduceEqDiff, g_29_1, rc_16, g_3_6, rc_12, g_16_6, rc_25, rc_29, g_29_7, sf_29_7, fe_29_7, rc_4, rc_6, rc_8, rc_10, rc_14, rc_17, rc_19, rc_21, rc_23, rc_27, hF5.len, s5, f5, c_add25 (d := d + 6) s5 dc hc]
            exact hok _ _ rfl _ hAA (hP5.og hF9 (by decide) (by decide)) ((hF9.int (by decide) (by decide)).trans f5) ⟨_, _, _, _, _, _, hD9⟩
          · rw [e5, eb_er] at her
            have hA := hA4.trans hF
            have s := hF.shp
            have x := hE.ne
            have hN := (hD.of hA).nmp
            have hDx := hD.of hA
            have q := her _ _ rfl H' hA.d hE
            have y3 : gfl H' 19 9 2 = some (.int (nI c3)) := by rw [g_19_2 s, hDx.2.2.1.2.1]
            have y4 : gfl H' 21 9 2 = some (.int (nI c4)) := by rw [g_21_2 s, hDx.2.2.1.2.2.1]
            have y7 : gfl H' 27 9 2 = some (.int (nI c7)) := by rw [g_27_2 s, hDx.2.2.1.2.2.2.2.2]
            have l3 : (ar H' 20).length < 2147483648 := by rw [gn_20 s]; decide
            have l4 : (ar H' 22).length < 2147483648 := by rw [gn_22 s]; decide
            have l7 : (ar H' 28).length < 2147483648 := by rw [gn_28 s]; decide
            simp (maxDischargeDepth := 12) only [w44_0, w44_1, w44_2, w44_5, w44_8, w44_11, w44_12, w44_15, w44_16, w44_17, w44_20, w44_21, w44_22, w44_24, w44_27, w44_28, w44_29, w44_31, w44_34, w44_35, w44_36, w44_38, w44_41, w44_42, w44_43, w44_46, w44_49, w44_50, w44_53, w44_56, w44_57, w44_58, w44_59, w44_60, w44_63, oK_some, cont_int, cont_intS, cont_none, cont_noneS, cont_long, cont_longS, true_and, and_true, false_and, and_false, true_implies, false_implies, not_true_eq_false, not_false_eq_true, eq_self, or_true, true_or, Option.isSome_some, hpf_length, hpa_length, bI_eq0, fi_hpa, fl_hpa, ar_hpf, fi_hpf_ne, fl_hpf_ne, ar_hpa_ne, hpa_hpa, hpf_hpf, nI_1, two_ne, fokZ, implies_true, Nat.reduceEqDiff, g_29_1, rc_16, g_3_6, rc_12, g_16_6, rc_25, rc_29, g_29_7, sf_29_7, fe_29_7, rc_4, rc_6, rc_8, rc_10, rc_14, rc_17, rc_19, rc_21, rc_23, rc_27, hF.len, s, x, c_takeF (d := d + 1) hP (show 18 < 19 by decide) x, c_numF (d := d + 4) hP x, c_whF (d := d + 5) hP x, c_advF (d := d + 5) s x, c_failF s x, c_rowHF (d := d) hP x hN, c_lineHere (d := d + 1) hP, c_named (d := d + 4) hP hN, c_kindHere (d := d + 1) hP, c_sightOf (d := d + 5) (g_16_3 s) (g_19_1 s) y3 (ga_20 s) l3 (by omega : c3 < 100000), c_wallOn (d := d + 5) (g_16_4 s) (g_21_1 s) y4 (ga_22 s) l4 (by omega : c4 < 100000), c_isSaid (d := d + 5) (g_16_7 s) (g_27_1 s) y7 (ga_28 s) l7 (by omega : c7 < 100000), q]
        · rw [e4, eb_er] at her
          have hA := hA3.trans hF
          have s := hF.shp
          have x := hE.ne
          have hN := (hD.of hA).nmp
          have hDx := hD.of hA
          have q := her _ _ rfl H' hA.d hE
          have y3 : gfl H' 19 9 2 = some (.int (nI c3)) := by rw [g_19_2 s, hDx.2.2.1.2.1]
          have y4 : gfl H' 21 9 2 = some (.int (nI c4)) := by rw [g_21_2 s, hDx.2.2.1.2.2.1]
          have y7 : gfl H' 27 9 2 = some (.int (nI c7)) := by rw [g_27_2 s, hDx.2.2.1.2.2.2.2.2]
          have l3 : (ar H' 20).length < 2147483648 := by rw [gn_20 s]; decide
          have l4 : (ar H' 22).length < 2147483648 := by rw [gn_22 s]; decide
          have l7 : (ar H' 28).length < 2147483648 := by rw [gn_28 s]; decide
          simp (maxDischargeDepth := 12) only [w44_0, w44_1, w44_2, w44_5, w44_8, w44_11, w44_12, w44_15, w44_16, w44_17, w44_20, w44_21, w44_22, w44_24, w44_27, w44_28, w44_29, w44_31, w44_34, w44_35, w44_36, w44_38, w44_41, w44_42, w44_43, w44_46, w44_49, w44_50, w44_53, w44_56, w44_57, w44_58, w44_59, w44_60, w44_63, oK_some, cont_int, cont_intS, cont_none, cont_noneS, cont_long, cont_longS, true_and, and_true, false_and, and_false, true_implies, false_implies, not_true_eq_false, not_false_eq_true, eq_self, or_true, true_or, Option.isSome_some, hpf_length, hpa_length, bI_eq0, fi_hpa, fl_hpa, ar_hpf, fi_hpf_ne, fl_hpf_ne, ar_hpa_ne, hpa_hpa, hpf_hpf, nI_1, two_ne, fokZ, implies_true, Nat.reduceEqDiff, g_29_1, rc_16, g_3_6, rc_12, g_16_6, rc_25, rc_29, g_29_7, sf_29_7, fe_29_7, rc_4, rc_6, rc_8, rc_10, rc_14, rc_17, rc_19, rc_21, rc_23, rc_27, hF.len, s, x, c_takeF (d := d + 1) hP (show 18 < 19 by decide) x, c_numF (d := d + 4) hP x, c_whF (d := d + 5) hP x, c_advF (d := d + 5) s x, c_failF s x, c_rowHF (d := d) hP x hN, c_lineHere (d := d + 1) hP, c_named (d := d + 4) hP hN, c_kindHere (d := d + 1) hP, c_sightOf (d := d + 5) (g_16_3 s) (g_19_1 s) y3 (ga_20 s) l3 (by omega : c3 < 100000), c_wallOn (d := d + 5) (g_16_4 s) (g_21_1 s) y4 (ga_22 s) l4 (by omega : c4 < 100000), c_isSaid (d := d + 5) (g_16_7 s) (g_27_1 s) y7 (ga_28 s) l7 (by omega : c7 < 100000), q]
      · rw [e3, eb_er] at her
        have hA := hA2.trans hF
        have s := hF.shp
        have x := hE.ne
        have hN := (hD.of hA).nmp
        have hDx := hD.of hA
        have q := her _ _ rfl H' hA.d hE
        have y3 : gfl H' 19 9 2 = some (.int (nI c3)) := by rw [g_19_2 s, hDx.2.2.1.2.1]
        have y4 : gfl H' 21 9 2 = some (.int (nI c4)) := by rw [g_21_2 s, hDx.2.2.1.2.2.1]
        have y7 : gfl H' 27 9 2 = some (.int (nI c7)) := by rw [g_27_2 s, hDx.2.2.1.2.2.2.2.2]
        have l3 : (ar H' 20).length < 2147483648 := by rw [gn_20 s]; decide
        have l4 : (ar H' 22).length < 2147483648 := by rw [gn_22 s]; decide
        have l7 : (ar H' 28).length < 2147483648 := by rw [gn_28 s]; decide
        simp (maxDischargeDepth := 12) only [w44_0, w44_1, w44_2, w44_5, w44_8, w44_11, w44_12, w44_15, w44_16, w44_17, w44_20, w44_21, w44_22, w44_24, w44_27, w44_28, w44_29, w44_31, w44_34, w44_35, w44_36, w44_38, w44_41, w44_42, w44_43, w44_46, w44_49, w44_50, w44_53, w44_56, w44_57, w44_58, w44_59, w44_60, w44_63, oK_some, cont_int, cont_intS, cont_none, cont_noneS, cont_long, cont_longS, true_and, and_true, false_and, and_false, true_implies, false_implies, not_true_eq_false, not_false_eq_true, eq_self, or_true, true_or, Option.isSome_some, hpf_length, hpa_length, bI_eq0, fi_hpa, fl_hpa, ar_hpf, fi_hpf_ne, fl_hpf_ne, ar_hpa_ne, hpa_hpa, hpf_hpf, nI_1, two_ne, fokZ, implies_true, Nat.reduceEqDiff, g_29_1, rc_16, g_3_6, rc_12, g_16_6, rc_25, rc_29, g_29_7, sf_29_7, fe_29_7, rc_4, rc_6, rc_8, rc_10, rc_14, rc_17, rc_19, rc_21, rc_23, rc_27, hF.len, s, x, c_takeF (d := d + 1) hP (show 18 < 19 by decide) x, c_numF (d := d + 4) hP x, c_whF (d := d + 5) hP x, c_advF (d := d + 5) s x, c_failF s x, c_rowHF (d := d) hP x hN, c_lineHere (d := d + 1) hP, c_named (d := d + 4) hP hN, c_kindHere (d := d + 1) hP, c_sightOf (d := d + 5) (g_16_3 s) (g_19_1 s) y3 (ga_20 s) l3 (by omega : c3 < 100000), c_wallOn (d := d + 5) (g_16_4 s) (g_21_1 s) y4 (ga_22 s) l4 (by omega : c4 < 100000), c_isSaid (d := d + 5) (g_16_7 s) (g_27_1 s) y7 (ga_28 s) l7 (by omega : c7 < 100000), q]
    · rw [e2, eb_er] at her
      have hA := hA1.trans hF
      have s := hF.shp
      have x := hE.ne
      have hN := (hD.of hA).nmp
      have hDx := hD.of hA
      have q := her _ _ rfl H' hA.d hE
      have y3 : gfl H' 19 9 2 = some (.int (nI c3)) := by rw [g_19_2 s, hDx.2.2.1.2.1]
      have y4 : gfl H' 21 9 2 = some (.int (nI c4)) := by rw [g_21_2 s, hDx.2.2.1.2.2.1]
      have y7 : gfl H' 27 9 2 = some (.int (nI c7)) := by rw [g_27_2 s, hDx.2.2.1.2.2.2.2.2]
      have l3 : (ar H' 20).length < 2147483648 := by rw [gn_20 s]; decide
      have l4 : (ar H' 22).length < 2147483648 := by rw [gn_22 s]; decide
      have l7 : (ar H' 28).length < 2147483648 := by rw [gn_28 s]; decide
      simp (maxDischargeDepth := 12) only [w44_0, w44_1, w44_2, w44_5, w44_8, w44_11, w44_12, w44_15, w44_16, w44_17, w44_20, w44_21, w44_22, w44_24, w44_27, w44_28, w44_29, w44_31, w44_34, w44_35, w44_36, w44_38, w44_41, w44_42, w44_43, w44_46, w44_49, w44_50, w44_53, w44_56, w44_57, w44_58, w44_59, w44_60, w44_63, oK_some, cont_int, cont_intS, cont_none, cont_noneS, cont_long, cont_longS, true_and, and_true, false_and, and_false, true_implies, false_implies, not_true_eq_false, not_false_eq_true, eq_self, or_true, true_or, Option.isSome_some, hpf_length, hpa_length, bI_eq0, fi_hpa, fl_hpa, ar_hpf, fi_hpf_ne, fl_hpf_ne, ar_hpa_ne, hpa_hpa, hpf_hpf, nI_1, two_ne, fokZ, implies_true, Nat.reduceEqDiff, g_29_1, rc_16, g_3_6, rc_12, g_16_6, rc_25, rc_29, g_29_7, sf_29_7, fe_29_7, rc_4, rc_6, rc_8, rc_10, rc_14, rc_17, rc_19, rc_21, rc_23, rc_27, hF.len, s, x, c_takeF (d := d + 1) hP (show 18 < 19 by decide) x, c_numF (d := d + 4) hP x, c_whF (d := d + 5) hP x, c_advF (d := d + 5) s x, c_failF s x, c_rowHF (d := d) hP x hN, c_lineHere (d := d + 1) hP, c_named (d := d + 4) hP hN, c_kindHere (d := d + 1) hP, c_sightOf (d := d + 5) (g_16_3 s) (g_19_1 s) y3 (ga_20 s) l3 (by omega : c3 < 100000), c_wallOn (d := d + 5) (g_16_4 s) (g_21_1 s) y4 (ga_22 s) l4 (by omega : c4 < 100000), c_isSaid (d := d + 5) (g_16_7 s) (g_27_1 s) y7 (ga_28 s) l7 (by omega : c7 < 100000), q]
  · rw [e1, eb_er] at her
    have hA := hA0.trans hF
    have s := hF.shp
    have x := hE.ne
    have hN := (hD.of hA).nmp
    have hDx := hD.of hA
    have q := her _ _ rfl H' hA.d hE
    have y3 : gfl H' 19 9 2 = some (.int (nI c3)) := by rw [g_19_2 s, hDx.2.2.1.2.1]
    have y4 : gfl H' 21 9 2 = some (.int (nI c4)) := by rw [g_21_2 s, hDx.2.2.1.2.2.1]
    have y7 : gfl H' 27 9 2 = some (.int (nI c7)) := by rw [g_27_2 s, hDx.2.2.1.2.2.2.2.2]
    have l3 : (ar H' 20).length < 2147483648 := by rw [gn_20 s]; decide
    have l4 : (ar H' 22).length < 2147483648 := by rw [gn_22 s]; decide
    have l7 : (ar H' 28).length < 2147483648 := by rw [gn_28 s]; decide
    simp (maxDischargeDepth := 12) only [w44_0, w44_1, w44_2, w44_5, w44_8, w44_11, w44_12, w44_15, w44_16, w44_17, w44_20, w44_21, w44_22, w44_24, w44_27, w44_28, w44_29, w44_31, w44_34, w44_35, w44_36, w44_38, w44_41, w44_42, w44_43, w44_46, w44_49, w44_50, w44_53, w44_56, w44_57, w44_58, w44_59, w44_60, w44_63, oK_some, cont_int, cont_intS, cont_none, cont_noneS, cont_long, cont_longS, true_and, and_true, false_and, and_false, true_implies, false_implies, not_true_eq_false, not_false_eq_true, eq_self, or_true, true_or, Option.isSome_some, hpf_length, hpa_length, bI_eq0, fi_hpa, fl_hpa, ar_hpf, fi_hpf_ne, fl_hpf_ne, ar_hpa_ne, hpa_hpa, hpf_hpf, nI_1, two_ne, fokZ, implies_true, Nat.reduceEqDiff, g_29_1, rc_16, g_3_6, rc_12, g_16_6, rc_25, rc_29, g_29_7, sf_29_7, fe_29_7, rc_4, rc_6, rc_8, rc_10, rc_14, rc_17, rc_19, rc_21, rc_23, rc_27, hF.len, s, x, c_takeF (d := d + 1) hP (show 18 < 19 by decide) x, c_numF (d := d + 4) hP x, c_whF (d := d + 5) hP x, c_advF (d := d + 5) s x, c_failF s x, c_rowHF (d := d) hP x hN, c_lineHere (d := d + 1) hP, c_named (d := d + 4) hP hN, c_kindHere (d := d + 1) hP, c_sightOf (d := d + 5) (g_16_3 s) (g_19_1 s) y3 (ga_20 s) l3 (by omega : c3 < 100000), c_wallOn (d := d + 5) (g_16_4 s) (g_21_1 s) y4 (ga_22 s) l4 (by omega : c4 < 100000), c_isSaid (d := d + 5) (g_16_7 s) (g_27_1 s) y7 (ga_28 s) l7 (by omega : c7 < 100000), q]
end CLN1
