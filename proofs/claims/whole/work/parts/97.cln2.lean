/-! ===== reading: the class's lines: sees, wall ===== -/
section CLN2
variable {scr : List Int32} {d n c2 c3 c4 c5 c6 c7 : Nat} {t : Tk} {xs R : List Int32} {H : List AC} {Q : Option Value → List AC → Prop}
theorem C_readSees (h : CP H xs n t) (hf : fi H 29 7 = 0) (hD : DH H xs n R c2 c3 c4 c5 c6 c7) (h8 : ¬ rg R 8 = 0) (hok : ∀ R' t', eb (pBeg xs n R (decide (cn R 3 < 10)) t) (fun t1 => pSees xs n R t1) = .ok (R', t') → ∀ H', FgD H H' → CP H' xs n t' → fi H' 29 7 = 0 → DHx H' xs n R' → Q none H') (her : ∀ c p, eb (pBeg xs n R (decide (cn R 3 < 10)) t) (fun t1 => pSees xs n R t1) = .error (c, p) → ∀ H', FgD H H' → CE H' c p → Q none H') : Wp scr (d + 7) 41 0 [some (.ref 29), none, none, none] [] H Q := by
  have s0 := h.shp
  obtain ⟨m2, m3, m4, m5, m6, m7, b2, b3, b4, b5, b6, b7⟩ := hD.mn
  have hcn : cn R 3 = c3 := cn_eq m3 (by omega)
  unfold pSees at hok her
  simp only [pAfter_eb, pRow_eb, eb_eb, eb_ok] at hok her
  rw [hcn] at hok her
  have htb : gfl H 19 9 0 = some (.int (nI 10)) := by rw [g_19_0 s0, hD.2.1.2.1]
  have htc : gfl H 19 9 2 = some (.int (nI c3)) := by rw [g_19_2 s0, hD.2.2.1.2.1]
  have hA0 : FgR H H := Fg.rfl' s0
  have hD0 := hD
  have hP0 := h
  have f0 := hf
  simp (maxDischargeDepth := 12) only [w41_0, w41_1, w41_2, w41_5, w41_8, w41_11, w41_12, w41_15, w41_16, w41_17, w41_20, w41_21, w41_24, w41_25, w41_26, w41_27, w41_30, w41_31, w41_34, w41_35, w41_36, w41_39, w41_40, w41_43, w41_44, w41_45, w41_48, w41_49, w41_52, w41_53, w41_55, w41_58, w41_59, w41_60, w41_62, w41_65, w41_66, w41_67, w41_70, w41_73, w41_74, w41_77, w41_80, w41_81, w41_82, w41_83, w41_84, w41_87, oK_some, cont_int, cont_intS, cont_none, cont_noneS, cont_long, cont_longS, true_and, and_true, false_and, and_false, true_implies, false_implies, not_true_eq_false, not_false_eq_true, eq_self, or_true, true_or, Option.isSome_some, hpf_length, hpa_length, bI_eq0, fi_hpa, fl_hpa, ar_hpf, fi_hpf_ne, fl_hpf_ne, ar_hpa_ne, hpa_hpa, hpf_hpf, nI_1, two_ne, fokZ, implies_true, Nat.reduceEqDiff, g_29_1, rc_16, g_3_3, rc_6, g_16_3, rc_19, rc_29, rc_3, g_29_7, sf_29_7, fe_29_7, rc_4, rc_8, rc_10, rc_12, rc_14, rc_17, rc_21, rc_23, rc_25, rc_27, s0]
  refine C_enter (d := d + 4) h hf htb htc (by decide) (by omega) h8 (fun t1 e1 H1 hF1 hP1 f1 => ?_) (fun c' p e1 H' hF hP hE => ?_)
  · rw [e1, eb_ok] at hok her
    have s1 := hF1.shp
    have hA1 := hA0.trans hF1
    have hD1 := hD.of hA1
    have hc := of_decide_eq_true (pBeg_ok h.1.2.2.2.2.2.2.2.1 e1).2.1
    simp (maxDischargeDepth := 12) only [w41_0, w41_1, w41_2, w41_5, w41_8, w41_11, w41_12, w41_15, w41_16, w41_17, w41_20, w41_21, w41_24, w41_25, w41_26, w41_27, w41_30, w41_31, w41_34, w41_35, w41_36, w41_39, w41_40, w41_43, w41_44, w41_45, w41_48, w41_49, w41_52, w41_53, w41_55, w41_58, w41_59, w41_60, w41_62, w41_65, w41_66, w41_67, w41_70, w41_73, w41_74, w41_77, w41_80, w41_81, w41_82, w41_83, w41_84, w41_87, oK_some, cont_int, cont_intS, cont_none, cont_noneS, cont_long, cont_longS, true_and, and_true, false_and, and_false, true_implies, false_implies, not_true_eq_false, not_false_eq_true, eq_self, or_true, true_or, Option.isSome_some, hpf_length, hpa_length, bI_eq0, fi_hpa, fl_hpa, ar_hpf, fi_hpf_ne, fl_hpf_ne, ar_hpa_ne, hpa_hpa, hpf_hpf, nI_1, two_ne, fokZ, implies_true, Nat.reduceEqDiff, g_29_1, rc_16, g_3_3, rc_6, g_16_3, rc_19, rc_29, rc_3, g_29_7, sf_29_7, fe_29_7, rc_4, rc_8, rc_10, rc_12, rc_14, rc_17, rc_21, rc_23, rc_25, rc_27, hF1.len, s1]
    refine C_rowH (d := d) hP1 f1 hD1.nmp hD1.nmr hD1.n9 (fun a e2 hre2 => ?_) (fun c' p e2 H' hF hP hE => ?_)
    · rw [e2, eb_ok] at hok her
      simp (maxDischargeDepth := 12) only [w41_0, w41_1, w41_2, w41_5, w41_8, w41_11, w41_12, w41_15, w41_16, w41_17, w41_20, w41_21, w41_24, w41_25, w41_26, w41_27, w41_30, w41_31, w41_34, w41_35, w41_36, w41_39, w41_40, w41_43, w41_44, w41_45, w41_48, w41_49, w41_52, w41_53, w41_55, w41_58, w41_59, w41_60, w41_62, w41_65, w41_66, w41_67, w41_70, w41_73, w41_74, w41_77, w41_80, w41_81, w41_82, w41_83, w41_84, w41_87, oK_some, cont_int, cont_intS, cont_none, cont_noneS, cont_long, cont_longS, true_and, and_true, false_and, and_false, true_implies, false_implies, not_true_eq_false, not_false_eq_true, eq_self, or_true, true_or, Option.isSome_some, hpf_length, hpa_length, bI_eq0, fi_hpa, fl_hpa, ar_hpf, fi_hpf_ne, fl_hpf_ne, ar_hpa_ne, hpa_hpa, hpf_hpf, nI_1, two_ne, fokZ, implies_true, Nat.reduceEqDiff, g_29_1, rc_16, g_3_3, rc_6, g_16_3, rc_19, rc_29, rc_3, g_29_7, sf_29_7, fe_29_7, rc_4, rc_8, rc_10, rc_12, rc_14, rc_17, rc_21, rc_23, rc_25, rc_27, hF1.len, s1]
      refine C_nx (d := d + 5) hP1 f1 (fun H2 hF2 hP2 f2 => ?_)
      have s2 := hF2.shp
      have hA2 := hA1.trans hF2
      have hD2 := hD.of hA2
      simp (maxDischargeDepth := 12) only [w41_0, w41_1, w41_2, w41_5, w41_8, w41_11, w41_12, w41_15, w41_16, w41_17, w41_20, w41_21, w41_24, w41_25, w41_26, w41_27, w41_30, w41_31, w41_34, w41_35, w41_36, w41_39, w41_40, w41_43, w41_44, w41_45, w41_48, w41_49, w41_52, w41_53, w41_55, w41_58, w41_59, w41_60, w41_62, w41_65, w41_66, w41_67, w41_70, w41_73, w41_74, w41_77, w41_80, w41_81, w41_82, w41_83, w41_84, w41_87, oK_some, cont_int, cont_intS, cont_none, cont_noneS, cont_long, cont_longS, true_and, and_true, false_and, and_false, true_implies, false_implies, not_true_eq_false, not_false_eq_true, eq_self, or_true, true_or, Option.isSome_some, hpf_length, hpa_length, bI_eq0, fi_hpa, fl_hpa, ar_hpf, fi_hpf_ne, fl_hpf_ne, ar_hpa_ne, hpa_hpa, hpf_hpf, nI_1, two_ne, fokZ, implies_true, Nat.reduceEqDiff, g_29_1, rc_16, g_3_3, rc_6, g_16_3, rc_19, rc_29, rc_3, g_29_7, sf_29_7, fe_29_7, rc_4, rc_8, rc_10, rc_12, rc_14, rc_17, rc_21, rc_23, rc_25, rc_27, hF2.len, s2]
      refine C_rowH (d := d) hP2 f2 hD2.nmp hD2.nmr hD2.n9 (fun b e3 hre3 => ?_) (fun c' p e3 H' hF hP hE => ?_)
      · rw [e3, eb_ok] at hok her
        have ea : (nI b = nI a) = (a = b) := propext ((nI_eqI (by omega) (by omega)).trans eq_comm)
        have y3 : gfl H2 19 9 2 = some (.int (nI c3)) := by rw [g_19_2 s2, hD2.2.2.1.2.1]
        have l3 : (ar H2 20).length < 2147483648 := by rw [gn_20 s2]; decide
        have hso := sOn_see (a := a) (b := b) hD2.2.2.2.1.2.2.1 hre2 hre3 b2 b3
        by_cases hq : a = b ∨ 0 < rg R (30 + 7 * a + b)
        · rw [if_pos hq] at her
          have W : Wp scr (d + 7) 41 43 [some (.ref 29), some (.int (nI a)), some (.int (nI b)), none] [] H2 Q := by
            simp (maxDischargeDepth := 12) only [w41_0, w41_1, w41_2, w41_5, w41_8, w41_11, w41_12, w41_15, w41_16, w41_17, w41_20, w41_21, w41_24, w41_25, w41_26, w41_27, w41_30, w41_31, w41_34, w41_35, w41_36, w41_39, w41_40, w41_43, w41_44, w41_45, w41_48, w41_49, w41_52, w41_53, w41_55, w41_58, w41_59, w41_60, w41_62, w41_65, w41_66, w41_67, w41_70, w41_73, w41_74, w41_77, w41_80, w41_81, w41_82, w41_83, w41_84, w41_87, oK_some, cont_int, cont_intS, cont_none, cont_noneS, cont_long, cont_longS, true_and, and_true, false_and, and_false, true_implies, false_implies, not_true_eq_false, not_false_eq_true, eq_self, or_true, true_or, Option.isSome_some, hpf_length, hpa_length, bI_eq0, fi_hpa, fl_hpa, ar_hpf, fi_hpf_ne, fl_hpf_ne, ar_hpa_ne, hpa_hpa, hpf_hpf, nI_1, two_ne, fokZ, implies_true, Nat.reduceEqDiff, g_29_1, rc_16, g_3_3, rc_6, g_16_3, rc_19, rc_29, rc_3, g_29_7, sf_29_7, fe_29_7, rc_4, rc_8, rc_10, rc_12, rc_14, rc_17, rc_21, rc_23, rc_25, rc_27, s2]
            refine C_fail hP2 f2 (by decide) (fun H' hF hP hE => ?_)
            have hA := hA2.trans hF
            have s := hF.shp
            have x := hE.ne
            have hN := (hD.of hA).nmp
            have hDx := hD.of hA
            have q := her _ _ rfl H' hA.d hE
            have y3 : gfl H' 19 9 2 = some (.int (nI c3)) := by rw [g_19_2 s, hDx.2.2.1.2.1]
            have y4 : gfl H' 21 9 2 = some (.int (nI c4)) := by rw [g_21_2 s, hDx.2.2.1.2.2.1]
            have y7 : gfl H' 27 9 2 = some (.int (nI c7)) := by rw [g_27_2 s, hDx.2.2.1.2.2.2.2.2]
            have l3 : (ar H' 20).length < 2147483648 := by rw [gn_20 s]; decide
            have l4 : (ar H' 22).length < 2147483648 := by rw [gn_22 s]; decide
            have l7 : (ar H' 28).length < 2147483648 := by rw [gn_28 s]; decide
            simp (maxDischargeDepth := 12) only [w41_0, w41_1, w41_2, w41_5, w41_8, w41_11, w41_12, w41_15, w41_16, w41_17, w41_20, w41_21, w41_24, w41_25, w41_26, w41_27, w41_30, w41_31, w41_34, w41_35, w41_36, w41_39, w41_40, w41_43, w41_44, w41_45, w41_48, w41_49, w41_52, w41_53, w41_55, w41_58, w41_59, w41_60, w41_62, w41_65, w41_66, w41_67, w41_70, w41_73, w41_74, w41_77, w41_80, w41_81, w41_82, w41_83, w41_84, w41_87, oK_some, cont_int, cont_intS, cont_none, cont_noneS, cont_long, cont_longS, true_and, and_true, false_and, and_false, true_implies, false_implies, not_true_eq_false, not_false_eq_true, eq_self, or_true, true_or, Option.isSome_some, hpf_length, hpa_length, bI_eq0, fi_hpa, fl_hpa, ar_hpf, fi_hpf_ne, fl_hpf_ne, ar_hpa_ne, hpa_hpa, hpf_hpf, nI_1, two_ne, fokZ, implies_true, Nat.reduceEqDiff, g_29_1, rc_16, g_3_3, rc_6, g_16_3, rc_19, rc_29, rc_3, g_29_7, sf_29_7, fe_29_7, rc_4, rc_8, rc_10, rc_12, rc_14, rc_17, rc_21, rc_23, rc_25, rc_27, hF.len, s, x, c_takeF (d := d + 1) hP (show 16 < 19 by decide) x, c_numF (d := d + 4) hP x, c_whF (d := d + 5) hP x, c_advF (d := d + 5) s x, c_failF s x, c_rowHF (d := d) hP x hN, c_lineHere (d := d + 1) hP, c_named (d := d + 4) hP hN, c_kindHere (d := d + 1) hP, c_sightOf (d := d + 5) (g_16_3 s) (g_19_1 s) y3 (ga_20 s) l3 (by omega : c3 < 100000), c_wallOn (d := d + 5) (g_16_4 s) (g_21_1 s) y4 (ga_22 s) l4 (by omega : c4 < 100000), c_isSaid (d := d + 5) (g_16_7 s) (g_27_1 s) y7 (ga_28 s) l7 (by omega : c7 < 100000), q]
          by_cases hab : a = b
          · subst hab
            simp (maxDischargeDepth := 12) only [w41_0, w41_1, w41_2, w41_5, w41_8, w41_11, w41_12, w41_15, w41_16, w41_17, w41_20, w41_21, w41_24, w41_25, w41_26, w41_27, w41_30, w41_31, w41_34, w41_35, w41_36, w41_39, w41_40, w41_44, w41_45, w41_48, w41_49, w41_52, w41_53, w41_55, w41_58, w41_59, w41_60, w41_62, w41_65, w41_66, w41_67, w41_70, w41_73, w41_74, w41_77, w41_80, w41_81, w41_82, w41_83, w41_84, w41_87, oK_some, cont_int, cont_intS, cont_none, cont_noneS, cont_long, cont_longS, true_and, and_true, false_and, and_false, true_implies, false_implies, not_true_eq_false, not_false_eq_true, eq_self, or_true, true_or, Option.isSome_some, hpf_length, hpa_length, bI_eq0, fi_hpa, fl_hpa, ar_hpf, fi_hpf_ne, fl_hpf_ne, ar_hpa_ne, hpa_hpa, hpf_hpf, nI_1, two_ne, fokZ, implies_true, Nat.reduceEqDiff, g_29_1, rc_16, g_3_3, rc_6, g_16_3, rc_19, rc_29, rc_3, g_29_7, sf_29_7, fe_29_7, rc_4, rc_8, rc_10, rc_12, rc_14, rc_17, rc_21, rc_23, rc_25, rc_27, hF2.len, s2]
            exact W
          · have g : (sOn (ar H2 20) c3 (nI a) (nI b) = -1) = False := eq_false (fun q => hso.mp q (hq.resolve_left hab))
            simp (maxDischargeDepth := 12) only [w41_0, w41_1, w41_2, w41_5, w41_8, w41_11, w41_12, w41_15, w41_16, w41_17, w41_20, w41_21, w41_24, w41_25, w41_26, w41_27, w41_30, w41_31, w41_34, w41_35, w41_36, w41_39, w41_40, w41_44, w41_45, w41_48, w41_49, w41_52, w41_53, w41_55, w41_58, w41_59, w41_60, w41_62, w41_65, w41_66, w41_67, w41_70, w41_73, w41_74, w41_77, w41_80, w41_81, w41_82, w41_83, w41_84, w41_87, oK_some, cont_int, cont_intS, cont_none, cont_noneS, cont_long, cont_longS, true_and, and_true, false_and, and_false, true_implies, false_implies, not_true_eq_false, not_false_eq_true, eq_self, or_true, true_or, Option.isSome_some, hpf_length, hpa_length, bI_eq0, fi_hpa, fl_hpa, ar_hpf, fi_hpf_ne, fl_hpf_ne, ar_hpa_ne, hpa_hpa, hpf_hpf, nI_1, two_ne, fokZ, implies_true, Nat.reduceEqDiff, g_29_1, rc_16, g_3_3, rc_6, g_16_3, rc_19, rc_29, rc_3, g_29_7, sf_29_7, fe_29_7, rc_4, rc_8, rc_10, rc_12, rc_14, rc_17, rc_21, rc_23, rc_25, rc_27, hF2.len, s2, ea, hab, c_sightOf (d := d + 5) (g_16_3 s2) (g_19_1 s2) y3 (ga_20 s2) l3 (by omega : c3 < 100000), g]
            exact W
        · rw [if_neg hq] at hok her
          have hab : ¬ a = b := fun q => hq (Or.inl q)
          have hno : ¬ 0 < rg R (30 + 7 * a + b) := fun q => hq (Or.inr q)
          have g : (sOn (ar H2 20) c3 (nI a) (nI b) = -1) = True := eq_true (hso.mpr hno)
          simp (maxDischargeDepth := 12) only [w41_0, w41_1, w41_2, w41_5, w41_8, w41_11, w41_12, w41_15, w41_16, w41_17, w41_20, w41_21, w41_24, w41_25, w41_26, w41_27, w41_30, w41_31, w41_34, w41_35, w41_36, w41_39, w41_40, w41_43, w41_44, w41_45, w41_48, w41_49, w41_52, w41_53, w41_55, w41_58, w41_59, w41_60, w41_62, w41_65, w41_66, w41_67, w41_70, w41_73, w41_74, w41_77, w41_80, w41_81, w41_82, w41_83, w41_84, w41_87, oK_some, cont_int, cont_intS, cont_none, cont_noneS, cont_long, cont_longS, true_and, and_true, false_and, and_false, true_implies, false_implies, not_true_eq_false, not_false_eq_true, eq_self, or_true, true_or, Option.isSome_some, hpf_length, hpa_length, bI_eq0, fi_hpa, fl_hpa, ar_hpf, fi_hpf_ne, fl_hpf_ne, ar_hpa_ne, hpa_hpa, hpf_hpf, nI_1, two_ne, fokZ, implies_true, Nat.reduceEqDiff, g_29_1, rc_16, g_3_3, rc_6, g_16_3, rc_19, rc_29, rc_3, g_29_7, sf_29_7, fe_29_7, rc_4, rc_8, rc_10, rc_12, rc_14, rc_17, rc_21, rc_23, rc_25, rc_27, hF2.len, s2, ea, hab, c_sightOf (d := d + 5) (g_16_3 s2) (g_19_1 s2) y3 (ga_20 s2) l3 (by omega : c3 < 100000), g]
          refine C_nx (d := d + 5) hP2 f2 (fun H3 hF3 hP3 f3 => ?_)
          have s3 := hF3.shp
          have hA3 := hA2.trans hF3
          have hD3 := hD.of hA3
          simp (maxDischargeDepth := 12) only [w41_0, w41_1, w41_2, w41_5, w41_8, w41_11, w41_12, w41_15, w41_16, w41_17, w41_20, w41_21, w41_24, w41_25, w41_26, w41_27, w41_30, w41_31, w41_34, w41_35, w41_36, w41_39, w41_40, w41_43, w41_44, w41_45, w41_48, w41_49, w41_52, w41_53, w41_55, w41_58, w41_59, w41_60, w41_62, w41_65, w41_66, w41_67, w41_70, w41_73, w41_74, w41_77, w41_80, w41_81, w41_82, w41_83, w41_84, w41_87, oK_some, cont_int, cont_intS, cont_none, cont_noneS, cont_long, cont_longS, true_and, and_true, false_and, and_false, true_implies, false_implies, not_true_eq_false, not_false_eq_true, eq_self, or_true, true_or, Option.isSome_some, hpf_length, hpa_length, bI_eq0, fi_hpa, fl_hpa, ar_hpf, fi_hpf_ne, fl_hpf_ne, ar_hpa_ne, hpa_hpa, hpf_hpf, nI_1, two_ne, fokZ, implies_true, Nat.reduceEqDiff, g_29_1, rc_16, g_3_3, rc_6, g_16_3, rc_19, rc_29, rc_3, g_29_7, sf_29_7, fe_29_7, rc_4, rc_8, rc_10, rc_12, rc_14, rc_17, rc_21, rc_23, rc_25, rc_27, hF3.len, s3]
          refine C_takeW (d := d + 1) hP3 f3 (by decide) (fun t4 e4 H4 hF4 hP4 f4 => ?_) (fun c' p e4 H' hF hP hE => ?_)
          · rw [e4, eb_ok] at hok her
            have s4 := hF4.shp
            have hA4 := hA3.trans hF4
            have hD4 := hD.of hA4
            simp (maxDischargeDepth := 12) only [w41_0, w41_1, w41_2, w41_5, w41_8, w41_11, w41_12, w41_15, w41_16, w41_17, w41_20, w41_21, w41_24, w41_25, w41_26, w41_27, w41_30, w41_31, w41_34, w41_35, w41_36, w41_39, w41_40, w41_43, w41_44, w41_45, w41_48, w41_49, w41_52, w41_53, w41_55, w41_58, w41_59, w41_60, w41_62, w41_65, w41_66, w41_67, w41_70, w41_73, w41_74, w41_77, w41_80, w41_81, w41_82, w41_83, w41_84, w41_87, oK_some, cont_int, cont_intS, cont_none, cont_noneS, cont_long, cont_longS, true_and, and_true, false_and, and_false, true_implies, false_implies, not_true_eq_false, not_false_eq_true, eq_self, or_true, true_or, Option.isSome_some, hpf_length, hpa_length, bI_eq0, fi_hpa, fl_hpa, ar_hpf, fi_hpf_ne, fl_hpf_ne, ar_hpa_ne, hpa_hpa, hpf_hpf, nI_1, two_ne, fokZ, implies_true, Nat.reduceEqDiff, g_29_1, rc_16, g_3_3, rc_6, g_16_3, rc_19, rc_29, rc_3, g_29_7, sf_29_7, fe_29_7, rc_4, rc_8, rc_10, rc_12, rc_14, rc_17, rc_21, rc_23, rc_25, rc_27, hF4.len, s4]
            refine C_num (d := d + 4) hP4 f4 (fun w t5 e5 H5 hF5 hP5 f5 => ?_) (fun c' p e5 v' H' hF hP hE => ?_)
            · rw [e5, eb_ok] at hok her
              have s5 := hF5.shp
              have hA5 := hA4.trans hF5
              have hD5 := hD.of hA5
              obtain ⟨w', hw1, hw, rfl⟩ := exI1 (k := 9) (pNum_ok hP4.1.2.2.2.2.2.2.2.1 e5).2.1 (pNum_ok hP4.1.2.2.2.2.2.2.2.1 e5).2.2 (by decide)
              have dc := hD5.2.2.1.2.1
              obtain ⟨hD9, hF9⟩ := DH_sees (z := 0) hD5 h8 hc hre2 hre3 hab hw1 hw hno
              have hAA : FgD H _ := hA5.d.trans (hF9.mono (by decide) (by decide))
              simp (maxDischargeDepth := 12) only [w41_0, w41_1, w41_2, w41_5, w41_8, w41_11, w41_12, w41_15, w41_16, w41_17, w41_20, w41_21, w41_24, w41_25, w41_26, w41_27, w41_30, w41_31, w41_34, w41_35, w41_36, w41_39, w41_40, w41_43, w41_44, w41_45, w41_48, w41_49, w41_52, w41_53, w41_55, w41_58, w41_59, w41_60, w41_62, w41_65, w41_66, w41_67, w41_70, w41_73, w41_74, w41_77, w41_80, w41_81, w41_82, w41_83, w41_84, w41_87, oK_some, cont_int, cont_intS, cont_none, cont_noneS, cont_long, cont_longS, true_and, and_true, false_and, and_false, true_implies, false_implies, not_true_eq_false, not_false_eq_true, eq_self, or_true, true_or, Option.isSome_some, hpf_length, hpa_length, bI_eq0, fi_hpa, fl_hpa, ar_hpf, fi_hpf_ne, fl_hpf_ne, ar_hpa_ne, hpa_hpa, hpf_hpf, nI_1, two_ne, fokZ, implies_true, Nat.reduceEqDiff, g_29_1, rc_16, g_3_3, rc_6, g_16_3, rc_19, rc_29, rc_3, g_29_7, sf_29_7, fe_29_7, rc_4, rc_8, rc_10, rc_12, rc_14, rc_17, rc_21, rc_23, rc_25, rc_27, hF5.len, s5, f5, c_add19 (d := d + 6) s5 dc hc]
              exact hok _ _ rfl _ hAA (hP5.og hF9 (by decide) (by decide)) ((hF9.int (by decide) (by decide)).trans f5) ⟨_, _, _, _, _, _, hD9⟩
            · rw [e5, eb_er] at her
              have hA := hA4.trans hF
              have s := hF.shp
              have x := hE.ne
              have hN := (hD.of hA).nmp
              have hDx := hD.of hA
              have q := her _ _ rfl H' hA.d hE
              have y3 : gfl H' 19 9 2 = some (.int (nI c3)) := by rw [g_19_2 s, hDx.2.2.1.2.1]
              have y4 : gfl H' 21 9 2 = some (.int (nI c4)) := by rw [g_21_2 s, hDx.2.2.1.2.2.1]
              have y7 : gfl H' 27 9 2 = some (.int (nI c7)) := by rw [g_27_2 s, hDx.2.2.1.2.2.2.2.2]
              have l3 : (ar H' 20).length < 2147483648 := by rw [gn_20 s]; decide
              have l4 : (ar H' 22).length < 2147483648 := by rw [gn_22 s]; decide
              have l7 : (ar H' 28).length < 2147483648 := by rw [gn_28 s]; decide
              simp (maxDischargeDepth := 12) only [w41_0, w41_1, w41_2, w41_5, w41_8, w41_11, w41_12, w41_15, w41_16, w41_17, w41_20, w41_21, w41_24, w41_25, w41_26, w41_27, w41_30, w41_31, w41_34, w41_35, w41_36, w41_39, w41_40, w41_43, w41_44, w41_45, w41_48, w41_49, w41_52, w41_53, w41_55, w41_58, w41_59, w41_60, w41_62, w41_65, w41_66, w41_67, w41_70, w41_73, w41_74, w41_77, w41_80, w41_81, w41_82, w41_83, w41_84, w41_87, oK_some, cont_int, cont_intS, cont_none, cont_noneS, cont_long, cont_longS, true_and, and_true, false_and, and_false, true_implies, false_implies, not_true_eq_false, not_false_eq_true, eq_self, or_true, true_or, Option.isSome_some, hpf_length, hpa_length, bI_eq0, fi_hpa, fl_hpa, ar_hpf, fi_hpf_ne, fl_hpf_ne, ar_hpa_ne, hpa_hpa, hpf_hpf, nI_1, two_ne, fokZ, implies_true, Nat.reduceEqDiff, g_29_1, rc_16, g_3_3, rc_6, g_16_3, rc_19, rc_29, rc_3, g_29_7, sf_29_7, fe_29_7, rc_4, rc_8, rc_10, rc_12, rc_14, rc_17, rc_21, rc_23, rc_25, rc_27, hF.len, s, x, c_takeF (d := d + 1) hP (show 16 < 19 by decide) x, c_numF (d := d + 4) hP x, c_whF (d := d + 5) hP x, c_advF (d := d + 5) s x, c_failF s x, c_rowHF (d := d) hP x hN, c_lineHere (d := d + 1) hP, c_named (d := d + 4) hP hN, c_kindHere (d := d + 1) hP, c_sightOf (d := d + 5) (g_16_3 s) (g_19_1 s) y3 (ga_20 s) l3 (by omega : c3 < 100000), c_wallOn (d := d + 5) (g_16_4 s) (g_21_1 s) y4 (ga_22 s) l4 (by omega : c4 < 100000), c_isSaid (d := d + 5) (g_16_7 s) (g_27_1 s) y7 (ga_28 s) l7 (by omega : c7 < 100000), q]
          · rw [e4, eb_er] at her
            have hA := hA3.trans hF
            have s := hF.shp
            have x := hE.ne
            have hN := (hD.of hA).nmp
            have hDx := hD.of hA
            have q := her _ _ rfl H' hA.d hE
            have y3 : gfl H' 19 9 2 = some (.int (nI c3)) := by rw [g_19_2 s, hDx.2.2.1.2.1]
            have y4 : gfl H' 21 9 2 = some (.int (nI c4)) := by rw [g_21_2 s, hDx.2.2.1.2.2.1]
            have y7 : gfl H' 27 9 2 = some (.int (nI c7)) := by rw [g_27_2 s, hDx.2.2.1.2.2.2.2.2]
            have l3 : (ar H' 20).length < 2147483648 := by rw [gn_20 s]; decide
            have l4 : (ar H' 22).length < 2147483648 := by rw [gn_22 s]; decide
            have l7 : (ar H' 28).length < 2147483648 := by rw [gn_28 s]; decide
            simp (maxDischargeDepth := 12) only [w41_0, w41_1, w41_2, w41_5, w41_8, w41_11, w41_12, w41_15, w41_16, w41_17, w41_20, w41_21, w41_24, w41_25, w41_26, w41_27, w41_30, w41_31, w41_34, w41_35, w41_36, w41_39, w41_40, w41_43, w41_44, w41_45, w41_48, w41_49, w41_52, w41_53, w41_55, w41_58, w41_59, w41_60, w41_62, w41_65, w41_66, w41_67, w41_70, w41_73, w41_74, w41_77, w41_80, w41_81, w41_82, w41_83, w41_84, w41_87, oK_some, cont_int, cont_intS, cont_none, cont_noneS, cont_long, cont_longS, true_and, and_true, false_and, and_false, true_implies, false_implies, not_true_eq_false, not_false_eq_true, eq_self, or_true, true_or, Option.isSome_some, hpf_length, hpa_length, bI_eq0, fi_hpa, fl_hpa, ar_hpf, fi_hpf_ne, fl_hpf_ne, ar_hpa_ne, hpa_hpa, hpf_hpf, nI_1, two_ne, fokZ, implies_true, Nat.reduceEqDiff, g_29_1, rc_16, g_3_3, rc_6, g_16_3, rc_19, rc_29, rc_3, g_29_7, sf_29_7, fe_29_7, rc_4, rc_8, rc_10, rc_12, rc_14, rc_17, rc_21, rc_23, rc_25, rc_27, hF.len, s, x, c_takeF (d := d + 1) hP (show 16 < 19 by decide) x, c_numF (d := d + 4) hP x, c_whF (d := d + 5) hP x, c_advF (d := d + 5) s x, c_failF s x, c_rowHF (d := d) hP x hN, c_lineHere (d := d + 1) hP, c_named (d := d + 4) hP hN, c_kindHere (d := d + 1) hP, c_sightOf (d := d + 5) (g_16_3 s) (g_19_1 s) y3 (ga_20 s) l3 (by omega : c3 < 100000), c_wallOn (d := d + 5) (g_16_4 s) (g_21_1 s) y4 (ga_22 s) l4 (by omega : c4 < 100000), c_isSaid (d := d + 5) (g_16_7 s) (g_27_1 s) y7 (ga_28 s) l7 (by omega : c7 < 100000), q]
      · rw [e3, eb_er] at her
        have hA := hA2.trans hF
        have s := hF.shp
        have x := hE.ne
        have hN := (hD.of hA).nmp
        have hDx := hD.of hA
        have q := her _ _ rfl H' hA.d hE
        have y3 : gfl H' 19 9 2 = some (.int (nI c3)) := by rw [g_19_2 s, hDx.2.2.1.2.1]
        have y4 : gfl H' 21 9 2 = some (.int (nI c4)) := by rw [g_21_2 s, hDx.2.2.1.2.2.1]
        have y7 : gfl H' 27 9 2 = some (.int (nI c7)) := by rw [g_27_2 s, hDx.2.2.1.2.2.2.2.2]
        have l3 : (ar H' 20).length < 2147483648 := by rw [gn_20 s]; decide
        have l4 : (ar H' 22).length < 2147483648 := by rw [gn_22 s]; decide
        have l7 : (ar H' 28).length < 2147483648 := by rw [gn_28 s]; decide
        simp (maxDischargeDepth := 12) only [w41_0, w41_1, w41_2, w41_5, w41_8, w41_11, w41_12, w41_15, w41_16, w41_17, w41_20, w41_21, w41_24, w41_25, w41_26, w41_27, w41_30, w41_31, w41_34, w41_35, w41_36, w41_39, w41_40, w41_43, w41_44, w41_45, w41_48, w41_49, w41_52, w41_53, w41_55, w41_58, w41_59, w41_60, w41_62, w41_65, w41_66, w41_67, w41_70, w41_73, w41_74, w41_77, w41_80, w41_81, w41_82, w41_83, w41_84, w41_87, oK_some, cont_int, cont_intS, cont_none, cont_noneS, cont_long, cont_longS, true_and, and_true, false_and, and_false, true_implies, false_implies, not_true_eq_false, not_false_eq_true, eq_self, or_true, true_or, Option.isSome_some, hpf_length, hpa_length, bI_eq0, fi_hpa, fl_hpa, ar_hpf, fi_hpf_ne, fl_hpf_ne, ar_hpa_ne, hpa_hpa, hpf_hpf, nI_1, two_ne, fokZ, implies_true, Nat.reduceEqDiff, g_29_1, rc_16, g_3_3, rc_6, g_16_3, rc_19, rc_29, rc_3, g_29_7, sf_29_7, fe_29_7, rc_4, rc_8, rc_10, rc_12, rc_14, rc_17, rc_21, rc_23, rc_25, rc_27, hF.len, s, x, c_takeF (d := d + 1) hP (show 16 < 19 by decide) x, c_numF (d := d + 4) hP x, c_whF (d := d + 5) hP x, c_advF (d := d + 5) s x, c_failF s x, c_rowHF (d := d) hP x hN, c_lineHere (d := d + 1) hP, c_named (d := d + 4) hP hN, c_kindHere (d := d + 1) hP, c_sightOf (d := d + 5) (g_16_3 s) (g_19_1 s) y3 (ga_20 s) l3 (by omega : c3 < 100000), c_wallOn (d := d + 5) (g_16_4 s) (g_21_1 s) y4 (ga_22 s) l4 (by omega : c4 < 100000), c_isSaid (d := d + 5) (g_16_7 s) (g_27_1 s) y7 (ga_28 s) l7 (by omega : c7 < 100000), q]
    · rw [e2, eb_er] at her
      have hA := hA1.trans hF
      have s := hF.shp
      have x := hE.ne
      have hN := (hD.of hA).nmp
      have hDx := hD.of hA
      have q := her _ _ rfl H' hA.d hE
      have y3 : gfl H' 19 9 2 = some (.int (nI c3)) := by rw [g_19_2 s, hDx.2.2.1.2.1]
      have y4 : gfl H' 21 9 2 = some (.int (nI c4)) := by rw [g_21_2 s, hDx.2.2.1.2.2.1]
      have y7 : gfl H' 27 9 2 = some (.int (nI c7)) := by rw [g_27_2 s, hDx.2.2.1.2.2.2.2.2]
      have l3 : (ar H' 20).length < 2147483648 := by rw [gn_20 s]; decide
      have l4 : (ar H' 22).length < 2147483648 := by rw [gn_22 s]; decide
      have l7 : (ar H' 28).length < 2147483648 := by rw [gn_28 s]; decide
      simp (maxDischargeDepth := 12) only [w41_0, w41_1, w41_2, w41_5, w41_8, w41_11, w41_12, w41_15, w41_16, w41_17, w41_20, w41_21, w41_24, w41_25, w41_26, w41_27, w41_30, w41_31, w41_34, w41_35, w41_36, w41_39, w41_40, w41_43, w41_44, w41_45, w41_48, w41_49, w41_52, w41_53, w41_55, w41_58, w41_59, w41_60, w41_62, w41_65, w41_66, w41_67, w41_70, w41_73, w41_74, w41_77, w41_80, w41_81, w41_82, w41_83, w41_84, w41_87, oK_some, cont_int, cont_intS, cont_none, cont_noneS, cont_long, cont_longS, true_and, and_true, false_and, and_false, true_implies, false_implies, not_true_eq_false, not_false_eq_true, eq_self, or_true, true_or, Option.isSome_some, hpf_length, hpa_length, bI_eq0, fi_hpa, fl_hpa, ar_hpf, fi_hpf_ne, fl_hpf_ne, ar_hpa_ne, hpa_hpa, hpf_hpf, nI_1, two_ne, fokZ, implies_true, Nat.reduceEqDiff, g_29_1, rc_16, g_3_3, rc_6, g_16_3, rc_19, rc_29, rc_3, g_29_7, sf_29_7, fe_29_7, rc_4, rc_8, rc_10, rc_12, rc_14, rc_17, rc_21, rc_23, rc_25, rc_27, hF.len, s, x, c_takeF (d := d + 1) hP (show 16 < 19 by decide) x, c_numF (d := d + 4) hP x, c_whF (d := d + 5) hP x, c_advF (d := d + 5) s x, c_failF s x, c_rowHF (d := d) hP x hN, c_lineHere (d := d + 1) hP, c_named (d := d + 4) hP hN, c_kindHere (d := d + 1) hP, c_sightOf (d := d + 5) (g_16_3 s) (g_19_1 s) y3 (ga_20 s) l3 (by omega : c3 < 100000), c_wallOn (d := d + 5) (g_16_4 s) (g_21_1 s) y4 (ga_22 s) l4 (by omega : c4 < 100000), c_isSaid (d := d + 5) (g_16_7 s) (g_27_1 s) y7 (ga_28 s) l7 (by omega : c7 < 100000), q]
  · rw [e1, eb_er] at her
    have hA := hA0.trans hF
    have s := hF.shp
    have x := hE.ne
    have hN := (hD.of hA).nmp
    have hDx := hD.of hA
    have q := her _ _ rfl H' hA.d hE
    have y3 : gfl H' 19 9 2 = some (.int (nI c3)) := by rw [g_19_2 s, hDx.2.2.1.2.1]
    have y4 : gfl H' 21 9 2 = some (.int (nI c4)) := by rw [g_21_2 s, hDx.2.2.1.2.2.1]
    have y7 : gfl H' 27 9 2 = some (.int (nI c7)) := by rw [g_27_2 s, hDx.2.2.1.2.2.2.2.2]
    have l3 : (ar H' 20).length < 2147483648 := by rw [gn_20 s]; decide
    have l4 : (ar H' 22).length < 2147483648 := by rw [gn_22 s]; decide
    have l7 : (ar H' 28).length < 2147483648 := by rw [gn_28 s]; decide
    simp (maxDischargeDepth := 12) only [w41_0, w41_1, w41_2, w41_5, w41_8, w41_11, w41_12, w41_15, w41_16, w41_17, w41_20, w41_21, w41_24, w41_25, w41_26, w41_27, w41_30, w41_31, w41_34, w41_35, w41_36, w41_39, w41_40, w41_43, w41_44, w41_45, w41_48, w41_49, w41_52, w41_53, w41_55, w41_58, w41_59, w41_60, w41_62, w41_65, w41_66, w41_67, w41_70, w41_73, w41_74, w41_77, w41_80, w41_81, w41_82, w41_83, w41_84, w41_87, oK_some, cont_int, cont_intS, cont_none, cont_noneS, cont_long, cont_longS, true_and, and_true, false_and, and_false, true_implies, false_implies, not_true_eq_false, not_false_eq_true, eq_self, or_true, true_or, Option.isSome_some, hpf_length, hpa_length, bI_eq0, fi_hpa, fl_hpa, ar_hpf, fi_hpf_ne, fl_hpf_ne, ar_hpa_ne, hpa_hpa, hpf_hpf, nI_1, two_ne, fokZ, implies_true, Nat.reduceEqDiff, g_29_1, rc_16, g_3_3, rc_6, g_16_3, rc_19, rc_29, rc_3, g_29_7, sf_29_7, fe_29_7, rc_4, rc_8, rc_10, rc_12, rc_14, rc_17, rc_21, rc_23, rc_25, rc_27, hF.len, s, x, c_takeF (d := d + 1) hP (show 16 < 19 by decide) x, c_numF (d := d + 4) hP x, c_whF (d := d + 5) hP x, c_advF (d := d + 5) s x, c_failF s x, c_rowHF (d := d) hP x hN, c_lineHere (d := d + 1) hP, c_named (d := d + 4) hP hN, c_kindHere (d := d + 1) hP, c_sightOf (d := d + 5) (g_16_3 s) (g_19_1 s) y3 (ga_20 s) l3 (by omega : c3 < 100000), c_wallOn (d := d + 5) (g_16_4 s) (g_21_1 s) y4 (ga_22 s) l4 (by omega : c4 < 100000), c_isSaid (d := d + 5) (g_16_7 s) (g_27_1 s) y7 (ga_28 s) l7 (by omega : c7 < 100000), q]
theorem C_readWall (h : CP H xs n t) (hf : fi H 29 7 = 0) (hD : DH H xs n R c2 c3 c4 c5 c6 c7) (h8 : ¬ rg R 8 = 0) (hok : ∀ R' t', eb (pBeg xs n R (decide (cn R 4 < 5)) t) (fun t1 => pWall xs n R t1) = .ok (R', t') → ∀ H', FgD H H' → CP H' xs n t' → fi H' 29 7 = 0 → DHx H' xs n R' → Q none H') (her : ∀ c p, eb (pBeg xs n R (decide (cn R 4 < 5)) t) (fun t1 => pWall xs n R t1) = .error (c, p) → ∀ H', FgD H H' → CE H' c p → Q none H') : Wp scr (d + 7) 42 0 [some (.ref 29), none, none, none, none] [] H Q := by
  have s0 := h.shp
  obtain ⟨m2, m3, m4, m5, m6, m7, b2, b3, b4, b5, b6, b7⟩ := hD.mn
  have hcn : cn R 4 = c4 := cn_eq m4 (by omega)
  unfold pWall at hok her
  simp only [pAfter_eb, pRow_eb, eb_eb, eb_ok] at hok her
  rw [hcn] at hok her
  have htb : gfl H 21 9 0 = some (.int (nI 5)) := by rw [g_21_0 s0, hD.2.1.2.2.1]
  have htc : gfl H 21 9 2 = some (.int (nI c4)) := by rw [g_21_2 s0, hD.2.2.1.2.2.1]
  have hA0 : FgR H H := Fg.rfl' s0
  have hD0 := hD
  have hP0 := h
  have f0 := hf
  simp (maxDischargeDepth := 12) only [w42_0, w42_1, w42_2, w42_5, w42_8, w42_11, w42_12, w42_15, w42_16, w42_17, w42_20, w42_21, w42_24, w42_25, w42_26, w42_29, w42_30, w42_31, w42_34, w42_35, w42_36, w42_37, w42_40, w42_41, w42_44, w42_45, w42_48, w42_49, w42_52, w42_53, w42_54, w42_57, w42_60, w42_61, w42_62, w42_65, w42_66, w42_68, w42_71, w42_72, w42_75, w42_76, w42_78, w42_81, w42_82, w42_83, w42_85, w42_88, w42_90, w42_91, w42_94, w42_97, w42_98, w42_101, w42_104, w42_105, w42_106, w42_108, w42_109, w42_112, oK_some, cont_int, cont_intS, cont_none, cont_noneS, cont_long, cont_longS, true_and, and_true, false_and, and_false, true_implies, false_implies, not_true_eq_false, not_false_eq_true, eq_self, or_true, true_or, Option.isSome_some, hpf_length, hpa_length, bI_eq0, fi_hpa, fl_hpa, ar_hpf, fi_hpf_ne, fl_hpf_ne, ar_hpa_ne, hpa_hpa, hpf_hpf, nI_1, two_ne, fokZ, implies_true, Nat.reduceEqDiff, g_29_1, rc_16, g_3_4, rc_8, g_16_4, rc_21, rc_29, rc_3, g_29_7, sf_29_7, fe_29_7, rc_4, rc_6, rc_10, rc_12, rc_14, rc_17, rc_19, rc_23, rc_25, rc_27, s0]
  refine C_enter (d := d + 4) h hf htb htc (by decide) (by omega) h8 (fun t1 e1 H1 hF1 hP1 f1 => ?_) (fun c' p e1 H' hF hP hE => ?_)
  · rw [e1, eb_ok] at hok her
    have s1 := hF1.shp
    have hA1 := hA0.trans hF1
    have hD1 := hD.of hA1
    have hc := of_decide_eq_true (pBeg_ok h.1.2.2.2.2.2.2.2.1 e1).2.1
    simp (maxDischargeDepth := 12) only [w42_0, w42_1, w42_2, w42_5, w42_8, w42_11, w42_12, w42_15, w42_16, w42_17, w42_20, w42_21, w42_24, w42_25, w42_26, w42_29, w42_30, w42_31, w42_34, w42_35, w42_36, w42_37, w42_40, w42_41, w42_44, w42_45, w42_48, w42_49, w42_52, w42_53, w42_54, w42_57, w42_60, w42_61, w42_62, w42_65, w42_66, w42_68, w42_71, w42_72, w42_75, w42_76, w42_78, w42_81, w42_82, w42_83, w42_85, w42_88, w42_90, w42_91, w42_94, w42_97, w42_98, w42_101, w42_104, w42_105, w42_106, w42_108, w42_109, w42_112, oK_some, cont_int, cont_intS, cont_none, cont_noneS, cont_long, cont_longS, true_and, and_true, false_and, and_false, true_implies, false_implies, not_true_eq_false, not_false_eq_true, eq_self, or_true, true_or, Option.isSome_some, hpf_length, hpa_length, bI_eq0, fi_hpa, fl_hpa, ar_hpf, fi_hpf_ne, fl_hpf_ne, ar_hpa_ne, hpa_hpa, hpf_hpf, nI_1, two_ne, fokZ, implies_true, Nat.reduceEqDiff, g_29_1, rc_16, g_3_4, rc_8, g_16_4, rc_21, rc_29, rc_3, g_29_7, sf_29_7, fe_29_7, rc_4, rc_6, rc_10, rc_12, rc_14, rc_17, rc_19, rc_23, rc_25, rc_27, hF1.len, s1]
    refine C_rowH (d := d) hP1 f1 hD1.nmp hD1.nmr hD1.n9 (fun a e2 hre2 => ?_) (fun c' p e2 H' hF hP hE => ?_)
    · rw [e2, eb_ok] at hok her
      simp (maxDischargeDepth := 12) only [w42_0, w42_1, w42_2, w42_5, w42_8, w42_11, w42_12, w42_15, w42_16, w42_17, w42_20, w42_21, w42_24, w42_25, w42_26, w42_29, w42_30, w42_31, w42_34, w42_35, w42_36, w42_37, w42_40, w42_41, w42_44, w42_45, w42_48, w42_49, w42_52, w42_53, w42_54, w42_57, w42_60, w42_61, w42_62, w42_65, w42_66, w42_68, w42_71, w42_72, w42_75, w42_76, w42_78, w42_81, w42_82, w42_83, w42_85, w42_88, w42_90, w42_91, w42_94, w42_97, w42_98, w42_101, w42_104, w42_105, w42_106, w42_108, w42_109, w42_112, oK_some, cont_int, cont_intS, cont_none, cont_noneS, cont_long, cont_longS, true_and, and_true, false_and, and_false, true_implies, false_implies, not_true_eq_false, not_false_eq_true, eq_self, or_true, true_or, Option.isSome_some, hpf_length, hpa_length, bI_eq0, fi_hpa, fl_hpa, ar_hpf, fi_hpf_ne, fl_hpf_ne, ar_hpa_ne, hpa_hpa, hpf_hpf, nI_1, two_ne, fokZ, implies_true, Nat.reduceEqDiff, g_29_1, rc_16, g_3_4, rc_8, g_16_4, rc_21, rc_29, rc_3, g_29_7, sf_29_7, fe_29_7, rc_4, rc_6, rc_10, rc_12, rc_14, rc_17, rc_19, rc_23, rc_25, rc_27, hF1.len, s1]
      refine C_nx (d := d + 5) hP1 f1 (fun H2 hF2 hP2 f2 => ?_)
      have s2 := hF2.shp
      have hA2 := hA1.trans hF2
      have hD2 := hD.of hA2
      simp (maxDischargeDepth := 12) only [w42_0, w42_1, w42_2, w42_5, w42_8, w42_11, w42_12, w42_15, w42_16, w42_17, w42_20, w42_21, w42_24, w42_25, w42_26, w42_29, w42_30, w42_31, w42_34, w42_35, w42_36, w42_37, w42_40, w42_41, w42_44, w42_45, w42_48, w42_49, w42_52, w42_53, w42_54, w42_57, w42_60, w42_61, w42_62, w42_65, w42_66, w42_68, w42_71, w42_72, w42_75, w42_76, w42_78, w42_81, w42_82, w42_83, w42_85, w42_88, w42_90, w42_91, w42_94, w42_97, w42_98, w42_101, w42_104, w42_105, w42_106, w42_108, w42_109, w42_112, oK_some, cont_int, cont_intS, cont_none, cont_noneS, cont_long, cont_longS, true_and, and_true, false_and, and_false, true_implies, false_implies, not_true_eq_false, not_false_eq_true, eq_self, or_true, true_or, Option.isSome_some, hpf_length, hpa_length, bI_eq0, fi_hpa, fl_hpa, ar_hpf, fi_hpf_ne, fl_hpf_ne, ar_hpa_ne, hpa_hpa, hpf_hpf, nI_1, two_ne, fokZ, implies_true, Nat.reduceEqDiff, g_29_1, rc_16, g_3_4, rc_8, g_16_4, rc_21, rc_29, rc_3, g_29_7, sf_29_7, fe_29_7, rc_4, rc_6, rc_10, rc_12, rc_14, rc_17, rc_19, rc_23, rc_25, rc_27, hF2.len, s2]
      refine C_rowH (d := d) hP2 f2 hD2.nmp hD2.nmr hD2.n9 (fun b e3 hre3 => ?_) (fun c' p e3 H' hF hP hE => ?_)
      · rw [e3, eb_ok] at hok her
        have ea : (nI b = nI a) = (a = b) := propext ((nI_eqI (by omega) (by omega)).trans eq_comm)
        have y3 : gfl H2 19 9 2 = some (.int (nI c3)) := by rw [g_19_2 s2, hD2.2.2.1.2.1]
        have l3 : (ar H2 20).length < 2147483648 := by rw [gn_20 s2]; decide
        have y4 : gfl H2 21 9 2 = some (.int (nI c4)) := by rw [g_21_2 s2, hD2.2.2.1.2.2.1]
        have l4 : (ar H2 22).length < 2147483648 := by rw [gn_22 s2]; decide
        have hTb := hD2.2.2.2.1
        have W3 : wlh R a b c4 = true → ∀ v : Int32, Wp scr (d + 7) 42 52 [some (.ref 29), some (.int (nI a)), some (.int (nI b)), some (.int v), none] [] H2 Q := fun hq v => by
          rw [if_pos hq] at her
          simp (maxDischargeDepth := 12) only [w42_0, w42_1, w42_2, w42_5, w42_8, w42_11, w42_12, w42_15, w42_16, w42_17, w42_20, w42_21, w42_24, w42_25, w42_26, w42_29, w42_30, w42_31, w42_34, w42_35, w42_36, w42_37, w42_40, w42_41, w42_44, w42_45, w42_48, w42_49, w42_52, w42_53, w42_54, w42_57, w42_60, w42_61, w42_62, w42_65, w42_66, w42_68, w42_71, w42_72, w42_75, w42_76, w42_78, w42_81, w42_82, w42_83, w42_85, w42_88, w42_90, w42_91, w42_94, w42_97, w42_98, w42_101, w42_104, w42_105, w42_106, w42_108, w42_109, w42_112, oK_some, cont_int, cont_intS, cont_none, cont_noneS, cont_long, cont_longS, true_and, and_true, false_and, and_false, true_implies, false_implies, not_true_eq_false, not_false_eq_true, eq_self, or_true, true_or, Option.isSome_some, hpf_length, hpa_length, bI_eq0, fi_hpa, fl_hpa, ar_hpf, fi_hpf_ne, fl_hpf_ne, ar_hpa_ne, hpa_hpa, hpf_hpf, nI_1, two_ne, fokZ, implies_true, Nat.reduceEqDiff, g_29_1, rc_16, g_3_4, rc_8, g_16_4, rc_21, rc_29, rc_3, g_29_7, sf_29_7, fe_29_7, rc_4, rc_6, rc_10, rc_12, rc_14, rc_17, rc_19, rc_23, rc_25, rc_27, s2]
          refine C_fail hP2 f2 (by decide) (fun H' hF hP hE => ?_)
          have hA := hA2.trans hF
          have s := hF.shp
          have x := hE.ne
          have hN := (hD.of hA).nmp
          have hDx := hD.of hA
          have q := her _ _ rfl H' hA.d hE
          have y3 : gfl H' 19 9 2 = some (.int (nI c3)) := by rw [g_19_2 s, hDx.2.2.1.2.1]
          have y4 : gfl H' 21 9 2 = some (.int (nI c4)) := by rw [g_21_2 s, hDx.2.2.1.2.2.1]
          have y7 : gfl H' 27 9 2 = some (.int (nI c7)) := by rw [g_27_2 s, hDx.2.2.1.2.2.2.2.2]
          have l3 : (ar H' 20).length < 2147483648 := by rw [gn_20 s]; decide
          have l4 : (ar H' 22).length < 2147483648 := by rw [gn_22 s]; decide
          have l7 : (ar H' 28).length < 2147483648 := by rw [gn_28 s]; decide
          simp (maxDischargeDepth := 12) only [w42_0, w42_1, w42_2, w42_5, w42_8, w42_11, w42_12, w42_15, w42_16, w42_17, w42_20, w42_21, w42_24, w42_25, w42_26, w42_29, w42_30, w42_31, w42_34, w42_35, w42_36, w42_37, w42_40, w42_41, w42_44, w42_45, w42_48, w42_49, w42_52, w42_53, w42_54, w42_57, w42_60, w42_61, w42_62, w42_65, w42_66, w42_68, w42_71, w42_72, w42_75, w42_76, w42_78, w42_81, w42_82, w42_83, w42_85, w42_88, w42_90, w42_91, w42_94, w42_97, w42_98, w42_101, w42_104, w42_105, w42_106, w42_108, w42_109, w42_112, oK_some, cont_int, cont_intS, cont_none, cont_noneS, cont_long, cont_longS, true_and, and_true, false_and, and_false, true_implies, false_implies, not_true_eq_false, not_false_eq_true, eq_self, or_true, true_or, Option.isSome_some, hpf_length, hpa_length, bI_eq0, fi_hpa, fl_hpa, ar_hpf, fi_hpf_ne, fl_hpf_ne, ar_hpa_ne, hpa_hpa, hpf_hpf, nI_1, two_ne, fokZ, implies_true, Nat.reduceEqDiff, g_29_1, rc_16, g_3_4, rc_8, g_16_4, rc_21, rc_29, rc_3, g_29_7, sf_29_7, fe_29_7, rc_4, rc_6, rc_10, rc_12, rc_14, rc_17, rc_19, rc_23, rc_25, rc_27, hF.len, s, x, c_takeF (d := d + 1) hP (show 17 < 19 by decide) x, c_numF (d := d + 4) hP x, c_whF (d := d + 5) hP x, c_advF (d := d + 5) s x, c_failF s x, c_rowHF (d := d) hP x hN, c_lineHere (d := d + 1) hP, c_named (d := d + 4) hP hN, c_kindHere (d := d + 1) hP, c_sightOf (d := d + 5) (g_16_3 s) (g_19_1 s) y3 (ga_20 s) l3 (by omega : c3 < 100000), c_wallOn (d := d + 5) (g_16_4 s) (g_21_1 s) y4 (ga_22 s) l4 (by omega : c4 < 100000), c_isSaid (d := d + 5) (g_16_7 s) (g_27_1 s) y7 (ga_28 s) l7 (by omega : c7 < 100000), q]
        by_cases hab : a = b
        · subst hab
          simp (maxDischargeDepth := 12) only [w42_0, w42_1, w42_2, w42_5, w42_8, w42_11, w42_12, w42_15, w42_16, w42_17, w42_20, w42_21, w42_24, w42_25, w42_26, w42_29, w42_30, w42_31, w42_34, w42_35, w42_36, w42_37, w42_40, w42_41, w42_44, w42_45, w42_48, w42_49, w42_53, w42_54, w42_57, w42_60, w42_61, w42_62, w42_65, w42_66, w42_68, w42_71, w42_72, w42_75, w42_76, w42_78, w42_81, w42_82, w42_83, w42_85, w42_88, w42_90, w42_91, w42_94, w42_97, w42_98, w42_101, w42_104, w42_105, w42_106, w42_108, w42_109, w42_112, oK_some, cont_int, cont_intS, cont_none, cont_noneS, cont_long, cont_longS, true_and, and_true, false_and, and_false, true_implies, false_implies, not_true_eq_false, not_false_eq_true, eq_self, or_true, true_or, Option.isSome_some, hpf_length, hpa_length, bI_eq0, fi_hpa, fl_hpa, ar_hpf, fi_hpf_ne, fl_hpf_ne, ar_hpa_ne, hpa_hpa, hpf_hpf, nI_1, two_ne, fokZ, implies_true, Nat.reduceEqDiff, g_29_1, rc_16, g_3_4, rc_8, g_16_4, rc_21, rc_29, rc_3, g_29_7, sf_29_7, fe_29_7, rc_4, rc_6, rc_10, rc_12, rc_14, rc_17, rc_19, rc_23, rc_25, rc_27, hF2.len, s2, c_sightOf (d := d + 5) (g_16_3 s2) (g_19_1 s2) y3 (ga_20 s2) l3 (by omega : c3 < 100000), c_wallOn (d := d + 5) (g_16_4 s2) (g_21_1 s2) y4 (ga_22 s2) l4 (by omega : c4 < 100000)]
          exact W3 (wlh_eq c4) _
        · rcases sOn_in (ss := ar H2 20) (m := c3) (x := nI a) (y := nI b) with ⟨sg, hsg, g0, g1, gs⟩ | ⟨gn, gs⟩
          · have hpos : 0 < rg R (30 + 7 * a + b) := see_pos hTb.2.2.1 b2 hsg g0 g1 hre2 hre3
            have hz : ¬ rg R (30 + 7 * a + b) = 0 := fun q => by rw [q] at hpos; exact absurd hpos (by decide)
            have gm : (nI sg = -1) = False := nI_m1 (by omega)
            rcases wOn_in (ss := ar H2 20) (R := R) (nS := c3) (s := sg) hTb.2.2.2.1 b4 with ⟨k, hk, gk, gw⟩ | ⟨gno, gw⟩
            · have hq : wlh R a b c4 = true := (wlh_iff hTb.2.2.1 hTb.2.2.2.1 hsg g0 g1 hab b3).mpr ⟨k, hk, gk⟩
              have g4 : (nI k = -1) = False := nI_m1 (by omega)
              simp (maxDischargeDepth := 12) only [w42_0, w42_1, w42_2, w42_5, w42_8, w42_11, w42_12, w42_15, w42_16, w42_17, w42_20, w42_21, w42_24, w42_25, w42_26, w42_29, w42_30, w42_31, w42_34, w42_35, w42_36, w42_37, w42_40, w42_41, w42_44, w42_45, w42_48, w42_49, w42_53, w42_54, w42_57, w42_60, w42_61, w42_62, w42_65, w42_66, w42_68, w42_71, w42_72, w42_75, w42_76, w42_78, w42_81, w42_82, w42_83, w42_85, w42_88, w42_90, w42_91, w42_94, w42_97, w42_98, w42_101, w42_104, w42_105, w42_106, w42_108, w42_109, w42_112, oK_some, cont_int, cont_intS, cont_none, cont_noneS, cont_long, cont_longS, true_and, and_true, false_and, and_false, true_implies, false_implies, not_true_eq_false, not_false_eq_true, eq_self, or_true, true_or, Option.isSome_some, hpf_length, hpa_length, bI_eq0, fi_hpa, fl_hpa, ar_hpf, fi_hpf_ne, fl_hpf_ne, ar_hpa_ne, hpa_hpa, hpf_hpf, nI_1, two_ne, fokZ, implies_true, Nat.reduceEqDiff, g_29_1, rc_16, g_3_4, rc_8, g_16_4, rc_21, rc_29, rc_3, g_29_7, sf_29_7, fe_29_7, rc_4, rc_6, rc_10, rc_12, rc_14, rc_17, rc_19, rc_23, rc_25, rc_27, hF2.len, s2, ea, hab, c_sightOf (d := d + 5) (g_16_3 s2) (g_19_1 s2) y3 (ga_20 s2) l3 (by omega : c3 < 100000), c_wallOn (d := d + 5) (g_16_4 s2) (g_21_1 s2) y4 (ga_22 s2) l4 (by omega : c4 < 100000), gs, gw, g4]
              exact W3 hq _
            · have hq : ¬ wlh R a b c4 = true := fun q => by
                obtain ⟨k, hk, gk⟩ := (wlh_iff hTb.2.2.1 hTb.2.2.2.1 hsg g0 g1 hab b3).mp q
                exact gno k hk gk
              rw [if_neg hq, if_neg hz] at hok her
              simp (maxDischargeDepth := 12) only [w42_0, w42_1, w42_2, w42_5, w42_8, w42_11, w42_12, w42_15, w42_16, w42_17, w42_20, w42_21, w42_24, w42_25, w42_26, w42_29, w42_30, w42_31, w42_34, w42_35, w42_36, w42_37, w42_40, w42_41, w42_44, w42_45, w42_48, w42_49, w42_52, w42_53, w42_54, w42_57, w42_60, w42_61, w42_62, w42_65, w42_66, w42_68, w42_71, w42_72, w42_75, w42_76, w42_78, w42_81, w42_82, w42_83, w42_85, w42_88, w42_90, w42_91, w42_94, w42_97, w42_98, w42_101, w42_104, w42_105, w42_106, w42_108, w42_109, w42_112, oK_some, cont_int, cont_intS, cont_none, cont_noneS, cont_long, cont_longS, true_and, and_true, false_and, and_false, true_implies, false_implies, not_true_eq_false, not_false_eq_true, eq_self, or_true, true_or, Option.isSome_some, hpf_length, hpa_length, bI_eq0, fi_hpa, fl_hpa, ar_hpf, fi_hpf_ne, fl_hpf_ne, ar_hpa_ne, hpa_hpa, hpf_hpf, nI_1, two_ne, fokZ, implies_true, Nat.reduceEqDiff, g_29_1, rc_16, g_3_4, rc_8, g_16_4, rc_21, rc_29, rc_3, g_29_7, sf_29_7, fe_29_7, rc_4, rc_6, rc_10, rc_12, rc_14, rc_17, rc_19, rc_23, rc_25, rc_27, hF2.len, s2, ea, hab, c_sightOf (d := d + 5) (g_16_3 s2) (g_19_1 s2) y3 (ga_20 s2) l3 (by omega : c3 < 100000), c_wallOn (d := d + 5) (g_16_4 s2) (g_21_1 s2) y4 (ga_22 s2) l4 (by omega : c4 < 100000), gs, gw, gm]
              refine C_nx (d := d + 5) hP2 f2 (fun H3 hF3 hP3 f3 => ?_)
              have s3 := hF3.shp
              have hA3 := hA2.trans hF3
              have hD3 := hD.of hA3
              simp (maxDischargeDepth := 12) only [w42_0, w42_1, w42_2, w42_5, w42_8, w42_11, w42_12, w42_15, w42_16, w42_17, w42_20, w42_21, w42_24, w42_25, w42_26, w42_29, w42_30, w42_31, w42_34, w42_35, w42_36, w42_37, w42_40, w42_41, w42_44, w42_45, w42_48, w42_49, w42_52, w42_53, w42_54, w42_57, w42_60, w42_61, w42_62, w42_65, w42_66, w42_68, w42_71, w42_72, w42_75, w42_76, w42_78, w42_81, w42_82, w42_83, w42_85, w42_88, w42_90, w42_91, w42_94, w42_97, w42_98, w42_101, w42_104, w42_105, w42_106, w42_108, w42_109, w42_112, oK_some, cont_int, cont_intS, cont_none, cont_noneS, cont_long, cont_longS, true_and, and_true, false_and, and_false, true_implies, false_implies, not_true_eq_false, not_false_eq_true, eq_self, or_true, true_or, Option.isSome_some, hpf_length, hpa_length, bI_eq0, fi_hpa, fl_hpa, ar_hpf, fi_hpf_ne, fl_hpf_ne, ar_hpa_ne, hpa_hpa, hpf_hpf, nI_1, two_ne, fokZ, implies_true, Nat.reduceEqDiff, g_29_1, rc_16, g_3_4, rc_8, g_16_4, rc_21, rc_29, rc_3, g_29_7, sf_29_7, fe_29_7, rc_4, rc_6, rc_10, rc_12, rc_14, rc_17, rc_19, rc_23, rc_25, rc_27, hF3.len, s3]
              refine C_takeW (d := d + 1) hP3 f3 (by decide) (fun t4 e4 H4 hF4 hP4 f4 => ?_) (fun c' p e4 H' hF hP hE => ?_)
              · rw [e4, eb_ok] at hok her
                have s4 := hF4.shp
                have hA4 := hA3.trans hF4
                have hD4 := hD.of hA4
                simp (maxDischargeDepth := 12) only [w42_0, w42_1, w42_2, w42_5, w42_8, w42_11, w42_12, w42_15, w42_16, w42_17, w42_20, w42_21, w42_24, w42_25, w42_26, w42_29, w42_30, w42_31, w42_34, w42_35, w42_36, w42_37, w42_40, w42_41, w42_44, w42_45, w42_48, w42_49, w42_52, w42_53, w42_54, w42_57, w42_60, w42_61, w42_62, w42_65, w42_66, w42_68, w42_71, w42_72, w42_75, w42_76, w42_78, w42_81, w42_82, w42_83, w42_85, w42_88, w42_90, w42_91, w42_94, w42_97, w42_98, w42_101, w42_104, w42_105, w42_106, w42_108, w42_109, w42_112, oK_some, cont_int, cont_intS, cont_none, cont_noneS, cont_long, cont_longS, true_and, and_true, false_and, and_false, true_implies, false_implies, not_true_eq_false, not_false_eq_true, eq_self, or_true, true_or, Option.isSome_some, hpf_length, hpa_length, bI_eq0, fi_hpa, fl_hpa, ar_hpf, fi_hpf_ne, fl_hpf_ne, ar_hpa_ne, hpa_hpa, hpf_hpf, nI_1, two_ne, fokZ, implies_true, Nat.reduceEqDiff, g_29_1, rc_16, g_3_4, rc_8, g_16_4, rc_21, rc_29, rc_3, g_29_7, sf_29_7, fe_29_7, rc_4, rc_6, rc_10, rc_12, rc_14, rc_17, rc_19, rc_23, rc_25, rc_27, hF4.len, s4]
                refine C_num (d := d + 4) hP4 f4 (fun w t5 e5 H5 hF5 hP5 f5 => ?_) (fun c' p e5 v' H' hF hP hE => ?_)
                · rw [e5, eb_ok] at hok her
                  have s5 := hF5.shp
                  have hA5 := hA4.trans hF5
                  have hD5 := hD.of hA5
                  have aF := (hF3.trans hF4).trans hF5
                  have a20 : ar H5 20 = ar H2 20 := aF.arr (by decide)
                  have a22 : ar H5 22 = ar H2 22 := aF.arr (by decide)
                  obtain ⟨w', hw, rfl⟩ := exI (k := 99) (pNum_ok hP4.1.2.2.2.2.2.2.2.1 e5).2.1 (pNum_ok hP4.1.2.2.2.2.2.2.2.1 e5).2.2 (by decide)
                  have dc := hD5.2.2.1.2.2.1
                  obtain ⟨hD9, hF9⟩ := DH_wall  hD5 h8 hc hsg (by rw [a20]; exact g0) (by rw [a20]; exact g1) (by rw [a22]; exact gno) hw
                  have hAA : FgD H _ := hA5.d.trans (hF9.mono (by decide) (by decide))
                  simp (maxDischargeDepth := 12) only [w42_0, w42_1, w42_2, w42_5, w42_8, w42_11, w42_12, w42_15, w42_16, w42_17, w42_20, w42_21, w42_24, w42_25, w42_26, w42_29, w42_30, w42_31, w42_34, w42_35, w42_36, w42_37, w42_40, w42_41, w42_44, w42_45, w42_48, w42_49, w42_52, w42_53, w42_54, w42_57, w42_60, w42_61, w42_62, w42_65, w42_66, w42_68, w42_71, w42_72, w42_75, w42_76, w42_78, w42_81, w42_82, w42_83, w42_85, w42_88, w42_90, w42_91, w42_94, w42_97, w42_98, w42_101, w42_104, w42_105, w42_106, w42_108, w42_109, w42_112, oK_some, cont_int, cont_intS, cont_none, cont_noneS, cont_long, cont_longS, true_and, and_true, false_and, and_false, true_implies, false_implies, not_true_eq_false, not_false_eq_true, eq_self, or_true, true_or, Option.isSome_some, hpf_length, hpa_length, bI_eq0, fi_hpa, fl_hpa, ar_hpf, fi_hpf_ne, fl_hpf_ne, ar_hpa_ne, hpa_hpa, hpf_hpf, nI_1, two_ne, fokZ, implies_true, Nat.reduceEqDiff, g_29_1, rc_16, g_3_4, rc_8, g_16_4, rc_21, rc_29, rc_3, g_29_7, sf_29_7, fe_29_7, rc_4, rc_6, rc_10, rc_12, rc_14, rc_17, rc_19, rc_23, rc_25, rc_27, hF5.len, s5, f5, c_add21 (d := d + 6) s5 dc hc]
                  exact hok _ _ rfl _ hAA (hP5.og hF9 (by decide) (by decide)) ((hF9.int (by decide) (by decide)).trans f5) ⟨_, _, _, _, _, _, hD9⟩
                · rw [e5, eb_er] at her
                  have hA := hA4.trans hF
                  have s := hF.shp
                  have x := hE.ne
                  have hN := (hD.of hA).nmp
                  have hDx := hD.of hA
                  have q := her _ _ rfl H' hA.d hE
                  have y3 : gfl H' 19 9 2 = some (.int (nI c3)) := by rw [g_19_2 s, hDx.2.2.1.2.1]
                  have y4 : gfl H' 21 9 2 = some (.int (nI c4)) := by rw [g_21_2 s, hDx.2.2.1.2.2.1]
                  have y7 : gfl H' 27 9 2 = some (.int (nI c7)) := by rw [g_27_2 s, hDx.2.2.1.2.2.2.2.2]
                  have l3 : (ar H' 20).length < 2147483648 := by rw [gn_20 s]; decide
                  have l4 : (ar H' 22).length < 2147483648 := by rw [gn_22 s]; decide
                  have l7 : (ar H' 28).length < 2147483648 := by rw [gn_28 s]; decide
                  simp (maxDischargeDepth := 12) only [w42_0, w42_1, w42_2, w42_5, w42_8, w42_11, w42_12, w42_15, w42_16, w42_17, w42_20, w42_21, w42_24, w42_25, w42_26, w42_29, w42_30, w42_31, w42_34, w42_35, w42_36, w42_37, w42_40, w42_41, w42_44, w42_45, w42_48, w42_49, w42_52, w42_53, w42_54, w42_57, w42_60, w42_61, w42_62, w42_65, w42_66, w42_68, w42_71, w42_72, w42_75, w42_76, w42_78, w42_81, w42_82, w42_83, w42_85, w42_88, w42_90, w42_91, w42_94, w42_97, w42_98, w42_101, w42_104, w42_105, w42_106, w42_108, w42_109, w42_112, oK_some, cont_int, cont_intS, cont_none, cont_noneS, cont_long, cont_longS, true_and, and_true, false_and, and_false, true_implies, false_implies, not_true_eq_false, not_false_eq_true, eq_self, or_true, true_or, Option.isSome_some, hpf_length, hpa_length, bI_eq0, fi_hpa, fl_hpa, ar_hpf, fi_hpf_ne, fl_hpf_ne, ar_hpa_ne, hpa_hpa, hpf_hpf, nI_1, two_ne, fokZ, implies_true, Nat.reduceEqDiff, g_29_1, rc_16, g_3_4, rc_8, g_16_4, rc_21, rc_29, rc_3, g_29_7, sf_29_7, fe_29_7, rc_4, rc_6, rc_10, rc_12, rc_14, rc_17, rc_19, rc_23, rc_25, rc_27, hF.len, s, x, c_takeF (d := d + 1) hP (show 17 < 19 by decide) x, c_numF (d := d + 4) hP x, c_whF (d := d + 5) hP x, c_advF (d := d + 5) s x, c_failF s x, c_rowHF (d := d) hP x hN, c_lineHere (d := d + 1) hP, c_named (d := d + 4) hP hN, c_kindHere (d := d + 1) hP, c_sightOf (d := d + 5) (g_16_3 s) (g_19_1 s) y3 (ga_20 s) l3 (by omega : c3 < 100000), c_wallOn (d := d + 5) (g_16_4 s) (g_21_1 s) y4 (ga_22 s) l4 (by omega : c4 < 100000), c_isSaid (d := d + 5) (g_16_7 s) (g_27_1 s) y7 (ga_28 s) l7 (by omega : c7 < 100000), q]
              · rw [e4, eb_er] at her
                have hA := hA3.trans hF
                have s := hF.shp
                have x := hE.ne
                have hN := (hD.of hA).nmp
                have hDx := hD.of hA
                have q := her _ _ rfl H' hA.d hE
                have y3 : gfl H' 19 9 2 = some (.int (nI c3)) := by rw [g_19_2 s, hDx.2.2.1.2.1]
                have y4 : gfl H' 21 9 2 = some (.int (nI c4)) := by rw [g_21_2 s, hDx.2.2.1.2.2.1]
                have y7 : gfl H' 27 9 2 = some (.int (nI c7)) := by rw [g_27_2 s, hDx.2.2.1.2.2.2.2.2]
                have l3 : (ar H' 20).length < 2147483648 := by rw [gn_20 s]; decide
                have l4 : (ar H' 22).length < 2147483648 := by rw [gn_22 s]; decide
                have l7 : (ar H' 28).length < 2147483648 := by rw [gn_28 s]; decide
                simp (maxDischargeDepth := 12) only [w42_0, w42_1, w42_2, w42_5, w42_8, w42_11, w42_12, w42_15, w42_16, w42_17, w42_20, w42_21, w42_24, w42_25, w42_26, w42_29, w42_30, w42_31, w42_34, w42_35, w42_36, w42_37, w42_40, w42_41, w42_44, w42_45, w42_48, w42_49, w42_52, w42_53, w42_54, w42_57, w42_60, w42_61, w42_62, w42_65, w42_66, w42_68, w42_71, w42_72, w42_75, w42_76, w42_78, w42_81, w42_82, w42_83, w42_85, w42_88, w42_90, w42_91, w42_94, w42_97, w42_98, w42_101, w42_104, w42_105, w42_106, w42_108, w42_109, w42_112, oK_some, cont_int, cont_intS, cont_none, cont_noneS, cont_long, cont_longS, true_and, and_true, false_and, and_false, true_implies, false_implies, not_true_eq_false, not_false_eq_true, eq_self, or_true, true_or, Option.isSome_some, hpf_length, hpa_length, bI_eq0, fi_hpa, fl_hpa, ar_hpf, fi_hpf_ne, fl_hpf_ne, ar_hpa_ne, hpa_hpa, hpf_hpf, nI_1, two_ne, fokZ, implies_true, Nat.reduceEqDiff, g_29_1, rc_16, g_3_4, rc_8, g_16_4, rc_21, rc_29, rc_3, g_29_7, sf_29_7, fe_29_7, rc_4, rc_6, rc_10, rc_12, rc_14, rc_17, rc_19, rc_23, rc_25, rc_27, hF.len, s, x, c_takeF (d := d + 1) hP (show 17 < 19 by decide) x, c_numF (d := d + 4) hP x, c_whF (d := d + 5) hP x, c_advF (d := d + 5) s x, c_failF s x, c_rowHF (d := d) hP x hN, c_lineHere (d := d + 1) hP, c_named (d := d + 4) hP hN, c_kindHere (d := d + 1) hP, c_sightOf (d := d + 5) (g_16_3 s) (g_19_1 s) y3 (ga_20 s) l3 (by omega : c3 < 100000), c_wallOn (d := d + 5) (g_16_4 s) (g_21_1 s) y4 (ga_22 s) l4 (by omega : c4 < 100000), c_isSaid (d := d + 5) (g_16_7 s) (g_27_1 s) y7 (ga_28 s) l7 (by omega : c7 < 100000), q]
          · have hz : rg R (30 + 7 * a + b) = 0 := see_zero hTb.2.2.1 hTb.2.2.2.2.2.2.2.2 b2 gn hre2 hre3
            have hq : ¬ wlh R a b c4 = true := wlh_no hTb.2.2.2.1 gn hab
            have gw : wOn (ar H2 22) c4 (-1) = -1 := wOn_m1 hTb.2.2.2.1 b3 b4
            rw [if_neg hq, if_pos hz] at her
            simp (maxDischargeDepth := 12) only [w42_0, w42_1, w42_2, w42_5, w42_8, w42_11, w42_12, w42_15, w42_16, w42_17, w42_20, w42_21, w42_24, w42_25, w42_26, w42_29, w42_30, w42_31, w42_34, w42_35, w42_36, w42_37, w42_40, w42_41, w42_44, w42_45, w42_48, w42_49, w42_52, w42_53, w42_54, w42_57, w42_60, w42_61, w42_62, w42_66, w42_68, w42_71, w42_72, w42_75, w42_76, w42_78, w42_81, w42_82, w42_83, w42_85, w42_88, w42_90, w42_91, w42_94, w42_97, w42_98, w42_101, w42_104, w42_105, w42_106, w42_108, w42_109, w42_112, oK_some, cont_int, cont_intS, cont_none, cont_noneS, cont_long, cont_longS, true_and, and_true, false_and, and_false, true_implies, false_implies, not_true_eq_false, not_false_eq_true, eq_self, or_true, true_or, Option.isSome_some, hpf_length, hpa_length, bI_eq0, fi_hpa, fl_hpa, ar_hpf, fi_hpf_ne, fl_hpf_ne, ar_hpa_ne, hpa_hpa, hpf_hpf, nI_1, two_ne, fokZ, implies_true, Nat.reduceEqDiff, g_29_1, rc_16, g_3_4, rc_8, g_16_4, rc_21, rc_29, rc_3, g_29_7, sf_29_7, fe_29_7, rc_4, rc_6, rc_10, rc_12, rc_14, rc_17, rc_19, rc_23, rc_25, rc_27, hF2.len, s2, ea, hab, c_sightOf (d := d + 5) (g_16_3 s2) (g_19_1 s2) y3 (ga_20 s2) l3 (by omega : c3 < 100000), c_wallOn (d := d + 5) (g_16_4 s2) (g_21_1 s2) y4 (ga_22 s2) l4 (by omega : c4 < 100000), gs, gw]
            simp (maxDischargeDepth := 12) only [w42_0, w42_1, w42_2, w42_5, w42_8, w42_11, w42_12, w42_15, w42_16, w42_17, w42_20, w42_21, w42_24, w42_25, w42_26, w42_29, w42_30, w42_31, w42_34, w42_35, w42_36, w42_37, w42_40, w42_41, w42_44, w42_45, w42_48, w42_49, w42_52, w42_53, w42_54, w42_57, w42_60, w42_61, w42_62, w42_65, w42_66, w42_68, w42_71, w42_72, w42_75, w42_76, w42_78, w42_81, w42_82, w42_83, w42_85, w42_88, w42_90, w42_91, w42_94, w42_97, w42_98, w42_101, w42_104, w42_105, w42_106, w42_108, w42_109, w42_112, oK_some, cont_int, cont_intS, cont_none, cont_noneS, cont_long, cont_longS, true_and, and_true, false_and, and_false, true_implies, false_implies, not_true_eq_false, not_false_eq_true, eq_self, or_true, true_or, Option.isSome_some, hpf_length, hpa_length, bI_eq0, fi_hpa, fl_hpa, ar_hpf, fi_hpf_ne, fl_hpf_ne, ar_hpa_ne, hpa_hpa, hpf_hpf, nI_1, two_ne, fokZ, implies_true, Nat.reduceEqDiff, g_29_1, rc_16, g_3_4, rc_8, g_16_4, rc_21, rc_29, rc_3, g_29_7, sf_29_7, fe_29_7, rc_4, rc_6, rc_10, rc_12, rc_14, rc_17, rc_19, rc_23, rc_25, rc_27, hF2.len, s2]
            refine C_fail hP2 f2 (by decide) (fun H' hF hP hE => ?_)
            have hA := hA2.trans hF
            have s := hF.shp
            have x := hE.ne
            have hN := (hD.of hA).nmp
            have hDx := hD.of hA
            have q := her _ _ rfl H' hA.d hE
            have y3 : gfl H' 19 9 2 = some (.int (nI c3)) := by rw [g_19_2 s, hDx.2.2.1.2.1]
            have y4 : gfl H' 21 9 2 = some (.int (nI c4)) := by rw [g_21_2 s, hDx.2.2.1.2.2.1]
            have y7 : gfl H' 27 9 2 = some (.int (nI c7)) := by rw [g_27_2 s, hDx.2.2.1.2.2.2.2.2]
            have l3 : (ar H' 20).length < 2147483648 := by rw [gn_20 s]; decide
            have l4 : (ar H' 22).length < 2147483648 := by rw [gn_22 s]; decide
            have l7 : (ar H' 28).length < 2147483648 := by rw [gn_28 s]; decide
            simp (maxDischargeDepth := 12) only [w42_0, w42_1, w42_2, w42_5, w42_8, w42_11, w42_12, w42_15, w42_16, w42_17, w42_20, w42_21, w42_24, w42_25, w42_26, w42_29, w42_30, w42_31, w42_34, w42_35, w42_36, w42_37, w42_40, w42_41, w42_44, w42_45, w42_48, w42_49, w42_52, w42_53, w42_54, w42_57, w42_60, w42_61, w42_62, w42_65, w42_66, w42_68, w42_71, w42_72, w42_75, w42_76, w42_78, w42_81, w42_82, w42_83, w42_85, w42_88, w42_90, w42_91, w42_94, w42_97, w42_98, w42_101, w42_104, w42_105, w42_106, w42_108, w42_109, w42_112, oK_some, cont_int, cont_intS, cont_none, cont_noneS, cont_long, cont_longS, true_and, and_true, false_and, and_false, true_implies, false_implies, not_true_eq_false, not_false_eq_true, eq_self, or_true, true_or, Option.isSome_some, hpf_length, hpa_length, bI_eq0, fi_hpa, fl_hpa, ar_hpf, fi_hpf_ne, fl_hpf_ne, ar_hpa_ne, hpa_hpa, hpf_hpf, nI_1, two_ne, fokZ, implies_true, Nat.reduceEqDiff, g_29_1, rc_16, g_3_4, rc_8, g_16_4, rc_21, rc_29, rc_3, g_29_7, sf_29_7, fe_29_7, rc_4, rc_6, rc_10, rc_12, rc_14, rc_17, rc_19, rc_23, rc_25, rc_27, hF.len, s, x, c_takeF (d := d + 1) hP (show 17 < 19 by decide) x, c_numF (d := d + 4) hP x, c_whF (d := d + 5) hP x, c_advF (d := d + 5) s x, c_failF s x, c_rowHF (d := d) hP x hN, c_lineHere (d := d + 1) hP, c_named (d := d + 4) hP hN, c_kindHere (d := d + 1) hP, c_sightOf (d := d + 5) (g_16_3 s) (g_19_1 s) y3 (ga_20 s) l3 (by omega : c3 < 100000), c_wallOn (d := d + 5) (g_16_4 s) (g_21_1 s) y4 (ga_22 s) l4 (by omega : c4 < 100000), c_isSaid (d := d + 5) (g_16_7 s) (g_27_1 s) y7 (ga_28 s) l7 (by omega : c7 < 100000), q]
      · rw [e3, eb_er] at her
        have hA := hA2.trans hF
        have s := hF.shp
        have x := hE.ne
        have hN := (hD.of hA).nmp
        have hDx := hD.of hA
        have q := her _ _ rfl H' hA.d hE
        have y3 : gfl H' 19 9 2 = some (.int (nI c3)) := by rw [g_19_2 s, hDx.2.2.1.2.1]
        have y4 : gfl H' 21 9 2 = some (.int (nI c4)) := by rw [g_21_2 s, hDx.2.2.1.2.2.1]
        have y7 : gfl H' 27 9 2 = some (.int (nI c7)) := by rw [g_27_2 s, hDx.2.2.1.2.2.2.2.2]
        have l3 : (ar H' 20).length < 2147483648 := by rw [gn_20 s]; decide
        have l4 : (ar H' 22).length < 2147483648 := by rw [gn_22 s]; decide
        have l7 : (ar H' 28).length < 2147483648 := by rw [gn_28 s]; decide
        simp (maxDischargeDepth := 12) only [w42_0, w42_1, w42_2, w42_5, w42_8, w42_11, w42_12, w42_15, w42_16, w42_17, w42_20, w42_21, w42_24, w42_25, w42_26, w42_29, w42_30, w42_31, w42_34, w42_35, w42_36, w42_37, w42_40, w42_41, w42_44, w42_45, w42_48, w42_49, w42_52, w42_53, w42_54, w42_57, w42_60, w42_61, w42_62, w42_65, w42_66, w42_68, w42_71, w42_72, w42_75, w42_76, w42_78, w42_81, w42_82, w42_83, w42_85, w42_88, w42_90, w42_91, w42_94, w42_97, w42_98, w42_101, w42_104, w42_105, w42_106, w42_108, w42_109, w42_112, oK_some, cont_int, cont_intS, cont_none, cont_noneS, cont_long, cont_longS, true_and, and_true, false_and, and_false, true_implies, false_implies, not_true_eq_false, not_false_eq_true, eq_self, or_true, true_or, Option.isSome_some, hpf_length, hpa_length, bI_eq0, fi_hpa, fl_hpa, ar_hpf, fi_hpf_ne, fl_hpf_ne, ar_hpa_ne, hpa_hpa, hpf_hpf, nI_1, two_ne, fokZ, implies_true, Nat.reduceEqDiff, g_29_1, rc_16, g_3_4, rc_8, g_16_4, rc_21, rc_29, rc_3, g_29_7, sf_29_7, fe_29_7, rc_4, rc_6, rc_10, rc_12, rc_14, rc_17, rc_19, rc_23, rc_25, rc_27, hF.len, s, x, c_takeF (d := d + 1) hP (show 17 < 19 by decide) x, c_numF (d := d + 4) hP x, c_whF (d := d + 5) hP x, c_advF (d := d + 5) s x, c_failF s x, c_rowHF (d := d) hP x hN, c_lineHere (d := d + 1) hP, c_named (d := d + 4) hP hN, c_kindHere (d := d + 1) hP, c_sightOf (d := d + 5) (g_16_3 s) (g_19_1 s) y3 (ga_20 s) l3 (by omega : c3 < 100000), c_wallOn (d := d + 5) (g_16_4 s) (g_21_1 s) y4 (ga_22 s) l4 (by omega : c4 < 100000), c_isSaid (d := d + 5) (g_16_7 s) (g_27_1 s) y7 (ga_28 s) l7 (by omega : c7 < 100000), q]
    · rw [e2, eb_er] at her
      have hA := hA1.trans hF
      have s := hF.shp
      have x := hE.ne
      have hN := (hD.of hA).nmp
      have hDx := hD.of hA
      have q := her _ _ rfl H' hA.d hE
      have y3 : gfl H' 19 9 2 = some (.int (nI c3)) := by rw [g_19_2 s, hDx.2.2.1.2.1]
      have y4 : gfl H' 21 9 2 = some (.int (nI c4)) := by rw [g_21_2 s, hDx.2.2.1.2.2.1]
      have y7 : gfl H' 27 9 2 = some (.int (nI c7)) := by rw [g_27_2 s, hDx.2.2.1.2.2.2.2.2]
      have l3 : (ar H' 20).length < 2147483648 := by rw [gn_20 s]; decide
      have l4 : (ar H' 22).length < 2147483648 := by rw [gn_22 s]; decide
      have l7 : (ar H' 28).length < 2147483648 := by rw [gn_28 s]; decide
      simp (maxDischargeDepth := 12) only [w42_0, w42_1, w42_2, w42_5, w42_8, w42_11, w42_12, w42_15, w42_16, w42_17, w42_20, w42_21, w42_24, w42_25, w42_26, w42_29, w42_30, w42_31, w42_34, w42_35, w42_36, w42_37, w42_40, w42_41, w42_44, w42_45, w42_48, w42_49, w42_52, w42_53, w42_54, w42_57, w42_60, w42_61, w42_62, w42_65, w42_66, w42_68, w42_71, w42_72, w42_75, w42_76, w42_78, w42_81, w42_82, w42_83, w42_85, w42_88, w42_90, w42_91, w42_94, w42_97, w42_98, w42_101, w42_104, w42_105, w42_106, w42_108, w42_109, w42_112, oK_some, cont_int, cont_intS, cont_none, cont_noneS, cont_long, cont_longS, true_and, and_true, false_and, and_false, true_implies, false_implies, not_true_eq_false, not_false_eq_true, eq_self, or_true, true_or, Option.isSome_some, hpf_length, hpa_length, bI_eq0, fi_hpa, fl_hpa, ar_hpf, fi_hpf_ne, fl_hpf_ne, ar_hpa_ne, hpa_hpa, hpf_hpf, nI_1, two_ne, fokZ, implies_true, Nat.reduceEqDiff, g_29_1, rc_16, g_3_4, rc_8, g_16_4, rc_21, rc_29, rc_3, g_29_7, sf_29_7, fe_29_7, rc_4, rc_6, rc_10, rc_12, rc_14, rc_17, rc_19, rc_23, rc_25, rc_27, hF.len, s, x, c_takeF (d := d + 1) hP (show 17 < 19 by decide) x, c_numF (d := d + 4) hP x, c_whF (d := d + 5) hP x, c_advF (d := d + 5) s x, c_failF s x, c_rowHF (d := d) hP x hN, c_lineHere (d := d + 1) hP, c_named (d := d + 4) hP hN, c_kindHere (d := d + 1) hP, c_sightOf (d := d + 5) (g_16_3 s) (g_19_1 s) y3 (ga_20 s) l3 (by omega : c3 < 100000), c_wallOn (d := d + 5) (g_16_4 s) (g_21_1 s) y4 (ga_22 s) l4 (by omega : c4 < 100000), c_isSaid (d := d + 5) (g_16_7 s) (g_27_1 s) y7 (ga_28 s) l7 (by omega : c7 < 100000), q]
  · rw [e1, eb_er] at her
    have hA := hA0.trans hF
    have s := hF.shp
    have x := hE.ne
    have hN := (hD.of hA).nmp
    have hDx := hD.of hA
    have q := her _ _ rfl H' hA.d hE
    have y3 : gfl H' 19 9 2 = some (.int (nI c3)) := by rw [g_19_2 s, hDx.2.2.1.2.1]
    have y4 : gfl H' 21 9 2 = some (.int (nI c4)) := by rw [g_21_2 s, hDx.2.2.1.2.2.1]
    have y7 : gfl H' 27 9 2 = some (.int (nI c7)) := by rw [g_27_2 s, hDx.2.2.1.2.2.2.2.2]
    have l3 : (ar H' 20).length < 2147483648 := by rw [gn_20 s]; decide
    have l4 : (ar H' 22).length < 2147483648 := by rw [gn_22 s]; decide
    have l7 : (ar H' 28).length < 2147483648 := by rw [gn_28 s]; decide
    simp (maxDischargeDepth := 12) only [w42_0, w42_1, w42_2, w42_5, w42_8, w42_11, w42_12, w42_15, w42_16, w42_17, w42_20, w42_21, w42_24, w42_25, w42_26, w42_29, w42_30, w42_31, w42_34, w42_35, w42_36, w42_37, w42_40, w42_41, w42_44, w42_45, w42_48, w42_49, w42_52, w42_53, w42_54, w42_57, w42_60, w42_61, w42_62, w42_65, w42_66, w42_68, w42_71, w42_72, w42_75, w42_76, w42_78, w42_81, w42_82, w42_83, w42_85, w42_88, w42_90, w42_91, w42_94, w42_97, w42_98, w42_101, w42_104, w42_105, w42_106, w42_108, w42_109, w42_112, oK_some, cont_int, cont_intS, cont_none, cont_noneS, cont_long, cont_longS, true_and, and_true, false_and, and_false, true_implies, false_implies, not_true_eq_false, not_false_eq_true, eq_self, or_true, true_or, Option.isSome_some, hpf_length, hpa_length, bI_eq0, fi_hpa, fl_hpa, ar_hpf, fi_hpf_ne, fl_hpf_ne, ar_hpa_ne, hpa_hpa, hpf_hpf, nI_1, two_ne, fokZ, implies_true, Nat.reduceEqDiff, g_29_1, rc_16, g_3_4, rc_8, g_16_4, rc_21, rc_29, rc_3, g_29_7, sf_29_7, fe_29_7, rc_4, rc_6, rc_10, rc_12, rc_14, rc_17, rc_19, rc_23, rc_25, rc_27, hF.len, s, x, c_takeF (d := d + 1) hP (show 17 < 19 by decide) x, c_numF (d := d + 4) hP x, c_whF (d := d + 5) hP x, c_advF (d := d + 5) s x, c_failF s x, c_rowHF (d := d) hP x hN, c_lineHere (d := d + 1) hP, c_named (d := d + 4) hP hN, c_kindHere (d := d + 1) hP, c_sightOf (d := d + 5) (g_16_3 s) (g_19_1 s) y3 (ga_20 s) l3 (by omega : c3 < 100000), c_wallOn (d := d + 5) (g_16_4 s) (g_21_1 s) y4 (ga_22 s) l4 (by omega : c4 < 100000), c_isSaid (d := d + 5) (g_16_7 s) (g_27_1 s) y7 (ga_28 s) l7 (by omega : c7 < 100000), q]
end CLN2
