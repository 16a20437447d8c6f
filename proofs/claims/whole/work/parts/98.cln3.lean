/-! ===== reading: the class's lines: row, said ===== -/
section CLN3
variable {scr : List Int32} {d n c2 c3 c4 c5 c6 c7 : Nat} {t : Tk} {xs R : List Int32} {H : List AC} {Q : Option Value → List AC → Prop}
theorem C_readRow (h : CP H xs n t) (hf : fi H 29 7 = 0) (hD : DH H xs n R c2 c3 c4 c5 c6 c7) (h8 : ¬ rg R 8 = 0) (hok : ∀ R' t', eb (pBeg xs n R (decide (cn R 2 < 7)) t) (fun t1 => pRowL xs n R t1) = .ok (R', t') → ∀ H', FgD H H' → CP H' xs n t' → fi H' 29 7 = 0 → DHx H' xs n R' → Q none H') (her : ∀ c p, eb (pBeg xs n R (decide (cn R 2 < 7)) t) (fun t1 => pRowL xs n R t1) = .error (c, p) → ∀ H', FgD H H' → CE H' c p → Q none H') : Wp scr (d + 7) 40 0 [some (.ref 29), none, none, none, none] [] H Q := by
  have s0 := h.shp
  obtain ⟨m2, m3, m4, m5, m6, m7, b2, b3, b4, b5, b6, b7⟩ := hD.mn
  have hcn : cn R 2 = c2 := cn_eq m2 (by omega)
  unfold pRowL at hok her
  simp only [pAfter_eb, pRow_eb, eb_eb, eb_ok] at hok her
  rw [hcn] at hok her
  have htb : gfl H 17 9 0 = some (.int (nI 7)) := by rw [g_17_0 s0, hD.2.1.1]
  have htc : gfl H 17 9 2 = some (.int (nI c2)) := by rw [g_17_2 s0, hD.2.2.1.1]
  have hA0 : FgR H H := Fg.rfl' s0
  have hD0 := hD
  have hP0 := h
  have f0 := hf
  simp (maxDischargeDepth := 12) only [w40_0, w40_1, w40_2, w40_5, w40_8, w40_11, w40_12, w40_15, w40_16, w40_17, w40_20, w40_21, w40_24, w40_25, w40_28, w40_31, w40_32, w40_33, w40_36, w40_39, w40_40, w40_43, w40_44, w40_47, w40_48, w40_49, w40_52, w40_53, w40_56, w40_57, w40_60, w40_61, w40_62, w40_63, w40_66, w40_67, w40_68, w40_71, w40_72, w40_75, w40_76, w40_78, w40_81, w40_82, w40_83, w40_85, w40_88, w40_89, w40_90, w40_92, w40_95, w40_96, w40_97, w40_99, w40_102, w40_104, w40_105, w40_108, w40_111, w40_112, w40_115, w40_118, w40_119, w40_120, w40_122, w40_123, w40_126, oK_some, cont_int, cont_intS, cont_none, cont_noneS, cont_long, cont_longS, true_and, and_true, false_and, and_false, true_implies, false_implies, not_true_eq_false, not_false_eq_true, eq_self, or_true, true_or, Option.isSome_some, hpf_length, hpa_length, bI_eq0, fi_hpa, fl_hpa, ar_hpf, fi_hpf_ne, fl_hpf_ne, ar_hpa_ne, hpa_hpa, hpf_hpf, nI_1, two_ne, fokZ, implies_true, Nat.reduceEqDiff, g_29_1, rc_16, g_3_2, rc_4, g_16_2, rc_17, rc_29, g_29_3, sf_29_3, fe_29_3, g_29_5, sf_29_5, fe_29_5, g_29_7, sf_29_7, fe_29_7, rc_6, rc_8, rc_10, rc_12, rc_14, rc_19, rc_21, rc_23, rc_25, rc_27, s0]
  refine C_enter (d := d + 4) h hf htb htc (by decide) (by omega) h8 (fun t1 e1 H1 hF1 hP1 f1 => ?_) (fun c' p e1 H' hF hP hE => ?_)
  · rw [e1, eb_ok] at hok her
    have s1 := hF1.shp
    have hA1 := hA0.trans hF1
    have hD1 := hD.of hA1
    have hc := of_decide_eq_true (pBeg_ok h.1.2.2.2.2.2.2.2.1 e1).2.1
    unfold pNew at hok her
    have f5 : (fi H1 29 5 = 1) = (t1.2.2 = 1) := hP1.so (k := 1) (by decide)
    have g3 : fi H1 29 3 = nI t1.1 := hP1.1.2.2.2.1
    have W1 : pName xs t1 = false → Wp scr (d + 7) 40 31 [some (.ref 29), some (.int (nI t1.1)), none, none, none] [] H1 Q := fun hq => by
      rw [hq, if_neg (by decide), eb_er] at her
      simp (maxDischargeDepth := 12) only [w40_0, w40_1, w40_2, w40_5, w40_8, w40_11, w40_12, w40_15, w40_16, w40_17, w40_20, w40_21, w40_24, w40_25, w40_28, w40_31, w40_32, w40_33, w40_36, w40_39, w40_40, w40_43, w40_44, w40_47, w40_48, w40_49, w40_52, w40_53, w40_56, w40_57, w40_60, w40_61, w40_62, w40_63, w40_66, w40_67, w40_68, w40_71, w40_72, w40_75, w40_76, w40_78, w40_81, w40_82, w40_83, w40_85, w40_88, w40_89, w40_90, w40_92, w40_95, w40_96, w40_97, w40_99, w40_102, w40_104, w40_105, w40_108, w40_111, w40_112, w40_115, w40_118, w40_119, w40_120, w40_122, w40_123, w40_126, oK_some, cont_int, cont_intS, cont_none, cont_noneS, cont_long, cont_longS, true_and, and_true, false_and, and_false, true_implies, false_implies, not_true_eq_false, not_false_eq_true, eq_self, or_true, true_or, Option.isSome_some, hpf_length, hpa_length, bI_eq0, fi_hpa, fl_hpa, ar_hpf, fi_hpf_ne, fl_hpf_ne, ar_hpa_ne, hpa_hpa, hpf_hpf, nI_1, two_ne, fokZ, implies_true, Nat.reduceEqDiff, g_29_1, rc_16, g_3_2, rc_4, g_16_2, rc_17, rc_29, g_29_3, sf_29_3, fe_29_3, g_29_5, sf_29_5, fe_29_5, g_29_7, sf_29_7, fe_29_7, rc_6, rc_8, rc_10, rc_12, rc_14, rc_19, rc_21, rc_23, rc_25, rc_27, s1]
      refine C_fail hP1 f1 (by decide) (fun H' hF hP hE => ?_)
      have hA := hA1.trans hF
      have s := hF.shp
      have x := hE.ne
      have hN := (hD.of hA).nmp
      have hDx := hD.of hA
      have q := her _ _ rfl H' hA.d hE
      have y3 : gfl H' 19 9 2 = some (.int (nI c3)) := by rw [g_19_2 s, hDx.2.2.1.2.1]
      have y4 : gfl H' 21 9 2 = some (.int (nI c4)) := by rw [g_21_2 s, hDx.2.2.1.2.2.1]
      have y7 : gfl H' 27 9 2 = some (.int (nI c7)) := by rw [g_27_2 s, hDx.2.2.1.2.2.2.2.2]
      have l3 : (ar H' 20).length < 2147483648 := by rw [gn_20 s]; decide
      have l4 : (ar H' 22).length < 2147483648 := by rw [gn_22 s]; decide
      have l7 : (ar H' 28).length < 2147483648 := by rw [gn_28 s]; decide
      simp (maxDischargeDepth := 12) only [w40_0, w40_1, w40_2, w40_5, w40_8, w40_11, w40_12, w40_15, w40_16, w40_17, w40_20, w40_21, w40_24, w40_25, w40_28, w40_31, w40_32, w40_33, w40_36, w40_39, w40_40, w40_43, w40_44, w40_47, w40_48, w40_49, w40_52, w40_53, w40_56, w40_57, w40_60, w40_61, w40_62, w40_63, w40_66, w40_67, w40_68, w40_71, w40_72, w40_75, w40_76, w40_78, w40_81, w40_82, w40_83, w40_85, w40_88, w40_89, w40_90, w40_92, w40_95, w40_96, w40_97, w40_99, w40_102, w40_104, w40_105, w40_108, w40_111, w40_112, w40_115, w40_118, w40_119, w40_120, w40_122, w40_123, w40_126, oK_some, cont_int, cont_intS, cont_none, cont_noneS, cont_long, cont_longS, true_and, and_true, false_and, and_false, true_implies, false_implies, not_true_eq_false, not_false_eq_true, eq_self, or_true, true_or, Option.isSome_some, hpf_length, hpa_length, bI_eq0, fi_hpa, fl_hpa, ar_hpf, fi_hpf_ne, fl_hpf_ne, ar_hpa_ne, hpa_hpa, hpf_hpf, nI_1, two_ne, fokZ, implies_true, Nat.reduceEqDiff, g_29_1, rc_16, g_3_2, rc_4, g_16_2, rc_17, rc_29, g_29_3, sf_29_3, fe_29_3, g_29_5, sf_29_5, fe_29_5, g_29_7, sf_29_7, fe_29_7, rc_6, rc_8, rc_10, rc_12, rc_14, rc_19, rc_21, rc_23, rc_25, rc_27, hF.len, s, x, c_takeF (d := d + 1) hP (show 14 < 19 by decide) x, c_takeF (d := d + 1) hP (show 15 < 19 by decide) x, c_numF (d := d + 4) hP x, c_whF (d := d + 5) hP x, c_advF (d := d + 5) s x, c_failF s x, c_rowHF (d := d) hP x hN, c_lineHere (d := d + 1) hP, c_named (d := d + 4) hP hN, c_kindHere (d := d + 1) hP, c_sightOf (d := d + 5) (g_16_3 s) (g_19_1 s) y3 (ga_20 s) l3 (by omega : c3 < 100000), c_wallOn (d := d + 5) (g_16_4 s) (g_21_1 s) y4 (ga_22 s) l4 (by omega : c4 < 100000), c_isSaid (d := d + 5) (g_16_7 s) (g_27_1 s) y7 (ga_28 s) l7 (by omega : c7 < 100000), q]
    by_cases h1 : t1.2.2 = 1
    · cases hk : isKey xs t1
      · have hpn : pName xs t1 = true := by unfold pName; rw [decide_eq_true h1, hk]; rfl
        have hk' : (nI (lnK xs t1) = 0) = True := by rw [lnK_key, hk]; exact eq_true rfl
        have et := hP1.1.2.2.2.2.2.2.2.2
        rw [hP1.2] at et
        have hwl := wlt_of et h1
        rw [hpn, if_pos rfl, find_eq hD1.nmr hD1.n9 b2 hwl] at hok her
        cases ef : nmH xs (ar H1 18) t1 c2 with
        | some i =>
          rw [ef] at her
          have er : ∀ c p, Except.error (3, t1.1) = Except.error (c, p) → ∀ H', FgD H H' → CE H' c p → Q none H' := her
          have hi := nmH_lt _ _ ef
          simp (maxDischargeDepth := 12) only [w40_0, w40_1, w40_2, w40_5, w40_8, w40_11, w40_12, w40_15, w40_16, w40_17, w40_20, w40_21, w40_24, w40_25, w40_28, w40_32, w40_33, w40_36, w40_39, w40_40, w40_43, w40_44, w40_47, w40_48, w40_49, w40_52, w40_53, w40_56, w40_57, w40_60, w40_61, w40_62, w40_63, w40_66, w40_67, w40_68, w40_71, w40_72, w40_75, w40_76, w40_78, w40_81, w40_82, w40_83, w40_85, w40_88, w40_89, w40_90, w40_92, w40_95, w40_96, w40_97, w40_99, w40_102, w40_104, w40_105, w40_108, w40_111, w40_112, w40_115, w40_118, w40_119, w40_120, w40_122, w40_123, w40_126, oK_some, cont_int, cont_intS, cont_none, cont_noneS, cont_long, cont_longS, true_and, and_true, false_and, and_false, true_implies, false_implies, not_true_eq_false, not_false_eq_true, eq_self, or_true, true_or, Option.isSome_some, hpf_length, hpa_length, bI_eq0, fi_hpa, fl_hpa, ar_hpf, fi_hpf_ne, fl_hpf_ne, ar_hpa_ne, hpa_hpa, hpf_hpf, nI_1, two_ne, fokZ, implies_true, Nat.reduceEqDiff, g_29_1, rc_16, g_3_2, rc_4, g_16_2, rc_17, rc_29, g_29_3, sf_29_3, fe_29_3, g_29_5, sf_29_5, fe_29_5, g_29_7, sf_29_7, fe_29_7, rc_6, rc_8, rc_10, rc_12, rc_14, rc_19, rc_21, rc_23, rc_25, rc_27, hF1.len, s1, f5, h1, g3, c_lineHere (d := d + 1) hP1, hk', c_named (d := d + 4) hP1 hD1.nmp, ef, fdI_m1 (show i < 7 by omega)]
          refine C_fail hP1 f1 (by decide) (fun H' hF hP hE => ?_)
          have hA := hA1.trans hF
          have her := er
          have s := hF.shp
          have x := hE.ne
          have hN := (hD.of hA).nmp
          have hDx := hD.of hA
          have q := her _ _ rfl H' hA.d hE
          have y3 : gfl H' 19 9 2 = some (.int (nI c3)) := by rw [g_19_2 s, hDx.2.2.1.2.1]
          have y4 : gfl H' 21 9 2 = some (.int (nI c4)) := by rw [g_21_2 s, hDx.2.2.1.2.2.1]
          have y7 : gfl H' 27 9 2 = some (.int (nI c7)) := by rw [g_27_2 s, hDx.2.2.1.2.2.2.2.2]
          have l3 : (ar H' 20).length < 2147483648 := by rw [gn_20 s]; decide
          have l4 : (ar H' 22).length < 2147483648 := by rw [gn_22 s]; decide
          have l7 : (ar H' 28).length < 2147483648 := by rw [gn_28 s]; decide
          simp (maxDischargeDepth := 12) only [w40_0, w40_1, w40_2, w40_5, w40_8, w40_11, w40_12, w40_15, w40_16, w40_17, w40_20, w40_21, w40_24, w40_25, w40_28, w40_31, w40_32, w40_33, w40_36, w40_39, w40_40, w40_43, w40_44, w40_47, w40_48, w40_49, w40_52, w40_53, w40_56, w40_57, w40_60, w40_61, w40_62, w40_63, w40_66, w40_67, w40_68, w40_71, w40_72, w40_75, w40_76, w40_78, w40_81, w40_82, w40_83, w40_85, w40_88, w40_89, w40_90, w40_92, w40_95, w40_96, w40_97, w40_99, w40_102, w40_104, w40_105, w40_108, w40_111, w40_112, w40_115, w40_118, w40_119, w40_120, w40_122, w40_123, w40_126, oK_some, cont_int, cont_intS, cont_none, cont_noneS, cont_long, cont_longS, true_and, and_true, false_and, and_false, true_implies, false_implies, not_true_eq_false, not_false_eq_true, eq_self, or_true, true_or, Option.isSome_some, hpf_length, hpa_length, bI_eq0, fi_hpa, fl_hpa, ar_hpf, fi_hpf_ne, fl_hpf_ne, ar_hpa_ne, hpa_hpa, hpf_hpf, nI_1, two_ne, fokZ, implies_true, Nat.reduceEqDiff, g_29_1, rc_16, g_3_2, rc_4, g_16_2, rc_17, rc_29, g_29_3, sf_29_3, fe_29_3, g_29_5, sf_29_5, fe_29_5, g_29_7, sf_29_7, fe_29_7, rc_6, rc_8, rc_10, rc_12, rc_14, rc_19, rc_21, rc_23, rc_25, rc_27, hF.len, s, x, c_takeF (d := d + 1) hP (show 14 < 19 by decide) x, c_takeF (d := d + 1) hP (show 15 < 19 by decide) x, c_numF (d := d + 4) hP x, c_whF (d := d + 5) hP x, c_advF (d := d + 5) s x, c_failF s x, c_rowHF (d := d) hP x hN, c_lineHere (d := d + 1) hP, c_named (d := d + 4) hP hN, c_kindHere (d := d + 1) hP, c_sightOf (d := d + 5) (g_16_3 s) (g_19_1 s) y3 (ga_20 s) l3 (by omega : c3 < 100000), c_wallOn (d := d + 5) (g_16_4 s) (g_21_1 s) y4 (ga_22 s) l4 (by omega : c4 < 100000), c_isSaid (d := d + 5) (g_16_7 s) (g_27_1 s) y7 (ga_28 s) l7 (by omega : c7 < 100000), q]
        | none =>
          rw [ef] at hok her
          simp only [eb_ok] at hok her
          simp (maxDischargeDepth := 12) only [w40_0, w40_1, w40_2, w40_5, w40_8, w40_11, w40_12, w40_15, w40_16, w40_17, w40_20, w40_21, w40_24, w40_25, w40_28, w40_31, w40_32, w40_33, w40_36, w40_39, w40_40, w40_43, w40_44, w40_47, w40_48, w40_49, w40_52, w40_53, w40_56, w40_57, w40_60, w40_61, w40_62, w40_63, w40_66, w40_67, w40_68, w40_71, w40_72, w40_75, w40_76, w40_78, w40_81, w40_82, w40_83, w40_85, w40_88, w40_89, w40_90, w40_92, w40_95, w40_96, w40_97, w40_99, w40_102, w40_104, w40_105, w40_108, w40_111, w40_112, w40_115, w40_118, w40_119, w40_120, w40_122, w40_123, w40_126, oK_some, cont_int, cont_intS, cont_none, cont_noneS, cont_long, cont_longS, true_and, and_true, false_and, and_false, true_implies, false_implies, not_true_eq_false, not_false_eq_true, eq_self, or_true, true_or, Option.isSome_some, hpf_length, hpa_length, bI_eq0, fi_hpa, fl_hpa, ar_hpf, fi_hpf_ne, fl_hpf_ne, ar_hpa_ne, hpa_hpa, hpf_hpf, nI_1, two_ne, fokZ, implies_true, Nat.reduceEqDiff, g_29_1, rc_16, g_3_2, rc_4, g_16_2, rc_17, rc_29, g_29_3, sf_29_3, fe_29_3, g_29_5, sf_29_5, fe_29_5, g_29_7, sf_29_7, fe_29_7, rc_6, rc_8, rc_10, rc_12, rc_14, rc_19, rc_21, rc_23, rc_25, rc_27, hF1.len, s1, f5, h1, g3, c_lineHere (d := d + 1) hP1, hk', c_named (d := d + 4) hP1 hD1.nmp, ef, show (fdI none = -1) = True from eq_true rfl]
          refine C_nx (d := d + 5) hP1 f1 (fun H2 hF2 hP2 f2 => ?_)
          have s2 := hF2.shp
          have hA2 := hA1.trans hF2
          have hD2 := hD.of hA2
          cases ek : pKind xs (tk xs n t1.2.1) with
          | none =>
            rw [ek] at her
            have er : ∀ c p, Except.error (1, (tk xs n t1.2.1).1) = Except.error (c, p) → ∀ H', FgD H H' → CE H' c p → Q none H' := her
            simp (maxDischargeDepth := 12) only [w40_0, w40_1, w40_2, w40_5, w40_8, w40_11, w40_12, w40_15, w40_16, w40_17, w40_20, w40_21, w40_24, w40_25, w40_28, w40_31, w40_32, w40_33, w40_36, w40_39, w40_40, w40_43, w40_44, w40_47, w40_48, w40_49, w40_52, w40_53, w40_56, w40_57, w40_60, w40_61, w40_62, w40_63, w40_66, w40_67, w40_68, w40_71, w40_72, w40_75, w40_76, w40_78, w40_81, w40_82, w40_83, w40_85, w40_88, w40_89, w40_90, w40_92, w40_95, w40_96, w40_97, w40_99, w40_102, w40_104, w40_105, w40_108, w40_111, w40_112, w40_115, w40_118, w40_119, w40_120, w40_122, w40_123, w40_126, oK_some, cont_int, cont_intS, cont_none, cont_noneS, cont_long, cont_longS, true_and, and_true, false_and, and_false, true_implies, false_implies, not_true_eq_false, not_false_eq_true, eq_self, or_true, true_or, Option.isSome_some, hpf_length, hpa_length, bI_eq0, fi_hpa, fl_hpa, ar_hpf, fi_hpf_ne, fl_hpf_ne, ar_hpa_ne, hpa_hpa, hpf_hpf, nI_1, two_ne, fokZ, implies_true, Nat.reduceEqDiff, g_29_1, rc_16, g_3_2, rc_4, g_16_2, rc_17, rc_29, g_29_3, sf_29_3, fe_29_3, g_29_5, sf_29_5, fe_29_5, g_29_7, sf_29_7, fe_29_7, rc_6, rc_8, rc_10, rc_12, rc_14, rc_19, rc_21, rc_23, rc_25, rc_27, hF2.len, s2, c_kindHere (d := d + 1) hP2, ek, show (fdI none = -1) = True from eq_true rfl]
            refine C_fail hP2 f2 (by decide) (fun H' hF hP hE => ?_)
            have hA := hA2.trans hF
            have her := er
            have s := hF.shp
            have x := hE.ne
            have hN := (hD.of hA).nmp
            have hDx := hD.of hA
            have q := her _ _ rfl H' hA.d hE
            have y3 : gfl H' 19 9 2 = some (.int (nI c3)) := by rw [g_19_2 s, hDx.2.2.1.2.1]
            have y4 : gfl H' 21 9 2 = some (.int (nI c4)) := by rw [g_21_2 s, hDx.2.2.1.2.2.1]
            have y7 : gfl H' 27 9 2 = some (.int (nI c7)) := by rw [g_27_2 s, hDx.2.2.1.2.2.2.2.2]
            have l3 : (ar H' 20).length < 2147483648 := by rw [gn_20 s]; decide
            have l4 : (ar H' 22).length < 2147483648 := by rw [gn_22 s]; decide
            have l7 : (ar H' 28).length < 2147483648 := by rw [gn_28 s]; decide
            simp (maxDischargeDepth := 12) only [w40_0, w40_1, w40_2, w40_5, w40_8, w40_11, w40_12, w40_15, w40_16, w40_17, w40_20, w40_21, w40_24, w40_25, w40_28, w40_31, w40_32, w40_33, w40_36, w40_39, w40_40, w40_43, w40_44, w40_47, w40_48, w40_49, w40_52, w40_53, w40_56, w40_57, w40_60, w40_61, w40_62, w40_63, w40_66, w40_67, w40_68, w40_71, w40_72, w40_75, w40_76, w40_78, w40_81, w40_82, w40_83, w40_85, w40_88, w40_89, w40_90, w40_92, w40_95, w40_96, w40_97, w40_99, w40_102, w40_104, w40_105, w40_108, w40_111, w40_112, w40_115, w40_118, w40_119, w40_120, w40_122, w40_123, w40_126, oK_some, cont_int, cont_intS, cont_none, cont_noneS, cont_long, cont_longS, true_and, and_true, false_and, and_false, true_implies, false_implies, not_true_eq_false, not_false_eq_true, eq_self, or_true, true_or, Option.isSome_some, hpf_length, hpa_length, bI_eq0, fi_hpa, fl_hpa, ar_hpf, fi_hpf_ne, fl_hpf_ne, ar_hpa_ne, hpa_hpa, hpf_hpf, nI_1, two_ne, fokZ, implies_true, Nat.reduceEqDiff, g_29_1, rc_16, g_3_2, rc_4, g_16_2, rc_17, rc_29, g_29_3, sf_29_3, fe_29_3, g_29_5, sf_29_5, fe_29_5, g_29_7, sf_29_7, fe_29_7, rc_6, rc_8, rc_10, rc_12, rc_14, rc_19, rc_21, rc_23, rc_25, rc_27, hF.len, s, x, c_takeF (d := d + 1) hP (show 14 < 19 by decide) x, c_takeF (d := d + 1) hP (show 15 < 19 by decide) x, c_numF (d := d + 4) hP x, c_whF (d := d + 5) hP x, c_advF (d := d + 5) s x, c_failF s x, c_rowHF (d := d) hP x hN, c_lineHere (d := d + 1) hP, c_named (d := d + 4) hP hN, c_kindHere (d := d + 1) hP, c_sightOf (d := d + 5) (g_16_3 s) (g_19_1 s) y3 (ga_20 s) l3 (by omega : c3 < 100000), c_wallOn (d := d + 5) (g_16_4 s) (g_21_1 s) y4 (ga_22 s) l4 (by omega : c4 < 100000), c_isSaid (d := d + 5) (g_16_7 s) (g_27_1 s) y7 (ga_28 s) l7 (by omega : c7 < 100000), q]
          | some kd =>
            rw [ek] at hok her
            have hkd := pKind_lt ek
            have hzz := kind_end hwl et h1 ek
            have ok2 : ∀ R' t', (eb (pWord xs n 14 (tk xs n (tk xs n t1.2.1).2.1)) fun q1 => eb (pNum xs n 0 30 q1) fun f => eb (pWord xs n 15 f.2) fun q2 => eb (pNum xs n 0 99 q2) fun g => (.ok ((((nmW xs R t1 c2).set (9 + 3 * c2) (nI kd)).set (9 + 3 * c2 + 1) f.1).set (9 + 3 * c2 + 2) g.1 |>.set 2 (nI (c2 + 1)), g.2) : Er (List Int32 × Tk))) = .ok (R', t') → ∀ H', FgD H H' → CP H' xs n t' → fi H' 29 7 = 0 → DHx H' xs n R' → Q none H' := hok
            have er2 : ∀ c p, (eb (pWord xs n 14 (tk xs n (tk xs n t1.2.1).2.1)) fun q1 => eb (pNum xs n 0 30 q1) fun f => eb (pWord xs n 15 f.2) fun q2 => eb (pNum xs n 0 99 q2) fun g => (.ok ((((nmW xs R t1 c2).set (9 + 3 * c2) (nI kd)).set (9 + 3 * c2 + 1) f.1).set (9 + 3 * c2 + 2) g.1 |>.set 2 (nI (c2 + 1)), g.2) : Er (List Int32 × Tk))) = .error (c, p) → ∀ H', FgD H H' → CE H' c p → Q none H' := her
            clear hok her
            have hok := ok2
            have her := er2
            clear ok2 er2
            simp (maxDischargeDepth := 12) only [w40_0, w40_1, w40_2, w40_5, w40_8, w40_11, w40_12, w40_15, w40_16, w40_17, w40_20, w40_21, w40_24, w40_25, w40_28, w40_31, w40_32, w40_33, w40_36, w40_39, w40_40, w40_43, w40_44, w40_47, w40_48, w40_49, w40_52, w40_53, w40_56, w40_57, w40_60, w40_61, w40_62, w40_63, w40_66, w40_67, w40_68, w40_71, w40_72, w40_75, w40_76, w40_78, w40_81, w40_82, w40_83, w40_85, w40_88, w40_89, w40_90, w40_92, w40_95, w40_96, w40_97, w40_99, w40_102, w40_104, w40_105, w40_108, w40_111, w40_112, w40_115, w40_118, w40_119, w40_120, w40_122, w40_123, w40_126, oK_some, cont_int, cont_intS, cont_none, cont_noneS, cont_long, cont_longS, true_and, and_true, false_and, and_false, true_implies, false_implies, not_true_eq_false, not_false_eq_true, eq_self, or_true, true_or, Option.isSome_some, hpf_length, hpa_length, bI_eq0, fi_hpa, fl_hpa, ar_hpf, fi_hpf_ne, fl_hpf_ne, ar_hpa_ne, hpa_hpa, hpf_hpf, nI_1, two_ne, fokZ, implies_true, Nat.reduceEqDiff, g_29_1, rc_16, g_3_2, rc_4, g_16_2, rc_17, rc_29, g_29_3, sf_29_3, fe_29_3, g_29_5, sf_29_5, fe_29_5, g_29_7, sf_29_7, fe_29_7, rc_6, rc_8, rc_10, rc_12, rc_14, rc_19, rc_21, rc_23, rc_25, rc_27, hF2.len, s2, c_kindHere (d := d + 1) hP2, ek, fdI_m1 (show kd < 7 by omega)]
            refine C_nx (d := d + 5) hP2 f2 (fun H3 hF3 hP3 f3 => ?_)
            have s3 := hF3.shp
            have hA3 := hA2.trans hF3
            have hD3 := hD.of hA3
            simp (maxDischargeDepth := 12) only [w40_0, w40_1, w40_2, w40_5, w40_8, w40_11, w40_12, w40_15, w40_16, w40_17, w40_20, w40_21, w40_24, w40_25, w40_28, w40_31, w40_32, w40_33, w40_36, w40_39, w40_40, w40_43, w40_44, w40_47, w40_48, w40_49, w40_52, w40_53, w40_56, w40_57, w40_60, w40_61, w40_62, w40_63, w40_66, w40_67, w40_68, w40_71, w40_72, w40_75, w40_76, w40_78, w40_81, w40_82, w40_83, w40_85, w40_88, w40_89, w40_90, w40_92, w40_95, w40_96, w40_97, w40_99, w40_102, w40_104, w40_105, w40_108, w40_111, w40_112, w40_115, w40_118, w40_119, w40_120, w40_122, w40_123, w40_126, oK_some, cont_int, cont_intS, cont_none, cont_noneS, cont_long, cont_longS, true_and, and_true, false_and, and_false, true_implies, false_implies, not_true_eq_false, not_false_eq_true, eq_self, or_true, true_or, Option.isSome_some, hpf_length, hpa_length, bI_eq0, fi_hpa, fl_hpa, ar_hpf, fi_hpf_ne, fl_hpf_ne, ar_hpa_ne, hpa_hpa, hpf_hpf, nI_1, two_ne, fokZ, implies_true, Nat.reduceEqDiff, g_29_1, rc_16, g_3_2, rc_4, g_16_2, rc_17, rc_29, g_29_3, sf_29_3, fe_29_3, g_29_5, sf_29_5, fe_29_5, g_29_7, sf_29_7, fe_29_7, rc_6, rc_8, rc_10, rc_12, rc_14, rc_19, rc_21, rc_23, rc_25, rc_27, hF3.len, s3]
            refine C_takeW (d := d + 1) hP3 f3 (by decide) (fun t4 e4 H4 hF4 hP4 f4 => ?_) (fun c' p e4 H' hF hP hE => ?_)
            · rw [e4, eb_ok] at hok her
              have s4 := hF4.shp
              have hA4 := hA3.trans hF4
              have hD4 := hD.of hA4
              simp (maxDischargeDepth := 12) only [w40_0, w40_1, w40_2, w40_5, w40_8, w40_11, w40_12, w40_15, w40_16, w40_17, w40_20, w40_21, w40_24, w40_25, w40_28, w40_31, w40_32, w40_33, w40_36, w40_39, w40_40, w40_43, w40_44, w40_47, w40_48, w40_49, w40_52, w40_53, w40_56, w40_57, w40_60, w40_61, w40_62, w40_63, w40_66, w40_67, w40_68, w40_71, w40_72, w40_75, w40_76, w40_78, w40_81, w40_82, w40_83, w40_85, w40_88, w40_89, w40_90, w40_92, w40_95, w40_96, w40_97, w40_99, w40_102, w40_104, w40_105, w40_108, w40_111, w40_112, w40_115, w40_118, w40_119, w40_120, w40_122, w40_123, w40_126, oK_some, cont_int, cont_intS, cont_none, cont_noneS, cont_long, cont_longS, true_and, and_true, false_and, and_false, true_implies, false_implies, not_true_eq_false, not_false_eq_true, eq_self, or_true, true_or, Option.isSome_some, hpf_length, hpa_length, bI_eq0, fi_hpa, fl_hpa, ar_hpf, fi_hpf_ne, fl_hpf_ne, ar_hpa_ne, hpa_hpa, hpf_hpf, nI_1, two_ne, fokZ, implies_true, Nat.reduceEqDiff, g_29_1, rc_16, g_3_2, rc_4, g_16_2, rc_17, rc_29, g_29_3, sf_29_3, fe_29_3, g_29_5, sf_29_5, fe_29_5, g_29_7, sf_29_7, fe_29_7, rc_6, rc_8, rc_10, rc_12, rc_14, rc_19, rc_21, rc_23, rc_25, rc_27, hF4.len, s4]
              refine C_num (d := d + 4) hP4 f4 (fun w1 t5 e5 H5 hF5 hP5 f5 => ?_) (fun c' p e5 v' H' hF hP hE => ?_)
              · rw [e5, eb_ok] at hok her
                have s5 := hF5.shp
                have hA5 := hA4.trans hF5
                have hD5 := hD.of hA5
                simp (maxDischargeDepth := 12) only [w40_0, w40_1, w40_2, w40_5, w40_8, w40_11, w40_12, w40_15, w40_16, w40_17, w40_20, w40_21, w40_24, w40_25, w40_28, w40_31, w40_32, w40_33, w40_36, w40_39, w40_40, w40_43, w40_44, w40_47, w40_48, w40_49, w40_52, w40_53, w40_56, w40_57, w40_60, w40_61, w40_62, w40_63, w40_66, w40_67, w40_68, w40_71, w40_72, w40_75, w40_76, w40_78, w40_81, w40_82, w40_83, w40_85, w40_88, w40_89, w40_90, w40_92, w40_95, w40_96, w40_97, w40_99, w40_102, w40_104, w40_105, w40_108, w40_111, w40_112, w40_115, w40_118, w40_119, w40_120, w40_122, w40_123, w40_126, oK_some, cont_int, cont_intS, cont_none, cont_noneS, cont_long, cont_longS, true_and, and_true, false_and, and_false, true_implies, false_implies, not_true_eq_false, not_false_eq_true, eq_self, or_true, true_or, Option.isSome_some, hpf_length, hpa_length, bI_eq0, fi_hpa, fl_hpa, ar_hpf, fi_hpf_ne, fl_hpf_ne, ar_hpa_ne, hpa_hpa, hpf_hpf, nI_1, two_ne, fokZ, implies_true, Nat.reduceEqDiff, g_29_1, rc_16, g_3_2, rc_4, g_16_2, rc_17, rc_29, g_29_3, sf_29_3, fe_29_3, g_29_5, sf_29_5, fe_29_5, g_29_7, sf_29_7, fe_29_7, rc_6, rc_8, rc_10, rc_12, rc_14, rc_19, rc_21, rc_23, rc_25, rc_27, hF5.len, s5]
                refine C_takeW (d := d + 1) hP5 f5 (by decide) (fun t6 e6 H6 hF6 hP6 f6 => ?_) (fun c' p e6 H' hF hP hE => ?_)
                · rw [e6, eb_ok] at hok her
                  have s6 := hF6.shp
                  have hA6 := hA5.trans hF6
                  have hD6 := hD.of hA6
                  simp (maxDischargeDepth := 12) only [w40_0, w40_1, w40_2, w40_5, w40_8, w40_11, w40_12, w40_15, w40_16, w40_17, w40_20, w40_21, w40_24, w40_25, w40_28, w40_31, w40_32, w40_33, w40_36, w40_39, w40_40, w40_43, w40_44, w40_47, w40_48, w40_49, w40_52, w40_53, w40_56, w40_57, w40_60, w40_61, w40_62, w40_63, w40_66, w40_67, w40_68, w40_71, w40_72, w40_75, w40_76, w40_78, w40_81, w40_82, w40_83, w40_85, w40_88, w40_89, w40_90, w40_92, w40_95, w40_96, w40_97, w40_99, w40_102, w40_104, w40_105, w40_108, w40_111, w40_112, w40_115, w40_118, w40_119, w40_120, w40_122, w40_123, w40_126, oK_some, cont_int, cont_intS, cont_none, cont_noneS, cont_long, cont_longS, true_and, and_true, false_and, and_false, true_implies, false_implies, not_true_eq_false, not_false_eq_true, eq_self, or_true, true_or, Option.isSome_some, hpf_length, hpa_length, bI_eq0, fi_hpa, fl_hpa, ar_hpf, fi_hpf_ne, fl_hpf_ne, ar_hpa_ne, hpa_hpa, hpf_hpf, nI_1, two_ne, fokZ, implies_true, Nat.reduceEqDiff, g_29_1, rc_16, g_3_2, rc_4, g_16_2, rc_17, rc_29, g_29_3, sf_29_3, fe_29_3, g_29_5, sf_29_5, fe_29_5, g_29_7, sf_29_7, fe_29_7, rc_6, rc_8, rc_10, rc_12, rc_14, rc_19, rc_21, rc_23, rc_25, rc_27, hF6.len, s6]
                  refine C_num (d := d + 4) hP6 f6 (fun w2 t7 e7 H7 hF7 hP7 f7 => ?_) (fun c' p e7 v' H' hF hP hE => ?_)
                  · rw [e7, eb_ok] at hok her
                    have s7 := hF7.shp
                    have hA7 := hA6.trans hF7
                    have hD7 := hD.of hA7
                    obtain ⟨w1', hw1, rfl⟩ := exI (k := 30) (pNum_ok hP4.1.2.2.2.2.2.2.2.1 e5).2.1 (pNum_ok hP4.1.2.2.2.2.2.2.2.1 e5).2.2 (by decide)
                    obtain ⟨w2', hw2, rfl⟩ := exI (k := 99) (pNum_ok hP6.1.2.2.2.2.2.2.2.1 e7).2.1 (pNum_ok hP6.1.2.2.2.2.2.2.2.1 e7).2.2 (by decide)
                    have dc := hD7.2.2.1.1
                    obtain ⟨hD9, hF9⟩ := DH_row  hD7 h8 hc hwl hzz.1 hzz.2 hkd hw1 hw2 hP1.1.2.2.2.2.2.2.2.1
                    have hAA : FgD H _ := hA7.d.trans (hF9.mono (by decide) (by decide))
                    simp (maxDischargeDepth := 12) only [w40_0, w40_1, w40_2, w40_5, w40_8, w40_11, w40_12, w40_15, w40_16, w40_17, w40_20, w40_21, w40_24, w40_25, w40_28, w40_31, w40_32, w40_33, w40_36, w40_39, w40_40, w40_43, w40_44, w40_47, w40_48, w40_49, w40_52, w40_53, w40_56, w40_57, w40_60, w40_61, w40_62, w40_63, w40_66, w40_67, w40_68, w40_71, w40_72, w40_75, w40_76, w40_78, w40_81, w40_82, w40_83, w40_85, w40_88, w40_89, w40_90, w40_92, w40_95, w40_96, w40_97, w40_99, w40_102, w40_104, w40_105, w40_108, w40_111, w40_112, w40_115, w40_118, w40_119, w40_120, w40_122, w40_123, w40_126, oK_some, cont_int, cont_intS, cont_none, cont_noneS, cont_long, cont_longS, true_and, and_true, false_and, and_false, true_implies, false_implies, not_true_eq_false, not_false_eq_true, eq_self, or_true, true_or, Option.isSome_some, hpf_length, hpa_length, bI_eq0, fi_hpa, fl_hpa, ar_hpf, fi_hpf_ne, fl_hpf_ne, ar_hpa_ne, hpa_hpa, hpf_hpf, nI_1, two_ne, fokZ, implies_true, Nat.reduceEqDiff, g_29_1, rc_16, g_3_2, rc_4, g_16_2, rc_17, rc_29, g_29_3, sf_29_3, fe_29_3, g_29_5, sf_29_5, fe_29_5, g_29_7, sf_29_7, fe_29_7, rc_6, rc_8, rc_10, rc_12, rc_14, rc_19, rc_21, rc_23, rc_25, rc_27, hF7.len, s7, f7, c_add17 (d := d + 6) s7 dc hc]
                    exact hok _ _ rfl _ hAA (hP7.og hF9 (by decide) (by decide)) ((hF9.int (by decide) (by decide)).trans f7) ⟨_, _, _, _, _, _, hD9⟩
                  · rw [e7, eb_er] at her
                    have hA := hA6.trans hF
                    have s := hF.shp
                    have x := hE.ne
                    have hN := (hD.of hA).nmp
                    have hDx := hD.of hA
                    have q := her _ _ rfl H' hA.d hE
                    have y3 : gfl H' 19 9 2 = some (.int (nI c3)) := by rw [g_19_2 s, hDx.2.2.1.2.1]
                    have y4 : gfl H' 21 9 2 = some (.int (nI c4)) := by rw [g_21_2 s, hDx.2.2.1.2.2.1]
                    have y7 : gfl H' 27 9 2 = some (.int (nI c7)) := by rw [g_27_2 s, hDx.2.2.1.2.2.2.2.2]
                    have l3 : (ar H' 20).length < 2147483648 := by rw [gn_20 s]; decide
                    have l4 : (ar H' 22).length < 2147483648 := by rw [gn_22 s]; decide
                    have l7 : (ar H' 28).length < 2147483648 := by rw [gn_28 s]; decide
                    simp (maxDischargeDepth := 12) only [w40_0, w40_1, w40_2, w40_5, w40_8, w40_11, w40_12, w40_15, w40_16, w40_17, w40_20, w40_21, w40_24, w40_25, w40_28, w40_31, w40_32, w40_33, w40_36, w40_39, w40_40, w40_43, w40_44, w40_47, w40_48, w40_49, w40_52, w40_53, w40_56, w40_57, w40_60, w40_61, w40_62, w40_63, w40_66, w40_67, w40_68, w40_71, w40_72, w40_75, w40_76, w40_78, w40_81, w40_82, w40_83, w40_85, w40_88, w40_89, w40_90, w40_92, w40_95, w40_96, w40_97, w40_99, w40_102, w40_104, w40_105, w40_108, w40_111, w40_112, w40_115, w40_118, w40_119, w40_120, w40_122, w40_123, w40_126, oK_some, cont_int, cont_intS, cont_none, cont_noneS, cont_long, cont_longS, true_and, and_true, false_and, and_false, true_implies, false_implies, not_true_eq_false, not_false_eq_true, eq_self, or_true, true_or, Option.isSome_some, hpf_length, hpa_length, bI_eq0, fi_hpa, fl_hpa, ar_hpf, fi_hpf_ne, fl_hpf_ne, ar_hpa_ne, hpa_hpa, hpf_hpf, nI_1, two_ne, fokZ, implies_true, Nat.reduceEqDiff, g_29_1, rc_16, g_3_2, rc_4, g_16_2, rc_17, rc_29, g_29_3, sf_29_3, fe_29_3, g_29_5, sf_29_5, fe_29_5, g_29_7, sf_29_7, fe_29_7, rc_6, rc_8, rc_10, rc_12, rc_14, rc_19, rc_21, rc_23, rc_25, rc_27, hF.len, s, x, c_takeF (d := d + 1) hP (show 14 < 19 by decide) x, c_takeF (d := d + 1) hP (show 15 < 19 by decide) x, c_numF (d := d + 4) hP x, c_whF (d := d + 5) hP x, c_advF (d := d + 5) s x, c_failF s x, c_rowHF (d := d) hP x hN, c_lineHere (d := d + 1) hP, c_named (d := d + 4) hP hN, c_kindHere (d := d + 1) hP, c_sightOf (d := d + 5) (g_16_3 s) (g_19_1 s) y3 (ga_20 s) l3 (by omega : c3 < 100000), c_wallOn (d := d + 5) (g_16_4 s) (g_21_1 s) y4 (ga_22 s) l4 (by omega : c4 < 100000), c_isSaid (d := d + 5) (g_16_7 s) (g_27_1 s) y7 (ga_28 s) l7 (by omega : c7 < 100000), q]
                · rw [e6, eb_er] at her
                  have hA := hA5.trans hF
                  have s := hF.shp
                  have x := hE.ne
                  have hN := (hD.of hA).nmp
                  have hDx := hD.of hA
                  have q := her _ _ rfl H' hA.d hE
                  have y3 : gfl H' 19 9 2 = some (.int (nI c3)) := by rw [g_19_2 s, hDx.2.2.1.2.1]
                  have y4 : gfl H' 21 9 2 = some (.int (nI c4)) := by rw [g_21_2 s, hDx.2.2.1.2.2.1]
                  have y7 : gfl H' 27 9 2 = some (.int (nI c7)) := by rw [g_27_2 s, hDx.2.2.1.2.2.2.2.2]
                  have l3 : (ar H' 20).length < 2147483648 := by rw [gn_20 s]; decide
                  have l4 : (ar H' 22).length < 2147483648 := by rw [gn_22 s]; decide
                  have l7 : (ar H' 28).length < 2147483648 := by rw [gn_28 s]; decide
                  simp (maxDischargeDepth := 12) only [w40_0, w40_1, w40_2, w40_5, w40_8, w40_11, w40_12, w40_15, w40_16, w40_17, w40_20, w40_21, w40_24, w40_25, w40_28, w40_31, w40_32, w40_33, w40_36, w40_39, w40_40, w40_43, w40_44, w40_47, w40_48, w40_49, w40_52, w40_53, w40_56, w40_57, w40_60, w40_61, w40_62, w40_63, w40_66, w40_67, w40_68, w40_71, w40_72, w40_75, w40_76, w40_78, w40_81, w40_82, w40_83, w40_85, w40_88, w40_89, w40_90, w40_92, w40_95, w40_96, w40_97, w40_99, w40_102, w40_104, w40_105, w40_108, w40_111, w40_112, w40_115, w40_118, w40_119, w40_120, w40_122, w40_123, w40_126, oK_some, cont_int, cont_intS, cont_none, cont_noneS, cont_long, cont_longS, true_and, and_true, false_and, and_false, true_implies, false_implies, not_true_eq_false, not_false_eq_true, eq_self, or_true, true_or, Option.isSome_some, hpf_length, hpa_length, bI_eq0, fi_hpa, fl_hpa, ar_hpf, fi_hpf_ne, fl_hpf_ne, ar_hpa_ne, hpa_hpa, hpf_hpf, nI_1, two_ne, fokZ, implies_true, Nat.reduceEqDiff, g_29_1, rc_16, g_3_2, rc_4, g_16_2, rc_17, rc_29, g_29_3, sf_29_3, fe_29_3, g_29_5, sf_29_5, fe_29_5, g_29_7, sf_29_7, fe_29_7, rc_6, rc_8, rc_10, rc_12, rc_14, rc_19, rc_21, rc_23, rc_25, rc_27, hF.len, s, x, c_takeF (d := d + 1) hP (show 14 < 19 by decide) x, c_takeF (d := d + 1) hP (show 15 < 19 by decide) x, c_numF (d := d + 4) hP x, c_whF (d := d + 5) hP x, c_advF (d := d + 5) s x, c_failF s x, c_rowHF (d := d) hP x hN, c_lineHere (d := d + 1) hP, c_named (d := d + 4) hP hN, c_kindHere (d := d + 1) hP, c_sightOf (d := d + 5) (g_16_3 s) (g_19_1 s) y3 (ga_20 s) l3 (by omega : c3 < 100000), c_wallOn (d := d + 5) (g_16_4 s) (g_21_1 s) y4 (ga_22 s) l4 (by omega : c4 < 100000), c_isSaid (d := d + 5) (g_16_7 s) (g_27_1 s) y7 (ga_28 s) l7 (by omega : c7 < 100000), q]
              · rw [e5, eb_er] at her
                have hA := hA4.trans hF
                have s := hF.shp
                have x := hE.ne
                have hN := (hD.of hA).nmp
                have hDx := hD.of hA
                have q := her _ _ rfl H' hA.d hE
                have y3 : gfl H' 19 9 2 = some (.int (nI c3)) := by rw [g_19_2 s, hDx.2.2.1.2.1]
                have y4 : gfl H' 21 9 2 = some (.int (nI c4)) := by rw [g_21_2 s, hDx.2.2.1.2.2.1]
                have y7 : gfl H' 27 9 2 = some (.int (nI c7)) := by rw [g_27_2 s, hDx.2.2.1.2.2.2.2.2]
                have l3 : (ar H' 20).length < 2147483648 := by rw [gn_20 s]; decide
                have l4 : (ar H' 22).length < 2147483648 := by rw [gn_22 s]; decide
                have l7 : (ar H' 28).length < 2147483648 := by rw [gn_28 s]; decide
                simp (maxDischargeDepth := 12) only [w40_0, w40_1, w40_2, w40_5, w40_8, w40_11, w40_12, w40_15, w40_16, w40_17, w40_20, w40_21, w40_24, w40_25, w40_28, w40_31, w40_32, w40_33, w40_36, w40_39, w40_40, w40_43, w40_44, w40_47, w40_48, w40_49, w40_52, w40_53, w40_56, w40_57, w40_60, w40_61, w40_62, w40_63, w40_66, w40_67, w40_68, w40_71, w40_72, w40_75, w40_76, w40_78, w40_81, w40_82, w40_83, w40_85, w40_88, w40_89, w40_90, w40_92, w40_95, w40_96, w40_97, w40_99, w40_102, w40_104, w40_105, w40_108, w40_111, w40_112, w40_115, w40_118, w40_119, w40_120, w40_122, w40_123, w40_126, oK_some, cont_int, cont_intS, cont_none, cont_noneS, cont_long, cont_longS, true_and, and_true, false_and, and_false, true_implies, false_implies, not_true_eq_false, not_false_eq_true, eq_self, or_true, true_or, Option.isSome_some, hpf_length, hpa_length, bI_eq0, fi_hpa, fl_hpa, ar_hpf, fi_hpf_ne, fl_hpf_ne, ar_hpa_ne, hpa_hpa, hpf_hpf, nI_1, two_ne, fokZ, implies_true, Nat.reduceEqDiff, g_29_1, rc_16, g_3_2, rc_4, g_16_2, rc_17, rc_29, g_29_3, sf_29_3, fe_29_3, g_29_5, sf_29_5, fe_29_5, g_29_7, sf_29_7, fe_29_7, rc_6, rc_8, rc_10, rc_12, rc_14, rc_19, rc_21, rc_23, rc_25, rc_27, hF.len, s, x, c_takeF (d := d + 1) hP (show 14 < 19 by decide) x, c_takeF (d := d + 1) hP (show 15 < 19 by decide) x, c_numF (d := d + 4) hP x, c_whF (d := d + 5) hP x, c_advF (d := d + 5) s x, c_failF s x, c_rowHF (d := d) hP x hN, c_lineHere (d := d + 1) hP, c_named (d := d + 4) hP hN, c_kindHere (d := d + 1) hP, c_sightOf (d := d + 5) (g_16_3 s) (g_19_1 s) y3 (ga_20 s) l3 (by omega : c3 < 100000), c_wallOn (d := d + 5) (g_16_4 s) (g_21_1 s) y4 (ga_22 s) l4 (by omega : c4 < 100000), c_isSaid (d := d + 5) (g_16_7 s) (g_27_1 s) y7 (ga_28 s) l7 (by omega : c7 < 100000), q]
            · rw [e4, eb_er] at her
              have hA := hA3.trans hF
              have s := hF.shp
              have x := hE.ne
              have hN := (hD.of hA).nmp
              have hDx := hD.of hA
              have q := her _ _ rfl H' hA.d hE
              have y3 : gfl H' 19 9 2 = some (.int (nI c3)) := by rw [g_19_2 s, hDx.2.2.1.2.1]
              have y4 : gfl H' 21 9 2 = some (.int (nI c4)) := by rw [g_21_2 s, hDx.2.2.1.2.2.1]
              have y7 : gfl H' 27 9 2 = some (.int (nI c7)) := by rw [g_27_2 s, hDx.2.2.1.2.2.2.2.2]
              have l3 : (ar H' 20).length < 2147483648 := by rw [gn_20 s]; decide
              have l4 : (ar H' 22).length < 2147483648 := by rw [gn_22 s]; decide
              have l7 : (ar H' 28).length < 2147483648 := by rw [gn_28 s]; decide
              simp (maxDischargeDepth := 12) only [w40_0, w40_1, w40_2, w40_5, w40_8, w40_11, w40_12, w40_15, w40_16, w40_17, w40_20, w40_21, w40_24, w40_25, w40_28, w40_31, w40_32, w40_33, w40_36, w40_39, w40_40, w40_43, w40_44, w40_47, w40_48, w40_49, w40_52, w40_53, w40_56, w40_57, w40_60, w40_61, w40_62, w40_63, w40_66, w40_67, w40_68, w40_71, w40_72, w40_75, w40_76, w40_78, w40_81, w40_82, w40_83, w40_85, w40_88, w40_89, w40_90, w40_92, w40_95, w40_96, w40_97, w40_99, w40_102, w40_104, w40_105, w40_108, w40_111, w40_112, w40_115, w40_118, w40_119, w40_120, w40_122, w40_123, w40_126, oK_some, cont_int, cont_intS, cont_none, cont_noneS, cont_long, cont_longS, true_and, and_true, false_and, and_false, true_implies, false_implies, not_true_eq_false, not_false_eq_true, eq_self, or_true, true_or, Option.isSome_some, hpf_length, hpa_length, bI_eq0, fi_hpa, fl_hpa, ar_hpf, fi_hpf_ne, fl_hpf_ne, ar_hpa_ne, hpa_hpa, hpf_hpf, nI_1, two_ne, fokZ, implies_true, Nat.reduceEqDiff, g_29_1, rc_16, g_3_2, rc_4, g_16_2, rc_17, rc_29, g_29_3, sf_29_3, fe_29_3, g_29_5, sf_29_5, fe_29_5, g_29_7, sf_29_7, fe_29_7, rc_6, rc_8, rc_10, rc_12, rc_14, rc_19, rc_21, rc_23, rc_25, rc_27, hF.len, s, x, c_takeF (d := d + 1) hP (show 14 < 19 by decide) x, c_takeF (d := d + 1) hP (show 15 < 19 by decide) x, c_numF (d := d + 4) hP x, c_whF (d := d + 5) hP x, c_advF (d := d + 5) s x, c_failF s x, c_rowHF (d := d) hP x hN, c_lineHere (d := d + 1) hP, c_named (d := d + 4) hP hN, c_kindHere (d := d + 1) hP, c_sightOf (d := d + 5) (g_16_3 s) (g_19_1 s) y3 (ga_20 s) l3 (by omega : c3 < 100000), c_wallOn (d := d + 5) (g_16_4 s) (g_21_1 s) y4 (ga_22 s) l4 (by omega : c4 < 100000), c_isSaid (d := d + 5) (g_16_7 s) (g_27_1 s) y7 (ga_28 s) l7 (by omega : c7 < 100000), q]
      · have hpn : pName xs t1 = false := by unfold pName; rw [decide_eq_true h1, hk]; rfl
        have hk' : (nI (lnK xs t1) = 0) = False := by rw [lnK_key, hk]; exact eq_false (by decide)
        simp (maxDischargeDepth := 12) only [w40_0, w40_1, w40_2, w40_5, w40_8, w40_11, w40_12, w40_15, w40_16, w40_17, w40_20, w40_21, w40_24, w40_25, w40_28, w40_32, w40_33, w40_36, w40_39, w40_40, w40_43, w40_44, w40_47, w40_48, w40_49, w40_52, w40_53, w40_56, w40_57, w40_60, w40_61, w40_62, w40_63, w40_66, w40_67, w40_68, w40_71, w40_72, w40_75, w40_76, w40_78, w40_81, w40_82, w40_83, w40_85, w40_88, w40_89, w40_90, w40_92, w40_95, w40_96, w40_97, w40_99, w40_102, w40_104, w40_105, w40_108, w40_111, w40_112, w40_115, w40_118, w40_119, w40_120, w40_122, w40_123, w40_126, oK_some, cont_int, cont_intS, cont_none, cont_noneS, cont_long, cont_longS, true_and, and_true, false_and, and_false, true_implies, false_implies, not_true_eq_false, not_false_eq_true, eq_self, or_true, true_or, Option.isSome_some, hpf_length, hpa_length, bI_eq0, fi_hpa, fl_hpa, ar_hpf, fi_hpf_ne, fl_hpf_ne, ar_hpa_ne, hpa_hpa, hpf_hpf, nI_1, two_ne, fokZ, implies_true, Nat.reduceEqDiff, g_29_1, rc_16, g_3_2, rc_4, g_16_2, rc_17, rc_29, g_29_3, sf_29_3, fe_29_3, g_29_5, sf_29_5, fe_29_5, g_29_7, sf_29_7, fe_29_7, rc_6, rc_8, rc_10, rc_12, rc_14, rc_19, rc_21, rc_23, rc_25, rc_27, hF1.len, s1, f5, h1, g3, c_lineHere (d := d + 1) hP1, hk']
        exact W1 hpn
    · have hpn : pName xs t1 = false := by unfold pName; rw [decide_eq_false h1]; rfl
      simp (maxDischargeDepth := 12) only [w40_0, w40_1, w40_2, w40_5, w40_8, w40_11, w40_12, w40_15, w40_16, w40_17, w40_20, w40_21, w40_24, w40_25, w40_28, w40_32, w40_33, w40_36, w40_39, w40_40, w40_43, w40_44, w40_47, w40_48, w40_49, w40_52, w40_53, w40_56, w40_57, w40_60, w40_61, w40_62, w40_63, w40_66, w40_67, w40_68, w40_71, w40_72, w40_75, w40_76, w40_78, w40_81, w40_82, w40_83, w40_85, w40_88, w40_89, w40_90, w40_92, w40_95, w40_96, w40_97, w40_99, w40_102, w40_104, w40_105, w40_108, w40_111, w40_112, w40_115, w40_118, w40_119, w40_120, w40_122, w40_123, w40_126, oK_some, cont_int, cont_intS, cont_none, cont_noneS, cont_long, cont_longS, true_and, and_true, false_and, and_false, true_implies, false_implies, not_true_eq_false, not_false_eq_true, eq_self, or_true, true_or, Option.isSome_some, hpf_length, hpa_length, bI_eq0, fi_hpa, fl_hpa, ar_hpf, fi_hpf_ne, fl_hpf_ne, ar_hpa_ne, hpa_hpa, hpf_hpf, nI_1, two_ne, fokZ, implies_true, Nat.reduceEqDiff, g_29_1, rc_16, g_3_2, rc_4, g_16_2, rc_17, rc_29, g_29_3, sf_29_3, fe_29_3, g_29_5, sf_29_5, fe_29_5, g_29_7, sf_29_7, fe_29_7, rc_6, rc_8, rc_10, rc_12, rc_14, rc_19, rc_21, rc_23, rc_25, rc_27, hF1.len, s1, f5, h1, g3]
      exact W1 hpn
  · rw [e1, eb_er] at her
    have hA := hA0.trans hF
    have s := hF.shp
    have x := hE.ne
    have hN := (hD.of hA).nmp
    have hDx := hD.of hA
    have q := her _ _ rfl H' hA.d hE
    have y3 : gfl H' 19 9 2 = some (.int (nI c3)) := by rw [g_19_2 s, hDx.2.2.1.2.1]
    have y4 : gfl H' 21 9 2 = some (.int (nI c4)) := by rw [g_21_2 s, hDx.2.2.1.2.2.1]
    have y7 : gfl H' 27 9 2 = some (.int (nI c7)) := by rw [g_27_2 s, hDx.2.2.1.2.2.2.2.2]
    have l3 : (ar H' 20).length < 2147483648 := by rw [gn_20 s]; decide
    have l4 : (ar H' 22).length < 2147483648 := by rw [gn_22 s]; decide
    have l7 : (ar H' 28).length < 2147483648 := by rw [gn_28 s]; decide
    simp (maxDischargeDepth := 12) only [w40_0, w40_1, w40_2, w40_5, w40_8, w40_11, w40_12, w40_15, w40_16, w40_17, w40_20, w40_21, w40_24, w40_25, w40_28, w40_31, w40_32, w40_33, w40_36, w40_39, w40_40, w40_43, w40_44, w40_47, w40_48, w40_49, w40_52, w40_53, w40_56, w40_57, w40_60, w40_61, w40_62, w40_63, w40_66, w40_67, w40_68, w40_71, w40_72, w40_75, w40_76, w40_78, w40_81, w40_82, w40_83, w40_85, w40_88, w40_89, w40_90, w40_92, w40_95, w40_96, w40_97, w40_99, w40_102, w40_104, w40_105, w40_108, w40_111, w40_112, w40_115, w40_118, w40_119, w40_120, w40_122, w40_123, w40_126, oK_some, cont_int, cont_intS, cont_none, cont_noneS, cont_long, cont_longS, true_and, and_true, false_and, and_false, true_implies, false_implies, not_true_eq_false, not_false_eq_true, eq_self, or_true, true_or, Option.isSome_some, hpf_length, hpa_length, bI_eq0, fi_hpa, fl_hpa, ar_hpf, fi_hpf_ne, fl_hpf_ne, ar_hpa_ne, hpa_hpa, hpf_hpf, nI_1, two_ne, fokZ, implies_true, Nat.reduceEqDiff, g_29_1, rc_16, g_3_2, rc_4, g_16_2, rc_17, rc_29, g_29_3, sf_29_3, fe_29_3, g_29_5, sf_29_5, fe_29_5, g_29_7, sf_29_7, fe_29_7, rc_6, rc_8, rc_10, rc_12, rc_14, rc_19, rc_21, rc_23, rc_25, rc_27, hF.len, s, x, c_takeF (d := d + 1) hP (show 14 < 19 by decide) x, c_takeF (d := d + 1) hP (show 15 < 19 by decide) x, c_numF (d := d + 4) hP x, c_whF (d := d + 5) hP x, c_advF (d := d + 5) s x, c_failF s x, c_rowHF (d := d) hP x hN, c_lineHere (d := d + 1) hP, c_named (d := d + 4) hP hN, c_kindHere (d := d + 1) hP, c_sightOf (d := d + 5) (g_16_3 s) (g_19_1 s) y3 (ga_20 s) l3 (by omega : c3 < 100000), c_wallOn (d := d + 5) (g_16_4 s) (g_21_1 s) y4 (ga_22 s) l4 (by omega : c4 < 100000), c_isSaid (d := d + 5) (g_16_7 s) (g_27_1 s) y7 (ga_28 s) l7 (by omega : c7 < 100000), q]
theorem C_readSaid {v : Int32} (h : CP H xs n t) (hf : fi H 29 7 = 0) (hD : DH H xs n R c2 c3 c4 c5 c6 c7) (h8 : ¬ rg R 8 = 0) (hok : ∀ R' t', eb (pBeg xs n R (decide (cn R 7 < 5)) t) (fun t1 => pSeen xs n R v t1) = .ok (R', t') → ∀ H', FgD H H' → CP H' xs n t' → fi H' 29 7 = 0 → DHx H' xs n R' → Q none H') (her : ∀ c p, eb (pBeg xs n R (decide (cn R 7 < 5)) t) (fun t1 => pSeen xs n R v t1) = .error (c, p) → ∀ H', FgD H H' → CE H' c p → Q none H') : Wp scr (d + 7) 45 0 [some (.ref 29), some (.int v), none, none] [] H Q := by
  have s0 := h.shp
  obtain ⟨m2, m3, m4, m5, m6, m7, b2, b3, b4, b5, b6, b7⟩ := hD.mn
  have hcn : cn R 7 = c7 := cn_eq m7 (by omega)
  unfold pSeen at hok her
  simp only [pAfter_eb, pRow_eb, eb_eb, eb_ok] at hok her
  rw [hcn] at hok her
  have htb : gfl H 27 9 0 = some (.int (nI 5)) := by rw [g_27_0 s0, hD.2.1.2.2.2.2.2]
  have htc : gfl H 27 9 2 = some (.int (nI c7)) := by rw [g_27_2 s0, hD.2.2.1.2.2.2.2.2]
  have hA0 : FgR H H := Fg.rfl' s0
  have hD0 := hD
  have hP0 := h
  have f0 := hf
  simp (maxDischargeDepth := 12) only [w45_0, w45_1, w45_2, w45_5, w45_8, w45_11, w45_12, w45_15, w45_16, w45_17, w45_20, w45_21, w45_23, w45_26, w45_27, w45_28, w45_30, w45_33, w45_34, w45_35, w45_38, w45_39, w45_40, w45_43, w45_46, w45_47, w45_48, w45_51, w45_52, w45_55, w45_56, w45_59, w45_62, w45_63, w45_66, w45_69, w45_70, w45_71, w45_72, w45_73, w45_76, oK_some, cont_int, cont_intS, cont_none, cont_noneS, cont_long, cont_longS, true_and, and_true, false_and, and_false, true_implies, false_implies, not_true_eq_false, not_false_eq_true, eq_self, or_true, true_or, Option.isSome_some, hpf_length, hpa_length, bI_eq0, fi_hpa, fl_hpa, ar_hpf, fi_hpf_ne, fl_hpf_ne, ar_hpa_ne, hpa_hpa, hpf_hpf, nI_1, two_ne, fokZ, implies_true, Nat.reduceEqDiff, g_29_1, rc_16, g_3_7, rc_14, g_16_7, rc_27, rc_29, rc_3, g_29_7, sf_29_7, fe_29_7, rc_4, rc_6, rc_8, rc_10, rc_12, rc_17, rc_19, rc_21, rc_23, rc_25, s0]
  refine C_enter (d := d + 4) h hf htb htc (by decide) (by omega) h8 (fun t1 e1 H1 hF1 hP1 f1 => ?_) (fun c' p e1 H' hF hP hE => ?_)
  · rw [e1, eb_ok] at hok her
    have s1 := hF1.shp
    have hA1 := hA0.trans hF1
    have hD1 := hD.of hA1
    have hc := of_decide_eq_true (pBeg_ok h.1.2.2.2.2.2.2.2.1 e1).2.1
    simp (maxDischargeDepth := 12) only [w45_0, w45_1, w45_2, w45_5, w45_8, w45_11, w45_12, w45_15, w45_16, w45_17, w45_20, w45_21, w45_23, w45_26, w45_27, w45_28, w45_30, w45_33, w45_34, w45_35, w45_38, w45_39, w45_40, w45_43, w45_46, w45_47, w45_48, w45_51, w45_52, w45_55, w45_56, w45_59, w45_62, w45_63, w45_66, w45_69, w45_70, w45_71, w45_72, w45_73, w45_76, oK_some, cont_int, cont_intS, cont_none, cont_noneS, cont_long, cont_longS, true_and, and_true, false_and, and_false, true_implies, false_implies, not_true_eq_false, not_false_eq_true, eq_self, or_true, true_or, Option.isSome_some, hpf_length, hpa_length, bI_eq0, fi_hpa, fl_hpa, ar_hpf, fi_hpf_ne, fl_hpf_ne, ar_hpa_ne, hpa_hpa, hpf_hpf, nI_1, two_ne, fokZ, implies_true, Nat.reduceEqDiff, g_29_1, rc_16, g_3_7, rc_14, g_16_7, rc_27, rc_29, rc_3, g_29_7, sf_29_7, fe_29_7, rc_4, rc_6, rc_8, rc_10, rc_12, rc_17, rc_19, rc_21, rc_23, rc_25, hF1.len, s1]
    refine C_rowH (d := d) hP1 f1 hD1.nmp hD1.nmr hD1.n9 (fun r e2 hre2 => ?_) (fun c' p e2 H' hF hP hE => ?_)
    · rw [e2, eb_ok] at hok her
      simp (maxDischargeDepth := 12) only [w45_0, w45_1, w45_2, w45_5, w45_8, w45_11, w45_12, w45_15, w45_16, w45_17, w45_20, w45_21, w45_23, w45_26, w45_27, w45_28, w45_30, w45_33, w45_34, w45_35, w45_38, w45_39, w45_40, w45_43, w45_46, w45_47, w45_48, w45_51, w45_52, w45_55, w45_56, w45_59, w45_62, w45_63, w45_66, w45_69, w45_70, w45_71, w45_72, w45_73, w45_76, oK_some, cont_int, cont_intS, cont_none, cont_noneS, cont_long, cont_longS, true_and, and_true, false_and, and_false, true_implies, false_implies, not_true_eq_false, not_false_eq_true, eq_self, or_true, true_or, Option.isSome_some, hpf_length, hpa_length, bI_eq0, fi_hpa, fl_hpa, ar_hpf, fi_hpf_ne, fl_hpf_ne, ar_hpa_ne, hpa_hpa, hpf_hpf, nI_1, two_ne, fokZ, implies_true, Nat.reduceEqDiff, g_29_1, rc_16, g_3_7, rc_14, g_16_7, rc_27, rc_29, rc_3, g_29_7, sf_29_7, fe_29_7, rc_4, rc_6, rc_8, rc_10, rc_12, rc_17, rc_19, rc_21, rc_23, rc_25, hF1.len, s1]
      refine C_nx (d := d + 5) hP1 f1 (fun H2 hF2 hP2 f2 => ?_)
      have s2 := hF2.shp
      have hA2 := hA1.trans hF2
      have hD2 := hD.of hA2
      simp (maxDischargeDepth := 12) only [w45_0, w45_1, w45_2, w45_5, w45_8, w45_11, w45_12, w45_15, w45_16, w45_17, w45_20, w45_21, w45_23, w45_26, w45_27, w45_28, w45_30, w45_33, w45_34, w45_35, w45_38, w45_39, w45_40, w45_43, w45_46, w45_47, w45_48, w45_51, w45_52, w45_55, w45_56, w45_59, w45_62, w45_63, w45_66, w45_69, w45_70, w45_71, w45_72, w45_73, w45_76, oK_some, cont_int, cont_intS, cont_none, cont_noneS, cont_long, cont_longS, true_and, and_true, false_and, and_false, true_implies, false_implies, not_true_eq_false, not_false_eq_true, eq_self, or_true, true_or, Option.isSome_some, hpf_length, hpa_length, bI_eq0, fi_hpa, fl_hpa, ar_hpf, fi_hpf_ne, fl_hpf_ne, ar_hpa_ne, hpa_hpa, hpf_hpf, nI_1, two_ne, fokZ, implies_true, Nat.reduceEqDiff, g_29_1, rc_16, g_3_7, rc_14, g_16_7, rc_27, rc_29, rc_3, g_29_7, sf_29_7, fe_29_7, rc_4, rc_6, rc_8, rc_10, rc_12, rc_17, rc_19, rc_21, rc_23, rc_25, hF2.len, s2]
      refine C_takeW (d := d + 1) hP2 f2 (by decide) (fun t3 e3 H3 hF3 hP3 f3 => ?_) (fun c' p e3 H' hF hP hE => ?_)
      · rw [e3, eb_ok] at hok her
        have s3 := hF3.shp
        have hA3 := hA2.trans hF3
        have hD3 := hD.of hA3
        simp (maxDischargeDepth := 12) only [w45_0, w45_1, w45_2, w45_5, w45_8, w45_11, w45_12, w45_15, w45_16, w45_17, w45_20, w45_21, w45_23, w45_26, w45_27, w45_28, w45_30, w45_33, w45_34, w45_35, w45_38, w45_39, w45_40, w45_43, w45_46, w45_47, w45_48, w45_51, w45_52, w45_55, w45_56, w45_59, w45_62, w45_63, w45_66, w45_69, w45_70, w45_71, w45_72, w45_73, w45_76, oK_some, cont_int, cont_intS, cont_none, cont_noneS, cont_long, cont_longS, true_and, and_true, false_and, and_false, true_implies, false_implies, not_true_eq_false, not_false_eq_true, eq_self, or_true, true_or, Option.isSome_some, hpf_length, hpa_length, bI_eq0, fi_hpa, fl_hpa, ar_hpf, fi_hpf_ne, fl_hpf_ne, ar_hpa_ne, hpa_hpa, hpf_hpf, nI_1, two_ne, fokZ, implies_true, Nat.reduceEqDiff, g_29_1, rc_16, g_3_7, rc_14, g_16_7, rc_27, rc_29, rc_3, g_29_7, sf_29_7, fe_29_7, rc_4, rc_6, rc_8, rc_10, rc_12, rc_17, rc_19, rc_21, rc_23, rc_25, hF3.len, s3]
        refine C_wh (d := d + 5) hP3 f3 (fun w e4 => ?_) (fun c' p e4 v' H' hF hP hE => ?_)
        · rw [e4, eb_ok] at hok her
          have y7 : gfl H3 27 9 2 = some (.int (nI c7)) := by rw [g_27_2 s3, hD3.2.2.1.2.2.2.2.2]
          have l7 : (ar H3 28).length < 2147483648 := by rw [gn_28 s3]; decide
          have hsd : sdB (ar H3 28) c7 (nI r) w = snh R r w c7 := sdB_snh hD3.2.2.2.1.2.2.2.2.2.2.1 c7 (Nat.le_refl _)
          cases hq : snh R r w c7
          · rw [hq, if_neg (by decide)] at hok her
            simp (maxDischargeDepth := 12) only [w45_0, w45_1, w45_2, w45_5, w45_8, w45_11, w45_12, w45_15, w45_16, w45_17, w45_20, w45_21, w45_23, w45_26, w45_27, w45_28, w45_30, w45_33, w45_34, w45_35, w45_38, w45_39, w45_40, w45_43, w45_46, w45_47, w45_48, w45_51, w45_52, w45_55, w45_56, w45_59, w45_62, w45_63, w45_66, w45_69, w45_70, w45_71, w45_72, w45_73, w45_76, oK_some, cont_int, cont_intS, cont_none, cont_noneS, cont_long, cont_longS, true_and, and_true, false_and, and_false, true_implies, false_implies, not_true_eq_false, not_false_eq_true, eq_self, or_true, true_or, Option.isSome_some, hpf_length, hpa_length, bI_eq0, fi_hpa, fl_hpa, ar_hpf, fi_hpf_ne, fl_hpf_ne, ar_hpa_ne, hpa_hpa, hpf_hpf, nI_1, two_ne, fokZ, implies_true, Nat.reduceEqDiff, g_29_1, rc_16, g_3_7, rc_14, g_16_7, rc_27, rc_29, rc_3, g_29_7, sf_29_7, fe_29_7, rc_4, rc_6, rc_8, rc_10, rc_12, rc_17, rc_19, rc_21, rc_23, rc_25, hF3.len, s3, c_isSaid (d := d + 5) (g_16_7 s3) (g_27_1 s3) y7 (ga_28 s3) l7 (by omega : c7 < 100000), hsd, hq]
            refine C_nx (d := d + 5) hP3 f3 (fun H4 hF4 hP4 f4 => ?_)
            have s4 := hF4.shp
            have hA4 := hA3.trans hF4
            have hD4 := hD.of hA4
            obtain ⟨w', hw, rfl⟩ := exI (k := 20) (pNumH_ok e4).1 (pNumH_ok e4).2 (by decide)
            have dc := hD4.2.2.1.2.2.2.2.2
            obtain ⟨hD9, hF9⟩ := DH_said (v := v) (z := 0) hD4 h8 hc hre2 hw
            have hAA : FgD H _ := hA4.d.trans (hF9.mono (by decide) (by decide))
            simp (maxDischargeDepth := 12) only [w45_0, w45_1, w45_2, w45_5, w45_8, w45_11, w45_12, w45_15, w45_16, w45_17, w45_20, w45_21, w45_23, w45_26, w45_27, w45_28, w45_30, w45_33, w45_34, w45_35, w45_38, w45_39, w45_40, w45_43, w45_46, w45_47, w45_48, w45_51, w45_52, w45_55, w45_56, w45_59, w45_62, w45_63, w45_66, w45_69, w45_70, w45_71, w45_72, w45_73, w45_76, oK_some, cont_int, cont_intS, cont_none, cont_noneS, cont_long, cont_longS, true_and, and_true, false_and, and_false, true_implies, false_implies, not_true_eq_false, not_false_eq_true, eq_self, or_true, true_or, Option.isSome_some, hpf_length, hpa_length, bI_eq0, fi_hpa, fl_hpa, ar_hpf, fi_hpf_ne, fl_hpf_ne, ar_hpa_ne, hpa_hpa, hpf_hpf, nI_1, two_ne, fokZ, implies_true, Nat.reduceEqDiff, g_29_1, rc_16, g_3_7, rc_14, g_16_7, rc_27, rc_29, rc_3, g_29_7, sf_29_7, fe_29_7, rc_4, rc_6, rc_8, rc_10, rc_12, rc_17, rc_19, rc_21, rc_23, rc_25, hF4.len, s4, f4, c_add27 (d := d + 6) s4 dc hc]
            exact hok _ _ rfl _ hAA (hP4.og hF9 (by decide) (by decide)) ((hF9.int (by decide) (by decide)).trans f4) ⟨_, _, _, _, _, _, hD9⟩
          · rw [hq, if_pos rfl] at her
            simp (maxDischargeDepth := 12) only [w45_0, w45_1, w45_2, w45_5, w45_8, w45_11, w45_12, w45_15, w45_16, w45_17, w45_20, w45_21, w45_23, w45_26, w45_27, w45_28, w45_30, w45_33, w45_34, w45_35, w45_38, w45_39, w45_40, w45_43, w45_46, w45_47, w45_48, w45_51, w45_52, w45_55, w45_56, w45_59, w45_62, w45_63, w45_66, w45_69, w45_70, w45_71, w45_72, w45_73, w45_76, oK_some, cont_int, cont_intS, cont_none, cont_noneS, cont_long, cont_longS, true_and, and_true, false_and, and_false, true_implies, false_implies, not_true_eq_false, not_false_eq_true, eq_self, or_true, true_or, Option.isSome_some, hpf_length, hpa_length, bI_eq0, fi_hpa, fl_hpa, ar_hpf, fi_hpf_ne, fl_hpf_ne, ar_hpa_ne, hpa_hpa, hpf_hpf, nI_1, two_ne, fokZ, implies_true, Nat.reduceEqDiff, g_29_1, rc_16, g_3_7, rc_14, g_16_7, rc_27, rc_29, rc_3, g_29_7, sf_29_7, fe_29_7, rc_4, rc_6, rc_8, rc_10, rc_12, rc_17, rc_19, rc_21, rc_23, rc_25, hF3.len, s3, c_isSaid (d := d + 5) (g_16_7 s3) (g_27_1 s3) y7 (ga_28 s3) l7 (by omega : c7 < 100000), hsd, hq, Bool.true_eq_false]
            refine C_fail hP3 f3 (by decide) (fun H' hF hP hE => ?_)
            have hA := hA3.trans hF
            have s := hF.shp
            have x := hE.ne
            have hN := (hD.of hA).nmp
            have hDx := hD.of hA
            have q := her _ _ rfl H' hA.d hE
            have y3 : gfl H' 19 9 2 = some (.int (nI c3)) := by rw [g_19_2 s, hDx.2.2.1.2.1]
            have y4 : gfl H' 21 9 2 = some (.int (nI c4)) := by rw [g_21_2 s, hDx.2.2.1.2.2.1]
            have y7 : gfl H' 27 9 2 = some (.int (nI c7)) := by rw [g_27_2 s, hDx.2.2.1.2.2.2.2.2]
            have l3 : (ar H' 20).length < 2147483648 := by rw [gn_20 s]; decide
            have l4 : (ar H' 22).length < 2147483648 := by rw [gn_22 s]; decide
            have l7 : (ar H' 28).length < 2147483648 := by rw [gn_28 s]; decide
            simp (maxDischargeDepth := 12) only [w45_0, w45_1, w45_2, w45_5, w45_8, w45_11, w45_12, w45_15, w45_16, w45_17, w45_20, w45_21, w45_23, w45_26, w45_27, w45_28, w45_30, w45_33, w45_34, w45_35, w45_38, w45_39, w45_40, w45_43, w45_46, w45_47, w45_48, w45_51, w45_52, w45_55, w45_56, w45_59, w45_62, w45_63, w45_66, w45_69, w45_70, w45_71, w45_72, w45_73, w45_76, oK_some, cont_int, cont_intS, cont_none, cont_noneS, cont_long, cont_longS, true_and, and_true, false_and, and_false, true_implies, false_implies, not_true_eq_false, not_false_eq_true, eq_self, or_true, true_or, Option.isSome_some, hpf_length, hpa_length, bI_eq0, fi_hpa, fl_hpa, ar_hpf, fi_hpf_ne, fl_hpf_ne, ar_hpa_ne, hpa_hpa, hpf_hpf, nI_1, two_ne, fokZ, implies_true, Nat.reduceEqDiff, g_29_1, rc_16, g_3_7, rc_14, g_16_7, rc_27, rc_29, rc_3, g_29_7, sf_29_7, fe_29_7, rc_4, rc_6, rc_8, rc_10, rc_12, rc_17, rc_19, rc_21, rc_23, rc_25, hF.len, s, x, c_takeF (d := d + 1) hP (show 18 < 19 by decide) x, c_numF (d := d + 4) hP x, c_whF (d := d + 5) hP x, c_advF (d := d + 5) s x, c_failF s x, c_rowHF (d := d) hP x hN, c_lineHere (d := d + 1) hP, c_named (d := d + 4) hP hN, c_kindHere (d := d + 1) hP, c_sightOf (d := d + 5) (g_16_3 s) (g_19_1 s) y3 (ga_20 s) l3 (by omega : c3 < 100000), c_wallOn (d := d + 5) (g_16_4 s) (g_21_1 s) y4 (ga_22 s) l4 (by omega : c4 < 100000), c_isSaid (d := d + 5) (g_16_7 s) (g_27_1 s) y7 (ga_28 s) l7 (by omega : c7 < 100000), q]
        · rw [e4, eb_er] at her
          have hA := hA3.trans hF
          have s := hF.shp
          have x := hE.ne
          have hN := (hD.of hA).nmp
          have hDx := hD.of hA
          have q := her _ _ rfl H' hA.d hE
          have y3 : gfl H' 19 9 2 = some (.int (nI c3)) := by rw [g_19_2 s, hDx.2.2.1.2.1]
          have y4 : gfl H' 21 9 2 = some (.int (nI c4)) := by rw [g_21_2 s, hDx.2.2.1.2.2.1]
          have y7 : gfl H' 27 9 2 = some (.int (nI c7)) := by rw [g_27_2 s, hDx.2.2.1.2.2.2.2.2]
          have l3 : (ar H' 20).length < 2147483648 := by rw [gn_20 s]; decide
          have l4 : (ar H' 22).length < 2147483648 := by rw [gn_22 s]; decide
          have l7 : (ar H' 28).length < 2147483648 := by rw [gn_28 s]; decide
          simp (maxDischargeDepth := 12) only [w45_0, w45_1, w45_2, w45_5, w45_8, w45_11, w45_12, w45_15, w45_16, w45_17, w45_20, w45_21, w45_23, w45_26, w45_27, w45_28, w45_30, w45_33, w45_34, w45_35, w45_38, w45_39, w45_40, w45_43, w45_46, w45_47, w45_48, w45_51, w45_52, w45_55, w45_56, w45_59, w45_62, w45_63, w45_66, w45_69, w45_70, w45_71, w45_72, w45_73, w45_76, oK_some, cont_int, cont_intS, cont_none, cont_noneS, cont_long, cont_longS, true_and, and_true, false_and, and_false, true_implies, false_implies, not_true_eq_false, not_false_eq_true, eq_self, or_true, true_or, Option.isSome_some, hpf_length, hpa_length, bI_eq0, fi_hpa, fl_hpa, ar_hpf, fi_hpf_ne, fl_hpf_ne, ar_hpa_ne, hpa_hpa, hpf_hpf, nI_1, two_ne, fokZ, implies_true, Nat.reduceEqDiff, g_29_1, rc_16, g_3_7, rc_14, g_16_7, rc_27, rc_29, rc_3, g_29_7, sf_29_7, fe_29_7, rc_4, rc_6, rc_8, rc_10, rc_12, rc_17, rc_19, rc_21, rc_23, rc_25, hF.len, s, x, c_takeF (d := d + 1) hP (show 18 < 19 by decide) x, c_numF (d := d + 4) hP x, c_whF (d := d + 5) hP x, c_advF (d := d + 5) s x, c_failF s x, c_rowHF (d := d) hP x hN, c_lineHere (d := d + 1) hP, c_named (d := d + 4) hP hN, c_kindHere (d := d + 1) hP, c_sightOf (d := d + 5) (g_16_3 s) (g_19_1 s) y3 (ga_20 s) l3 (by omega : c3 < 100000), c_wallOn (d := d + 5) (g_16_4 s) (g_21_1 s) y4 (ga_22 s) l4 (by omega : c4 < 100000), c_isSaid (d := d + 5) (g_16_7 s) (g_27_1 s) y7 (ga_28 s) l7 (by omega : c7 < 100000), q]
      · rw [e3, eb_er] at her
        have hA := hA2.trans hF
        have s := hF.shp
        have x := hE.ne
        have hN := (hD.of hA).nmp
        have hDx := hD.of hA
        have q := her _ _ rfl H' hA.d hE
        have y3 : gfl H' 19 9 2 = some (.int (nI c3)) := by rw [g_19_2 s, hDx.2.2.1.2.1]
        have y4 : gfl H' 21 9 2 = some (.int (nI c4)) := by rw [g_21_2 s, hDx.2.2.1.2.2.1]
        have y7 : gfl H' 27 9 2 = some (.int (nI c7)) := by rw [g_27_2 s, hDx.2.2.1.2.2.2.2.2]
        have l3 : (ar H' 20).length < 2147483648 := by rw [gn_20 s]; decide
        have l4 : (ar H' 22).length < 2147483648 := by rw [gn_22 s]; decide
        have l7 : (ar H' 28).length < 2147483648 := by rw [gn_28 s]; decide
        simp (maxDischargeDepth := 12) only [w45_0, w45_1, w45_2, w45_5, w45_8, w45_11, w45_12, w45_15, w45_16, w45_17, w45_20, w45_21, w45_23, w45_26, w45_27, w45_28, w45_30, w45_33, w45_34, w45_35, w45_38, w45_39, w45_40, w45_43, w45_46, w45_47, w45_48, w45_51, w45_52, w45_55, w45_56, w45_59, w45_62, w45_63, w45_66, w45_69, w45_70, w45_71, w45_72, w45_73, w45_76, oK_some, cont_int, cont_intS, cont_none, cont_noneS, cont_long, cont_longS, true_and, and_true, false_and, and_false, true_implies, false_implies, not_true_eq_false, not_false_eq_true, eq_self, or_true, true_or, Option.isSome_some, hpf_length, hpa_length, bI_eq0, fi_hpa, fl_hpa, ar_hpf, fi_hpf_ne, fl_hpf_ne, ar_hpa_ne, hpa_hpa, hpf_hpf, nI_1, two_ne, fokZ, implies_true, Nat.reduceEqDiff, g_29_1, rc_16, g_3_7, rc_14, g_16_7, rc_27, rc_29, rc_3, g_29_7, sf_29_7, fe_29_7, rc_4, rc_6, rc_8, rc_10, rc_12, rc_17, rc_19, rc_21, rc_23, rc_25, hF.len, s, x, c_takeF (d := d + 1) hP (show 18 < 19 by decide) x, c_numF (d := d + 4) hP x, c_whF (d := d + 5) hP x, c_advF (d := d + 5) s x, c_failF s x, c_rowHF (d := d) hP x hN, c_lineHere (d := d + 1) hP, c_named (d := d + 4) hP hN, c_kindHere (d := d + 1) hP, c_sightOf (d := d + 5) (g_16_3 s) (g_19_1 s) y3 (ga_20 s) l3 (by omega : c3 < 100000), c_wallOn (d := d + 5) (g_16_4 s) (g_21_1 s) y4 (ga_22 s) l4 (by omega : c4 < 100000), c_isSaid (d := d + 5) (g_16_7 s) (g_27_1 s) y7 (ga_28 s) l7 (by omega : c7 < 100000), q]
    · rw [e2, eb_er] at her
      have hA := hA1.trans hF
      have s := hF.shp
      have x := hE.ne
      have hN := (hD.of hA).nmp
      have hDx := hD.of hA
      have q := her _ _ rfl H' hA.d hE
      have y3 : gfl H' 19 9 2 = some (.int (nI c3)) := by rw [g_19_2 s, hDx.2.2.1.2.1]
      have y4 : gfl H' 21 9 2 = some (.int (nI c4)) := by rw [g_21_2 s, hDx.2.2.1.2.2.1]
      have y7 : gfl H' 27 9 2 = some (.int (nI c7)) := by rw [g_27_2 s, hDx.2.2.1.2.2.2.2.2]
      have l3 : (ar H' 20).length < 2147483648 := by rw [gn_20 s]; decide
      have l4 : (ar H' 22).length < 2147483648 := by rw [gn_22 s]; decide
      have l7 : (ar H' 28).length < 2147483648 := by rw [gn_28 s]; decide
      simp (maxDischargeDepth := 12) only [w45_0, w45_1, w45_2, w45_5, w45_8, w45_11, w45_12, w45_15, w45_16, w45_17, w45_20, w45_21, w45_23, w45_26, w45_27, w45_28, w45_30, w45_33, w45_34, w45_35, w45_38, w45_39, w45_40, w45_43, w45_46, w45_47, w45_48, w45_51, w45_52, w45_55, w45_56, w45_59, w45_62, w45_63, w45_66, w45_69, w45_70, w45_71, w45_72, w45_73, w45_76, oK_some, cont_int, cont_intS, cont_none, cont_noneS, cont_long, cont_longS, true_and, and_true, false_and, and_false, true_implies, false_implies, not_true_eq_false, not_false_eq_true, eq_self, or_true, true_or, Option.isSome_some, hpf_length, hpa_length, bI_eq0, fi_hpa, fl_hpa, ar_hpf, fi_hpf_ne, fl_hpf_ne, ar_hpa_ne, hpa_hpa, hpf_hpf, nI_1, two_ne, fokZ, implies_true, Nat.reduceEqDiff, g_29_1, rc_16, g_3_7, rc_14, g_16_7, rc_27, rc_29, rc_3, g_29_7, sf_29_7, fe_29_7, rc_4, rc_6, rc_8, rc_10, rc_12, rc_17, rc_19, rc_21, rc_23, rc_25, hF.len, s, x, c_takeF (d := d + 1) hP (show 18 < 19 by decide) x, c_numF (d := d + 4) hP x, c_whF (d := d + 5) hP x, c_advF (d := d + 5) s x, c_failF s x, c_rowHF (d := d) hP x hN, c_lineHere (d := d + 1) hP, c_named (d := d + 4) hP hN, c_kindHere (d := d + 1) hP, c_sightOf (d := d + 5) (g_16_3 s) (g_19_1 s) y3 (ga_20 s) l3 (by omega : c3 < 100000), c_wallOn (d := d + 5) (g_16_4 s) (g_21_1 s) y4 (ga_22 s) l4 (by omega : c4 < 100000), c_isSaid (d := d + 5) (g_16_7 s) (g_27_1 s) y7 (ga_28 s) l7 (by omega : c7 < 100000), q]
  · rw [e1, eb_er] at her
    have hA := hA0.trans hF
    have s := hF.shp
    have x := hE.ne
    have hN := (hD.of hA).nmp
    have hDx := hD.of hA
    have q := her _ _ rfl H' hA.d hE
    have y3 : gfl H' 19 9 2 = some (.int (nI c3)) := by rw [g_19_2 s, hDx.2.2.1.2.1]
    have y4 : gfl H' 21 9 2 = some (.int (nI c4)) := by rw [g_21_2 s, hDx.2.2.1.2.2.1]
    have y7 : gfl H' 27 9 2 = some (.int (nI c7)) := by rw [g_27_2 s, hDx.2.2.1.2.2.2.2.2]
    have l3 : (ar H' 20).length < 2147483648 := by rw [gn_20 s]; decide
    have l4 : (ar H' 22).length < 2147483648 := by rw [gn_22 s]; decide
    have l7 : (ar H' 28).length < 2147483648 := by rw [gn_28 s]; decide
    simp (maxDischargeDepth := 12) only [w45_0, w45_1, w45_2, w45_5, w45_8, w45_11, w45_12, w45_15, w45_16, w45_17, w45_20, w45_21, w45_23, w45_26, w45_27, w45_28, w45_30, w45_33, w45_34, w45_35, w45_38, w45_39, w45_40, w45_43, w45_46, w45_47, w45_48, w45_51, w45_52, w45_55, w45_56, w45_59, w45_62, w45_63, w45_66, w45_69, w45_70, w45_71, w45_72, w45_73, w45_76, oK_some, cont_int, cont_intS, cont_none, cont_noneS, cont_long, cont_longS, true_and, and_true, false_and, and_false, true_implies, false_implies, not_true_eq_false, not_false_eq_true, eq_self, or_true, true_or, Option.isSome_some, hpf_length, hpa_length, bI_eq0, fi_hpa, fl_hpa, ar_hpf, fi_hpf_ne, fl_hpf_ne, ar_hpa_ne, hpa_hpa, hpf_hpf, nI_1, two_ne, fokZ, implies_true, Nat.reduceEqDiff, g_29_1, rc_16, g_3_7, rc_14, g_16_7, rc_27, rc_29, rc_3, g_29_7, sf_29_7, fe_29_7, rc_4, rc_6, rc_8, rc_10, rc_12, rc_17, rc_19, rc_21, rc_23, rc_25, hF.len, s, x, c_takeF (d := d + 1) hP (show 18 < 19 by decide) x, c_numF (d := d + 4) hP x, c_whF (d := d + 5) hP x, c_advF (d := d + 5) s x, c_failF s x, c_rowHF (d := d) hP x hN, c_lineHere (d := d + 1) hP, c_named (d := d + 4) hP hN, c_kindHere (d := d + 1) hP, c_sightOf (d := d + 5) (g_16_3 s) (g_19_1 s) y3 (ga_20 s) l3 (by omega : c3 < 100000), c_wallOn (d := d + 5) (g_16_4 s) (g_21_1 s) y4 (ga_22 s) l4 (by omega : c4 < 100000), c_isSaid (d := d + 5) (g_16_7 s) (g_27_1 s) y7 (ga_28 s) l7 (by omega : c7 < 100000), q]
end CLN3
