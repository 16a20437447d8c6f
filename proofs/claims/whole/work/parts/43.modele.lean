/-! ===== the Model: sets, setAt, could, surely, look, tell ===== -/
def lkX (D : List Int32) (many : Int32) (k : Nat) : Int32 := if many - D.getD k 0 < D.getD k 0 then D.getD k 0 else many - D.getD k 0
def lkF (D : List Int32) (many : Int32) (k : Nat) (p : Int32 × Int32) : Int32 × Int32 := if 0 ≤ p.1 ∧ p.2 ≤ lkX D many k then p else (100 * (nI k / 21) + (nI k - nI k / 21 * 21), lkX D many k)
def lkM (D : List Int32) (many : Int32) (n : Nat) : Int32 × Int32 := if 0 < many then forN (lkF D many) (21 * n) (-2, -2) else (-2, -2)
section MODELE
variable {scr : List Int32} {d n nS nW nG nU nN w : Nat} {H : List AC} {R st : List Int32} {Q : Option Value → List AC → Prop}
theorem M_sets (hI : MIv H R st n nS nW nG nU nN) (hV : Vd R nN) (hQ : MR H Q (if 0 < n then (ssM R st n nW nG nU nN (-1) (2 ^ nU)).2.1 else -1) (if 0 < n then 0 else 1)) : Wp scr (d + 7) 270 0 [some (.ref 68)] [] H Q := by
  have hS := hI.shp
  have hg := gd_fg hS
  have hI1 := hI.q hg
  have hs1 := hI1.shp
  have hM1 : Mn (ar (gd H) 71) n nS nW nG nU nN := by rw [hI1.2.1]; exact hI1.mn
  have h14 := hI1.2.2.2.2
  have e73 := hI1.2.2.1
  have rgR : ∀ j, R.getD j 0 = rg R j := fun _ => rfl
  have l73 := hI1.l
  obtain ⟨c2, c3, c4, c5, c6, c7, b2, b3, b4, b5, b6, b7⟩ := hI1.mn
  simp (maxDischargeDepth := 12) only [w270_0, w270_1, w270_4, w270_5, w270_8, w270_11, w270_12, w270_13, w270_16, w270_17, w270_18, w270_19, w270_22, w270_23, w270_24, w270_27, oK_some, cont_int, cont_intS, cont_none, cont_noneS, cont_long, cont_longS, true_and, and_true, false_and, and_false, true_implies, false_implies, not_true_eq_false, not_false_eq_true, eq_self, or_true, true_or, Option.isSome_some, hpf_length, hpa_length, bI_eq0, fi_hpa, fl_hpa, ar_hpf, fi_hpf_ne, fl_hpf_ne, ar_hpa_ne, hpa_hpa, hpf_hpf, nI_1, two_ne, fokZ, implies_true, Nat.reduceEqDiff, rc_68, g_68_14, sf_68_14, fe_68_14, g_68_28, sf_68_28, fe_68_28, hS, m_good, gd_len, hs1, h14, e73, l73, hI1.2.1, rgR, hI1.lr, m_no, decide_eq_false_iff_not, gn_71, jb_7_10, jb_8_10, jb_9_10]
  by_cases hp : 0 < n
  · simp only [hp, if_true] at hQ
    simp only [hp, oK_some, cont_int, cont_intS, cont_none, cont_noneS, cont_long, cont_longS, true_and, and_true, false_and, and_false, true_implies, false_implies, not_true_eq_false, not_false_eq_true, eq_self, or_true, true_or, Option.isSome_some, hpf_length, hpa_length, bI_eq0, fi_hpa, fl_hpa, ar_hpf, fi_hpf_ne, fl_hpf_ne, ar_hpa_ne, hpa_hpa, hpf_hpf, nI_1, two_ne, fokZ, implies_true, Nat.reduceEqDiff]
    refine m_seekSets hI1 hV (fun H2 hF2 g1 g2 g3 g4 => ?_)
    have hs2 := hF2.shp
    simp (maxDischargeDepth := 12) only [w270_0, w270_1, w270_4, w270_5, w270_8, w270_11, w270_12, w270_13, w270_16, w270_17, w270_18, w270_19, w270_22, w270_23, w270_24, w270_27, oK_some, cont_int, cont_intS, cont_none, cont_noneS, cont_long, cont_longS, true_and, and_true, false_and, and_false, true_implies, false_implies, not_true_eq_false, not_false_eq_true, eq_self, or_true, true_or, Option.isSome_some, hpf_length, hpa_length, bI_eq0, fi_hpa, fl_hpa, ar_hpf, fi_hpf_ne, fl_hpf_ne, ar_hpa_ne, hpa_hpa, hpf_hpf, nI_1, two_ne, fokZ, implies_true, Nat.reduceEqDiff, rc_68, g_68_14, sf_68_14, fe_68_14, g_68_28, sf_68_28, fe_68_28, hF2.len, hs2, g1]
    exact mr_ok hS hF2 (by decide) (by decide) (by decide) (by decide) (by decide) hQ
  · simp only [hp, if_false] at hQ
    simp only [hp, oK_some, cont_int, cont_intS, cont_none, cont_noneS, cont_long, cont_longS, true_and, and_true, false_and, and_false, true_implies, false_implies, not_true_eq_false, not_false_eq_true, eq_self, or_true, true_or, Option.isSome_some, hpf_length, hpa_length, bI_eq0, fi_hpa, fl_hpa, ar_hpf, fi_hpf_ne, fl_hpf_ne, ar_hpa_ne, hpa_hpa, hpf_hpf, nI_1, two_ne, fokZ, implies_true, Nat.reduceEqDiff]
    exact mr_no hS hg (gd_0 hS) hQ
theorem M_could (hI : MIv H R st n nS nW nG nU nN) (hV : Vd R nN) (hQ : MR H Q (if 0 < n then (ssM R st n nW nG nU nN (-1) (2 ^ nU)).2.2.1 else -1) (if 0 < n then 0 else 1)) : Wp scr (d + 7) 272 0 [some (.ref 68)] [] H Q := by
  have hS := hI.shp
  have hg := gd_fg hS
  have hI1 := hI.q hg
  have hs1 := hI1.shp
  have hM1 : Mn (ar (gd H) 71) n nS nW nG nU nN := by rw [hI1.2.1]; exact hI1.mn
  have h14 := hI1.2.2.2.2
  have e73 := hI1.2.2.1
  have rgR : ∀ j, R.getD j 0 = rg R j := fun _ => rfl
  have l73 := hI1.l
  obtain ⟨c2, c3, c4, c5, c6, c7, b2, b3, b4, b5, b6, b7⟩ := hI1.mn
  simp (maxDischargeDepth := 12) only [w272_0, w272_1, w272_4, w272_5, w272_8, w272_11, w272_12, w272_13, w272_16, w272_17, w272_18, w272_19, w272_22, w272_23, w272_24, w272_27, oK_some, cont_int, cont_intS, cont_none, cont_noneS, cont_long, cont_longS, true_and, and_true, false_and, and_false, true_implies, false_implies, not_true_eq_false, not_false_eq_true, eq_self, or_true, true_or, Option.isSome_some, hpf_length, hpa_length, bI_eq0, fi_hpa, fl_hpa, ar_hpf, fi_hpf_ne, fl_hpf_ne, ar_hpa_ne, hpa_hpa, hpf_hpf, nI_1, two_ne, fokZ, implies_true, Nat.reduceEqDiff, rc_68, g_68_14, sf_68_14, fe_68_14, g_68_29, sf_68_29, fe_68_29, hS, m_good, gd_len, hs1, h14, e73, l73, hI1.2.1, rgR, hI1.lr, m_no, decide_eq_false_iff_not, gn_71, jb_7_10, jb_8_10, jb_9_10]
  by_cases hp : 0 < n
  · simp only [hp, if_true] at hQ
    simp only [hp, oK_some, cont_int, cont_intS, cont_none, cont_noneS, cont_long, cont_longS, true_and, and_true, false_and, and_false, true_implies, false_implies, not_true_eq_false, not_false_eq_true, eq_self, or_true, true_or, Option.isSome_some, hpf_length, hpa_length, bI_eq0, fi_hpa, fl_hpa, ar_hpf, fi_hpf_ne, fl_hpf_ne, ar_hpa_ne, hpa_hpa, hpf_hpf, nI_1, two_ne, fokZ, implies_true, Nat.reduceEqDiff]
    refine m_seekSets hI1 hV (fun H2 hF2 g1 g2 g3 g4 => ?_)
    have hs2 := hF2.shp
    simp (maxDischargeDepth := 12) only [w272_0, w272_1, w272_4, w272_5, w272_8, w272_11, w272_12, w272_13, w272_16, w272_17, w272_18, w272_19, w272_22, w272_23, w272_24, w272_27, oK_some, cont_int, cont_intS, cont_none, cont_noneS, cont_long, cont_longS, true_and, and_true, false_and, and_false, true_implies, false_implies, not_true_eq_false, not_false_eq_true, eq_self, or_true, true_or, Option.isSome_some, hpf_length, hpa_length, bI_eq0, fi_hpa, fl_hpa, ar_hpf, fi_hpf_ne, fl_hpf_ne, ar_hpa_ne, hpa_hpa, hpf_hpf, nI_1, two_ne, fokZ, implies_true, Nat.reduceEqDiff, rc_68, g_68_14, sf_68_14, fe_68_14, g_68_29, sf_68_29, fe_68_29, hF2.len, hs2, g2]
    exact mr_ok hS hF2 (by decide) (by decide) (by decide) (by decide) (by decide) hQ
  · simp only [hp, if_false] at hQ
    simp only [hp, oK_some, cont_int, cont_intS, cont_none, cont_noneS, cont_long, cont_longS, true_and, and_true, false_and, and_false, true_implies, false_implies, not_true_eq_false, not_false_eq_true, eq_self, or_true, true_or, Option.isSome_some, hpf_length, hpa_length, bI_eq0, fi_hpa, fl_hpa, ar_hpf, fi_hpf_ne, fl_hpf_ne, ar_hpa_ne, hpa_hpa, hpf_hpf, nI_1, two_ne, fokZ, implies_true, Nat.reduceEqDiff]
    exact mr_no hS hg (gd_0 hS) hQ
theorem M_surely (hI : MIv H R st n nS nW nG nU nN) (hV : Vd R nN) (hQ : MR H Q (if 0 < n then (if (ssM R st n nW nG nU nN (-1) (2 ^ nU)).2.1 = 0 then 0 else (ssM R st n nW nG nU nN (-1) (2 ^ nU)).2.2.2.1) else -1) (if 0 < n then 0 else 1)) : Wp scr (d + 7) 273 0 [some (.ref 68)] [] H Q := by
  have hS := hI.shp
  have hg := gd_fg hS
  have hI1 := hI.q hg
  have hs1 := hI1.shp
  have hM1 : Mn (ar (gd H) 71) n nS nW nG nU nN := by rw [hI1.2.1]; exact hI1.mn
  have h14 := hI1.2.2.2.2
  have e73 := hI1.2.2.1
  have rgR : ∀ j, R.getD j 0 = rg R j := fun _ => rfl
  have l73 := hI1.l
  obtain ⟨c2, c3, c4, c5, c6, c7, b2, b3, b4, b5, b6, b7⟩ := hI1.mn
  simp (maxDischargeDepth := 12) only [w273_0, w273_1, w273_4, w273_5, w273_8, w273_11, w273_12, w273_13, w273_16, w273_17, w273_18, w273_19, w273_22, w273_23, w273_24, w273_27, oK_some, cont_int, cont_intS, cont_none, cont_noneS, cont_long, cont_longS, true_and, and_true, false_and, and_false, true_implies, false_implies, not_true_eq_false, not_false_eq_true, eq_self, or_true, true_or, Option.isSome_some, hpf_length, hpa_length, bI_eq0, fi_hpa, fl_hpa, ar_hpf, fi_hpf_ne, fl_hpf_ne, ar_hpa_ne, hpa_hpa, hpf_hpf, nI_1, two_ne, fokZ, implies_true, Nat.reduceEqDiff, rc_68, g_68_14, sf_68_14, fe_68_14, g_68_30, sf_68_30, fe_68_30, hS, m_good, gd_len, hs1, h14, e73, l73, hI1.2.1, rgR, hI1.lr, m_no, decide_eq_false_iff_not, gn_71, jb_7_10, jb_8_10, jb_9_10]
  by_cases hp : 0 < n
  · simp only [hp, if_true] at hQ
    simp only [hp, oK_some, cont_int, cont_intS, cont_none, cont_noneS, cont_long, cont_longS, true_and, and_true, false_and, and_false, true_implies, false_implies, not_true_eq_false, not_false_eq_true, eq_self, or_true, true_or, Option.isSome_some, hpf_length, hpa_length, bI_eq0, fi_hpa, fl_hpa, ar_hpf, fi_hpf_ne, fl_hpf_ne, ar_hpa_ne, hpa_hpa, hpf_hpf, nI_1, two_ne, fokZ, implies_true, Nat.reduceEqDiff]
    refine m_seekSets hI1 hV (fun H2 hF2 g1 g2 g3 g4 => ?_)
    have hs2 := hF2.shp
    simp (maxDischargeDepth := 12) only [w273_0, w273_1, w273_4, w273_5, w273_8, w273_11, w273_12, w273_13, w273_16, w273_17, w273_18, w273_19, w273_22, w273_23, w273_24, w273_27, oK_some, cont_int, cont_intS, cont_none, cont_noneS, cont_long, cont_longS, true_and, and_true, false_and, and_false, true_implies, false_implies, not_true_eq_false, not_false_eq_true, eq_self, or_true, true_or, Option.isSome_some, hpf_length, hpa_length, bI_eq0, fi_hpa, fl_hpa, ar_hpf, fi_hpf_ne, fl_hpf_ne, ar_hpa_ne, hpa_hpa, hpf_hpf, nI_1, two_ne, fokZ, implies_true, Nat.reduceEqDiff, rc_68, g_68_14, sf_68_14, fe_68_14, g_68_30, sf_68_30, fe_68_30, hF2.len, hs2, g3]
    exact mr_ok hS hF2 (by decide) (by decide) (by decide) (by decide) (by decide) hQ
  · simp only [hp, if_false] at hQ
    simp only [hp, oK_some, cont_int, cont_intS, cont_none, cont_noneS, cont_long, cont_longS, true_and, and_true, false_and, and_false, true_implies, false_implies, not_true_eq_false, not_false_eq_true, eq_self, or_true, true_or, Option.isSome_some, hpf_length, hpa_length, bI_eq0, fi_hpa, fl_hpa, ar_hpf, fi_hpf_ne, fl_hpf_ne, ar_hpa_ne, hpa_hpa, hpf_hpf, nI_1, two_ne, fokZ, implies_true, Nat.reduceEqDiff]
    exact mr_no hS hg (gd_0 hS) hQ
theorem M_setAt {i : Int32} (hI : MIv H R st n nS nW nG nU nN) (hV : Vd R nN) (hQ : MR H Q (if 0 < n ∧ 0 ≤ i ∧ 0 ≤ (ssM R st n nW nG nU nN i (2 ^ nU)).1 then (ssM R st n nW nG nU nN i (2 ^ nU)).1 else -1) (if 0 < n ∧ 0 ≤ i ∧ 0 ≤ (ssM R st n nW nG nU nN i (2 ^ nU)).1 then 0 else 1)) : Wp scr (d + 7) 271 0 [some (.ref 68), some (.int i), none] [] H Q := by
  have hS := hI.shp
  have hg := gd_fg hS
  have hI1 := hI.q hg
  have hs1 := hI1.shp
  have hM1 : Mn (ar (gd H) 71) n nS nW nG nU nN := by rw [hI1.2.1]; exact hI1.mn
  have h14 := hI1.2.2.2.2
  have e73 := hI1.2.2.1
  have rgR : ∀ j, R.getD j 0 = rg R j := fun _ => rfl
  have l73 := hI1.l
  obtain ⟨c2, c3, c4, c5, c6, c7, b2, b3, b4, b5, b6, b7⟩ := hI1.mn
  simp (maxDischargeDepth := 12) only [w271_0, w271_1, w271_4, w271_5, w271_8, w271_11, w271_12, w271_15, w271_16, w271_17, w271_20, w271_21, w271_22, w271_23, w271_26, w271_27, w271_28, w271_31, w271_32, w271_33, w271_36, w271_39, w271_40, oK_some, cont_int, cont_intS, cont_none, cont_noneS, cont_long, cont_longS, true_and, and_true, false_and, and_false, true_implies, false_implies, not_true_eq_false, not_false_eq_true, eq_self, or_true, true_or, Option.isSome_some, hpf_length, hpa_length, bI_eq0, fi_hpa, fl_hpa, ar_hpf, fi_hpf_ne, fl_hpf_ne, ar_hpa_ne, hpa_hpa, hpf_hpf, nI_1, two_ne, fokZ, implies_true, Nat.reduceEqDiff, rc_68, g_68_14, sf_68_14, fe_68_14, hS, m_good, gd_len, hs1, h14, e73, l73, hI1.2.1, rgR, hI1.lr, m_no, decide_eq_false_iff_not, gn_71, jb_7_10, jb_8_10, jb_9_10]
  by_cases hp : 0 < n
  · by_cases hi : 0 ≤ i
    · simp only [hp, hi, oK_some, cont_int, cont_intS, cont_none, cont_noneS, cont_long, cont_longS, true_and, and_true, false_and, and_false, true_implies, false_implies, not_true_eq_false, not_false_eq_true, eq_self, or_true, true_or, Option.isSome_some, hpf_length, hpa_length, bI_eq0, fi_hpa, fl_hpa, ar_hpf, fi_hpf_ne, fl_hpf_ne, ar_hpa_ne, hpa_hpa, hpf_hpf, nI_1, two_ne, fokZ, implies_true, Nat.reduceEqDiff]
      refine m_seekSets hI1 hV (fun H2 hF2 g1 g2 g3 g4 => ?_)
      have hs2 := hF2.shp
      generalize (ssM R st n nW nG nU nN i (2 ^ nU)).1 = B at hQ ⊢
      simp (maxDischargeDepth := 12) only [w271_0, w271_1, w271_4, w271_5, w271_8, w271_11, w271_12, w271_15, w271_16, w271_17, w271_20, w271_21, w271_22, w271_23, w271_26, w271_27, w271_28, w271_31, w271_32, w271_33, w271_36, w271_39, w271_40, oK_some, cont_int, cont_intS, cont_none, cont_noneS, cont_long, cont_longS, true_and, and_true, false_and, and_false, true_implies, false_implies, not_true_eq_false, not_false_eq_true, eq_self, or_true, true_or, Option.isSome_some, hpf_length, hpa_length, bI_eq0, fi_hpa, fl_hpa, ar_hpf, fi_hpf_ne, fl_hpf_ne, ar_hpa_ne, hpa_hpa, hpf_hpf, nI_1, two_ne, fokZ, implies_true, Nat.reduceEqDiff, rc_68, g_68_14, sf_68_14, fe_68_14, hF2.len, hs2, m_no]
      by_cases hb : 0 ≤ B
      · simp only [hp, hi, hb, and_self, if_true] at hQ
        simp only [hb, oK_some, cont_int, cont_intS, cont_none, cont_noneS, cont_long, cont_longS, true_and, and_true, false_and, and_false, true_implies, false_implies, not_true_eq_false, not_false_eq_true, eq_self, or_true, true_or, Option.isSome_some, hpf_length, hpa_length, bI_eq0, fi_hpa, fl_hpa, ar_hpf, fi_hpf_ne, fl_hpf_ne, ar_hpa_ne, hpa_hpa, hpf_hpf, nI_1, two_ne, fokZ, implies_true, Nat.reduceEqDiff]
        exact mr_ok hS hF2 (by decide) (by decide) (by decide) (by decide) (by decide) hQ
      · simp only [hb, and_false, if_false] at hQ
        simp only [hb, oK_some, cont_int, cont_intS, cont_none, cont_noneS, cont_long, cont_longS, true_and, and_true, false_and, and_false, true_implies, false_implies, not_true_eq_false, not_false_eq_true, eq_self, or_true, true_or, Option.isSome_some, hpf_length, hpa_length, bI_eq0, fi_hpa, fl_hpa, ar_hpf, fi_hpf_ne, fl_hpf_ne, ar_hpa_ne, hpa_hpa, hpf_hpf, nI_1, two_ne, fokZ, implies_true, Nat.reduceEqDiff]
        exact mr_no hS ((gd_fg hS).trans (hF2.mono (by decide) (by decide))) (by rw [hF2.int (by decide) (by decide), gd_0 hS]) hQ
    · simp only [hi, false_and, and_false, if_false] at hQ
      simp only [hp, hi, oK_some, cont_int, cont_intS, cont_none, cont_noneS, cont_long, cont_longS, true_and, and_true, false_and, and_false, true_implies, false_implies, not_true_eq_false, not_false_eq_true, eq_self, or_true, true_or, Option.isSome_some, hpf_length, hpa_length, bI_eq0, fi_hpa, fl_hpa, ar_hpf, fi_hpf_ne, fl_hpf_ne, ar_hpa_ne, hpa_hpa, hpf_hpf, nI_1, two_ne, fokZ, implies_true, Nat.reduceEqDiff]
      exact mr_no hS hg (gd_0 hS) hQ
  · simp only [hp, false_and, if_false] at hQ
    simp only [hp, oK_some, cont_int, cont_intS, cont_none, cont_noneS, cont_long, cont_longS, true_and, and_true, false_and, and_false, true_implies, false_implies, not_true_eq_false, not_false_eq_true, eq_self, or_true, true_or, Option.isSome_some, hpf_length, hpa_length, bI_eq0, fi_hpa, fl_hpa, ar_hpf, fi_hpf_ne, fl_hpf_ne, ar_hpa_ne, hpa_hpa, hpf_hpf, nI_1, two_ne, fokZ, implies_true, Nat.reduceEqDiff]
    exact mr_no hS hg (gd_0 hS) hQ
theorem m_lookOf (hI : MIv H R st n nS nW nG nU nN) (hV : Vd R nN) (hQ : ∀ H', Fg [76, 77, 79, 80] [(68, 22), (68, 28), (68, 29), (68, 30), (68, 31)] H H' → fi H' 68 31 = (lkM (ssM R st n nW nG nU nN (-1) (2 ^ nU)).2.2.2.2 (ssM R st n nW nG nU nN (-1) (2 ^ nU)).2.1 n).2 → Q (some (.int (lkM (ssM R st n nW nG nU nN (-1) (2 ^ nU)).2.2.2.2 (ssM R st n nW nG nU nN (-1) (2 ^ nU)).2.1 n).1)) H') : Wp scr (d + 7) 274 0 [some (.ref 68), none, none, none] [] H Q := by
  obtain ⟨c2, c3, c4, c5, c6, c7, b2, b3, b4, b5, b6, b7⟩ := hI.mn
  have rgR : ∀ j, R.getD j 0 = rg R j := fun _ => rfl
  simp only [w274_0, w274_1, w274_2, rc_68 hI.shp, true_and]
  refine m_seekSets hI hV (fun H1 hF1 g1 g2 g3 g4 => ?_)
  have hs1 := hF1.shp
  have l80 : (ssM R st n nW nG nU nN (-1) (2 ^ nU)).2.2.2.2.length = 147 := by rw [← g4]; exact gn_80 hs1
  generalize (ssM R st n nW nG nU nN (-1) (2 ^ nU)).2.2.2.2 = D at hQ g4 l80
  generalize (ssM R st n nW nG nU nN (-1) (2 ^ nU)).2.1 = many at hQ g1
  simp (maxDischargeDepth := 12) only [w274_0, w274_1, w274_2, w274_5, w274_6, w274_8, w274_9, w274_10, w274_12, w274_15, w274_16, w274_18, w274_20, w274_21, w274_24, w274_25, w274_26, w274_27, w274_30, w274_31, w274_34, w274_37, w274_38, w274_41, w274_42, w274_43, w274_44, w274_47, w274_48, w274_51, w274_52, w274_53, w274_54, w274_57, w274_58, w274_61, w274_62, w274_63, w274_66, w274_67, w274_70, w274_71, w274_74, w274_75, w274_76, w274_77, w274_78, w274_79, w274_82, w274_83, w274_84, w274_87, w274_90, w274_93, w274_95, w274_96, w274_98, w274_99, w274_100, w274_101, w274_103, w274_104, w274_105, w274_106, w274_107, w274_108, w274_111, w274_114, w274_117, w274_118, oK_some, cont_int, cont_intS, cont_none, cont_noneS, cont_long, cont_longS, true_and, and_true, false_and, and_false, true_implies, false_implies, not_true_eq_false, not_false_eq_true, eq_self, or_true, true_or, Option.isSome_some, hpf_length, hpa_length, bI_eq0, fi_hpa, fl_hpa, ar_hpf, fi_hpf_ne, fl_hpf_ne, ar_hpa_ne, hpa_hpa, hpf_hpf, nI_1, two_ne, fokZ, implies_true, Nat.reduceEqDiff, rc_68, g_68_31, sf_68_31, fe_68_31, g_68_15, ga_71, gn_71, sa_71, ae_71, g_68_28, sf_68_28, fe_68_28, g_68_27, ga_80, gn_80, sa_80, ae_80, kl_0, kl_1, kl_2, kl_3, kl_4, kl_5, kl_6, kl_7, kl_8, kl_9, kl_10, kl_11, kl_12, jb_0_211, jb_1_211, jb_2_211, jb_3_211, jb_4_211, jb_5_211, jb_6_211, jb_7_211, jb_8_211, jb_9_211, jb_10_211, jb_11_211, jb_12_211, jb_0_147, jb_1_147, jb_2_147, jb_3_147, jb_4_147, jb_5_147, jb_6_147, jb_7_147, jb_8_147, jb_9_147, jb_10_147, jb_11_147, jb_12_147, hF1.len, hs1]
  generalize hH2 : hpf H1 68 31 (.int (-2)) = H2
  have hF2 : Fg [76, 77, 79, 80] [(68, 22), (68, 28), (68, 29), (68, 30), (68, 31)] H H2 := by
    rw [← hH2]
    exact (hF1.mono (by decide) (by decide)).trans (fg_hpf (a := 68) (f := 31) (ci := 12) hs1 rfl (by decide))
  have q1 : fi H2 68 28 = many := by rw [← hH2, fi_hpf_ne (by decide), g1]
  have q2 : fi H2 68 31 = -2 := by rw [← hH2, fe_68_31 hs1]
  have q3 : ar H2 80 = D := by rw [← hH2, ar_hpf, g4]
  have ee : (21 : Int32) * nI n = nI (21 * n) := by rw [show (21 : Int32) = nI 21 from rfl, pk_mul]
  by_cases hm : 0 < many
  · have hm' : ¬ many ≤ 0 := by rw [Int32.not_le]; exact hm
    unfold lkM at hQ
    rw [if_pos hm] at hQ
    have key := down (P := fun i => ∀ H3, ∀ o3 : Option Value, Fg [76, 77, 79, 80] [(68, 22), (68, 28), (68, 29), (68, 30), (68, 31)] H H3 → fi H3 68 28 = many → fi H3 68 31 = (forN (lkF D many) i (-2, -2)).2 → ar H3 80 = D → Wp scr (d + 7) 274 17 [some (.ref 68), some (.int (forN (lkF D many) i (-2, -2)).1), some (.int (nI i)), o3] [] H3 Q) (21 * n) ?_ ?_
    · exact key H2 none hF2 q1 q2 q3
    · intro H3 o3 hF3 k1 k2 k3
      have hI3 := hI.of hF3 (by decide) (by decide) (by decide) (by decide)
      have hs3 := hF3.shp
      rw [w274_17]
      simp (maxDischargeDepth := 12) only [w274_0, w274_1, w274_2, w274_5, w274_6, w274_8, w274_9, w274_10, w274_12, w274_15, w274_16, w274_18, w274_20, w274_21, w274_24, w274_25, w274_26, w274_27, w274_30, w274_31, w274_34, w274_37, w274_38, w274_41, w274_42, w274_43, w274_44, w274_47, w274_48, w274_51, w274_52, w274_53, w274_54, w274_57, w274_58, w274_61, w274_62, w274_63, w274_66, w274_67, w274_70, w274_71, w274_74, w274_75, w274_76, w274_77, w274_78, w274_79, w274_82, w274_83, w274_84, w274_87, w274_90, w274_93, w274_95, w274_96, w274_98, w274_99, w274_100, w274_101, w274_103, w274_104, w274_105, w274_106, w274_107, w274_108, w274_111, w274_114, w274_117, w274_118, oK_some, cont_int, cont_intS, cont_none, cont_noneS, cont_long, cont_longS, true_and, and_true, false_and, and_false, true_implies, false_implies, not_true_eq_false, not_false_eq_true, eq_self, or_true, true_or, Option.isSome_some, hpf_length, hpa_length, bI_eq0, fi_hpa, fl_hpa, ar_hpf, fi_hpf_ne, fl_hpf_ne, ar_hpa_ne, hpa_hpa, hpf_hpf, nI_1, two_ne, fokZ, implies_true, Nat.reduceEqDiff, rc_68, g_68_31, sf_68_31, fe_68_31, g_68_15, ga_71, gn_71, sa_71, ae_71, g_68_28, sf_68_28, fe_68_28, g_68_27, ga_80, gn_80, sa_80, ae_80, kl_0, kl_1, kl_2, kl_3, kl_4, kl_5, kl_6, kl_7, kl_8, kl_9, kl_10, kl_11, kl_12, jb_0_211, jb_1_211, jb_2_211, jb_3_211, jb_4_211, jb_5_211, jb_6_211, jb_7_211, jb_8_211, jb_9_211, jb_10_211, jb_11_211, jb_12_211, jb_0_147, jb_1_147, jb_2_147, jb_3_147, jb_4_147, jb_5_147, jb_6_147, jb_7_147, jb_8_147, jb_9_147, jb_10_147, jb_11_147, jb_12_147, hs3, hI3.2.1, hI3.lr, rgR, c2, ee, nI_les]
      exact hQ H3 hF3 k2
    · intro i hi hw H3 o3 hF3 k1 k2 k3
      have hI3 := hI.of hF3 (by decide) (by decide) (by decide) (by decide)
      have hs3 := hF3.shp
      rw [forN_succ] at hw
      generalize forN (lkF D many) i (-2, -2) = p at hw k2 ⊢
      obtain ⟨p1, p2⟩ := p
      rw [w274_17]
      simp (maxDischargeDepth := 12) only [w274_0, w274_1, w274_2, w274_5, w274_6, w274_8, w274_9, w274_10, w274_12, w274_15, w274_16, w274_18, w274_20, w274_21, w274_24, w274_25, w274_26, w274_27, w274_30, w274_31, w274_34, w274_37, w274_38, w274_41, w274_42, w274_43, w274_44, w274_47, w274_48, w274_51, w274_52, w274_53, w274_54, w274_57, w274_58, w274_61, w274_62, w274_63, w274_66, w274_67, w274_70, w274_71, w274_74, w274_75, w274_76, w274_77, w274_79, w274_82, w274_83, w274_84, w274_87, w274_90, w274_93, w274_95, w274_96, w274_98, w274_99, w274_100, w274_101, w274_103, w274_104, w274_105, w274_106, w274_107, w274_108, w274_111, w274_114, w274_117, w274_118, oK_some, cont_int, cont_intS, cont_none, cont_noneS, cont_long, cont_longS, true_and, and_true, false_and, and_false, true_implies, false_implies, not_true_eq_false, not_false_eq_true, eq_self, or_true, true_or, Option.isSome_some, hpf_length, hpa_length, bI_eq0, fi_hpa, fl_hpa, ar_hpf, fi_hpf_ne, fl_hpf_ne, ar_hpa_ne, hpa_hpa, hpf_hpf, nI_1, two_ne, fokZ, implies_true, Nat.reduceEqDiff, rc_68, g_68_31, sf_68_31, fe_68_31, g_68_15, ga_71, gn_71, sa_71, ae_71, g_68_28, sf_68_28, fe_68_28, g_68_27, ga_80, gn_80, sa_80, ae_80, kl_0, kl_1, kl_2, kl_3, kl_4, kl_5, kl_6, kl_7, kl_8, kl_9, kl_10, kl_11, kl_12, jb_0_211, jb_1_211, jb_2_211, jb_3_211, jb_4_211, jb_5_211, jb_6_211, jb_7_211, jb_8_211, jb_9_211, jb_10_211, jb_11_211, jb_12_211, jb_0_147, jb_1_147, jb_2_147, jb_3_147, jb_4_147, jb_5_147, jb_6_147, jb_7_147, jb_8_147, jb_9_147, jb_10_147, jb_11_147, jb_12_147, hs3, hI3.2.1, hI3.lr, rgR, c2, ee, nI_lef hi (by omega : 21 * n < 2147483648), k1, k2, k3, l80, inb_nI (i := i) (by omega), decide_eq_true (by omega : i < 147), nI_clamp (n := i) (by omega), hm', show ((21 : Int32) = 0) = False from eq_false (by decide)]
      have fin : ∀ v : Int32, v = lkX D many i → Wp scr (d + 7) 274 78 [some (.ref 68), some (.int p1), some (.int (nI i)), some (.int v)] [] H3 Q := by
        intro v hv
        have ev : lkF D many i (p1, p2) = if 0 ≤ p1 ∧ p2 ≤ v then (p1, p2) else (100 * (nI i / 21) + (nI i - nI i / 21 * 21), v) := by rw [hv]; rfl
        rw [ev] at hw
        simp (maxDischargeDepth := 12) only [w274_0, w274_1, w274_2, w274_5, w274_6, w274_8, w274_9, w274_10, w274_12, w274_15, w274_16, w274_18, w274_20, w274_21, w274_24, w274_25, w274_26, w274_27, w274_30, w274_31, w274_34, w274_37, w274_38, w274_41, w274_42, w274_43, w274_44, w274_47, w274_48, w274_51, w274_52, w274_53, w274_54, w274_57, w274_58, w274_61, w274_62, w274_63, w274_66, w274_67, w274_70, w274_71, w274_74, w274_75, w274_76, w274_77, w274_78, w274_79, w274_82, w274_83, w274_84, w274_87, w274_90, w274_93, w274_95, w274_96, w274_98, w274_99, w274_100, w274_101, w274_103, w274_104, w274_105, w274_106, w274_107, w274_108, w274_111, w274_114, w274_117, w274_118, oK_some, cont_int, cont_intS, cont_none, cont_noneS, cont_long, cont_longS, true_and, and_true, false_and, and_false, true_implies, false_implies, not_true_eq_false, not_false_eq_true, eq_self, or_true, true_or, Option.isSome_some, hpf_length, hpa_length, bI_eq0, fi_hpa, fl_hpa, ar_hpf, fi_hpf_ne, fl_hpf_ne, ar_hpa_ne, hpa_hpa, hpf_hpf, nI_1, two_ne, fokZ, implies_true, Nat.reduceEqDiff, rc_68, g_68_31, sf_68_31, fe_68_31, g_68_15, ga_71, gn_71, sa_71, ae_71, g_68_28, sf_68_28, fe_68_28, g_68_27, ga_80, gn_80, sa_80, ae_80, kl_0, kl_1, kl_2, kl_3, kl_4, kl_5, kl_6, kl_7, kl_8, kl_9, kl_10, kl_11, kl_12, jb_0_211, jb_1_211, jb_2_211, jb_3_211, jb_4_211, jb_5_211, jb_6_211, jb_7_211, jb_8_211, jb_9_211, jb_10_211, jb_11_211, jb_12_211, jb_0_147, jb_1_147, jb_2_147, jb_3_147, jb_4_147, jb_5_147, jb_6_147, jb_7_147, jb_8_147, jb_9_147, jb_10_147, jb_11_147, jb_12_147, hs3, k2, show ((21 : Int32) = 0) = False from eq_false (by decide)]
        by_cases h1 : p1 < 0
        · have h1' : ¬ 0 ≤ p1 := by rw [Int32.not_le]; exact h1
          rw [if_neg (fun q => h1' q.1)] at hw
          simp only [h1, oK_some, cont_int, cont_intS, cont_none, cont_noneS, cont_long, cont_longS, true_and, and_true, false_and, and_false, true_implies, false_implies, not_true_eq_false, not_false_eq_true, eq_self, or_true, true_or, Option.isSome_some, hpf_length, hpa_length, bI_eq0, fi_hpa, fl_hpa, ar_hpf, fi_hpf_ne, fl_hpf_ne, ar_hpa_ne, hpa_hpa, hpf_hpf, nI_1, two_ne, fokZ, implies_true, Nat.reduceEqDiff]
          exact hw _ _ (hF3.trans (fg_hpf (a := 68) (f := 31) (ci := 12) hs3 rfl (by decide))) (by rw [fi_hpf_ne (by decide), k1]) (by rw [fe_68_31 hs3]) (by rw [ar_hpf, k3])
        · have h1' : 0 ≤ p1 := by rw [← Int32.not_lt]; exact h1
          by_cases h2 : v < p2
          · have h2' : ¬ p2 ≤ v := by rw [Int32.not_le]; exact h2
            rw [if_neg (fun q => h2' q.2)] at hw
            simp only [h1, h2, oK_some, cont_int, cont_intS, cont_none, cont_noneS, cont_long, cont_longS, true_and, and_true, false_and, and_false, true_implies, false_implies, not_true_eq_false, not_false_eq_true, eq_self, or_true, true_or, Option.isSome_some, hpf_length, hpa_length, bI_eq0, fi_hpa, fl_hpa, ar_hpf, fi_hpf_ne, fl_hpf_ne, ar_hpa_ne, hpa_hpa, hpf_hpf, nI_1, two_ne, fokZ, implies_true, Nat.reduceEqDiff]
            exact hw _ _ (hF3.trans (fg_hpf (a := 68) (f := 31) (ci := 12) hs3 rfl (by decide))) (by rw [fi_hpf_ne (by decide), k1]) (by rw [fe_68_31 hs3]) (by rw [ar_hpf, k3])
          · have h2' : p2 ≤ v := by rw [← Int32.not_lt]; exact h2
            rw [if_pos ⟨h1', h2'⟩] at hw
            simp only [h1, h2, oK_some, cont_int, cont_intS, cont_none, cont_noneS, cont_long, cont_longS, true_and, and_true, false_and, and_false, true_implies, false_implies, not_true_eq_false, not_false_eq_true, eq_self, or_true, true_or, Option.isSome_some, hpf_length, hpa_length, bI_eq0, fi_hpa, fl_hpa, ar_hpf, fi_hpf_ne, fl_hpf_ne, ar_hpa_ne, hpa_hpa, hpf_hpf, nI_1, two_ne, fokZ, implies_true, Nat.reduceEqDiff]
            exact hw _ _ hF3 k1 k2 k3
      by_cases hx : D.getD i 0 ≤ many - D.getD i 0
      · have hx' : ¬ many - D.getD i 0 < D.getD i 0 := by rw [Int32.not_lt]; exact hx
        simp only [hx, oK_some, cont_int, cont_intS, cont_none, cont_noneS, cont_long, cont_longS, true_and, and_true, false_and, and_false, true_implies, false_implies, not_true_eq_false, not_false_eq_true, eq_self, or_true, true_or, Option.isSome_some, hpf_length, hpa_length, bI_eq0, fi_hpa, fl_hpa, ar_hpf, fi_hpf_ne, fl_hpf_ne, ar_hpa_ne, hpa_hpa, hpf_hpf, nI_1, two_ne, fokZ, implies_true, Nat.reduceEqDiff]
        exact fin _ (by unfold lkX; rw [if_neg hx'])
      · have hx' : many - D.getD i 0 < D.getD i 0 := by rw [← Int32.not_le]; exact hx
        simp only [hx, oK_some, cont_int, cont_intS, cont_none, cont_noneS, cont_long, cont_longS, true_and, and_true, false_and, and_false, true_implies, false_implies, not_true_eq_false, not_false_eq_true, eq_self, or_true, true_or, Option.isSome_some, hpf_length, hpa_length, bI_eq0, fi_hpa, fl_hpa, ar_hpf, fi_hpf_ne, fl_hpf_ne, ar_hpa_ne, hpa_hpa, hpf_hpf, nI_1, two_ne, fokZ, implies_true, Nat.reduceEqDiff]
        exact fin _ (by unfold lkX; rw [if_pos hx'])
  · have hm' : many ≤ 0 := by rw [← Int32.not_lt]; exact hm
    unfold lkM at hQ
    rw [if_neg hm] at hQ
    have hI3 := hI.of hF2 (by decide) (by decide) (by decide) (by decide)
    have hs3 := hF2.shp
    rw [w274_17]
    simp (maxDischargeDepth := 12) only [w274_0, w274_1, w274_2, w274_5, w274_6, w274_8, w274_9, w274_10, w274_12, w274_15, w274_16, w274_18, w274_20, w274_21, w274_24, w274_25, w274_26, w274_27, w274_30, w274_31, w274_34, w274_37, w274_38, w274_41, w274_42, w274_43, w274_44, w274_47, w274_48, w274_51, w274_52, w274_53, w274_54, w274_57, w274_58, w274_61, w274_62, w274_63, w274_66, w274_67, w274_70, w274_71, w274_74, w274_75, w274_76, w274_77, w274_78, w274_79, w274_82, w274_83, w274_84, w274_87, w274_90, w274_93, w274_95, w274_96, w274_98, w274_99, w274_100, w274_101, w274_103, w274_104, w274_105, w274_106, w274_107, w274_108, w274_111, w274_114, w274_117, w274_118, oK_some, cont_int, cont_intS, cont_none, cont_noneS, cont_long, cont_longS, true_and, and_true, false_and, and_false, true_implies, false_implies, not_true_eq_false, not_false_eq_true, eq_self, or_true, true_or, Option.isSome_some, hpf_length, hpa_length, bI_eq0, fi_hpa, fl_hpa, ar_hpf, fi_hpf_ne, fl_hpf_ne, ar_hpa_ne, hpa_hpa, hpf_hpf, nI_1, two_ne, fokZ, implies_true, Nat.reduceEqDiff, rc_68, g_68_31, sf_68_31, fe_68_31, g_68_15, ga_71, gn_71, sa_71, ae_71, g_68_28, sf_68_28, fe_68_28, g_68_27, ga_80, gn_80, sa_80, ae_80, kl_0, kl_1, kl_2, kl_3, kl_4, kl_5, kl_6, kl_7, kl_8, kl_9, kl_10, kl_11, kl_12, jb_0_211, jb_1_211, jb_2_211, jb_3_211, jb_4_211, jb_5_211, jb_6_211, jb_7_211, jb_8_211, jb_9_211, jb_10_211, jb_11_211, jb_12_211, jb_0_147, jb_1_147, jb_2_147, jb_3_147, jb_4_147, jb_5_147, jb_6_147, jb_7_147, jb_8_147, jb_9_147, jb_10_147, jb_11_147, jb_12_147, hs3, hI3.2.1, hI3.lr, rgR, c2, ee, q1, hm']
    refine ⟨fun _ => hQ H2 hF2 q2, fun _ => hQ H2 hF2 q2⟩
theorem M_look (hI : MIv H R st n nS nW nG nU nN) (hV : Vd R nN) (hQ : MR H Q (if 0 < n then (lkM (ssM R st n nW nG nU nN (-1) (2 ^ nU)).2.2.2.2 (ssM R st n nW nG nU nN (-1) (2 ^ nU)).2.1 n).1 else -1) (if 0 < n then 0 else 1)) : Wp scr (d + 8) 275 0 [some (.ref 68)] [] H Q := by
  have hS := hI.shp
  have hg := gd_fg hS
  have hI1 := hI.q hg
  have hs1 := hI1.shp
  have hM1 : Mn (ar (gd H) 71) n nS nW nG nU nN := by rw [hI1.2.1]; exact hI1.mn
  have h14 := hI1.2.2.2.2
  have e73 := hI1.2.2.1
  have rgR : ∀ j, R.getD j 0 = rg R j := fun _ => rfl
  have l73 := hI1.l
  obtain ⟨c2, c3, c4, c5, c6, c7, b2, b3, b4, b5, b6, b7⟩ := hI1.mn
  simp (maxDischargeDepth := 12) only [w275_0, w275_1, w275_4, w275_5, w275_8, w275_11, w275_12, w275_15, w275_18, w275_19, w275_20, w275_23, oK_some, cont_int, cont_intS, cont_none, cont_noneS, cont_long, cont_longS, true_and, and_true, false_and, and_false, true_implies, false_implies, not_true_eq_false, not_false_eq_true, eq_self, or_true, true_or, Option.isSome_some, hpf_length, hpa_length, bI_eq0, fi_hpa, fl_hpa, ar_hpf, fi_hpf_ne, fl_hpf_ne, ar_hpa_ne, hpa_hpa, hpf_hpf, nI_1, two_ne, fokZ, implies_true, Nat.reduceEqDiff, rc_68, g_68_14, sf_68_14, fe_68_14, hS, m_good, gd_len, hs1, h14, e73, l73, hI1.2.1, rgR, hI1.lr, m_no, decide_eq_false_iff_not, gn_71, jb_7_10, jb_8_10, jb_9_10]
  by_cases hp : 0 < n
  · simp only [hp, if_true] at hQ
    simp only [hp, oK_some, cont_int, cont_intS, cont_none, cont_noneS, cont_long, cont_longS, true_and, and_true, false_and, and_false, true_implies, false_implies, not_true_eq_false, not_false_eq_true, eq_self, or_true, true_or, Option.isSome_some, hpf_length, hpa_length, bI_eq0, fi_hpa, fl_hpa, ar_hpf, fi_hpf_ne, fl_hpf_ne, ar_hpa_ne, hpa_hpa, hpf_hpf, nI_1, two_ne, fokZ, implies_true, Nat.reduceEqDiff]
    refine m_lookOf hI1 hV (fun H2 hF2 g1 => ?_)
    simp (maxDischargeDepth := 12) only [w275_0, w275_1, w275_4, w275_5, w275_8, w275_11, w275_12, w275_15, w275_18, w275_19, w275_20, w275_23, oK_some, cont_int, cont_intS, cont_none, cont_noneS, cont_long, cont_longS, true_and, and_true, false_and, and_false, true_implies, false_implies, not_true_eq_false, not_false_eq_true, eq_self, or_true, true_or, Option.isSome_some, hpf_length, hpa_length, bI_eq0, fi_hpa, fl_hpa, ar_hpf, fi_hpf_ne, fl_hpf_ne, ar_hpa_ne, hpa_hpa, hpf_hpf, nI_1, two_ne, fokZ, implies_true, Nat.reduceEqDiff, rc_68, g_68_14, sf_68_14, fe_68_14, hF2.len]
    exact mr_ok hS hF2 (by decide) (by decide) (by decide) (by decide) (by decide) hQ
  · simp only [hp, if_false] at hQ
    simp only [hp, oK_some, cont_int, cont_intS, cont_none, cont_noneS, cont_long, cont_longS, true_and, and_true, false_and, and_false, true_implies, false_implies, not_true_eq_false, not_false_eq_true, eq_self, or_true, true_or, Option.isSome_some, hpf_length, hpa_length, bI_eq0, fi_hpa, fl_hpa, ar_hpf, fi_hpf_ne, fl_hpf_ne, ar_hpa_ne, hpa_hpa, hpf_hpf, nI_1, two_ne, fokZ, implies_true, Nat.reduceEqDiff]
    exact mr_no hS hg (gd_0 hS) hQ
theorem M_lookLeaves (hI : MIv H R st n nS nW nG nU nN) (hV : Vd R nN) (hQ : MR H Q (if 0 < n then (lkM (ssM R st n nW nG nU nN (-1) (2 ^ nU)).2.2.2.2 (ssM R st n nW nG nU nN (-1) (2 ^ nU)).2.1 n).2 else -1) (if 0 < n then 0 else 1)) : Wp scr (d + 8) 276 0 [some (.ref 68)] [] H Q := by
  have hS := hI.shp
  have hg := gd_fg hS
  have hI1 := hI.q hg
  have hs1 := hI1.shp
  have hM1 : Mn (ar (gd H) 71) n nS nW nG nU nN := by rw [hI1.2.1]; exact hI1.mn
  have h14 := hI1.2.2.2.2
  have e73 := hI1.2.2.1
  have rgR : ∀ j, R.getD j 0 = rg R j := fun _ => rfl
  have l73 := hI1.l
  obtain ⟨c2, c3, c4, c5, c6, c7, b2, b3, b4, b5, b6, b7⟩ := hI1.mn
  simp (maxDischargeDepth := 12) only [w276_0, w276_1, w276_4, w276_5, w276_8, w276_11, w276_12, w276_13, w276_16, w276_17, w276_18, w276_21, w276_22, w276_23, w276_26, oK_some, cont_int, cont_intS, cont_none, cont_noneS, cont_long, cont_longS, true_and, and_true, false_and, and_false, true_implies, false_implies, not_true_eq_false, not_false_eq_true, eq_self, or_true, true_or, Option.isSome_some, hpf_length, hpa_length, bI_eq0, fi_hpa, fl_hpa, ar_hpf, fi_hpf_ne, fl_hpf_ne, ar_hpa_ne, hpa_hpa, hpf_hpf, nI_1, two_ne, fokZ, implies_true, Nat.reduceEqDiff, rc_68, g_68_14, sf_68_14, fe_68_14, g_68_31, sf_68_31, fe_68_31, hS, m_good, gd_len, hs1, h14, e73, l73, hI1.2.1, rgR, hI1.lr, m_no, decide_eq_false_iff_not, gn_71, jb_7_10, jb_8_10, jb_9_10]
  by_cases hp : 0 < n
  · simp only [hp, if_true] at hQ
    simp only [hp, oK_some, cont_int, cont_intS, cont_none, cont_noneS, cont_long, cont_longS, true_and, and_true, false_and, and_false, true_implies, false_implies, not_true_eq_false, not_false_eq_true, eq_self, or_true, true_or, Option.isSome_some, hpf_length, hpa_length, bI_eq0, fi_hpa, fl_hpa, ar_hpf, fi_hpf_ne, fl_hpf_ne, ar_hpa_ne, hpa_hpa, hpf_hpf, nI_1, two_ne, fokZ, implies_true, Nat.reduceEqDiff]
    refine m_lookOf hI1 hV (fun H2 hF2 g1 => ?_)
    have hs2 := hF2.shp
    simp (maxDischargeDepth := 12) only [w276_0, w276_1, w276_4, w276_5, w276_8, w276_11, w276_12, w276_13, w276_16, w276_17, w276_18, w276_21, w276_22, w276_23, w276_26, oK_some, cont_int, cont_intS, cont_none, cont_noneS, cont_long, cont_longS, true_and, and_true, false_and, and_false, true_implies, false_implies, not_true_eq_false, not_false_eq_true, eq_self, or_true, true_or, Option.isSome_some, hpf_length, hpa_length, bI_eq0, fi_hpa, fl_hpa, ar_hpf, fi_hpf_ne, fl_hpf_ne, ar_hpa_ne, hpa_hpa, hpf_hpf, nI_1, two_ne, fokZ, implies_true, Nat.reduceEqDiff, rc_68, g_68_14, sf_68_14, fe_68_14, g_68_31, sf_68_31, fe_68_31, hF2.len, hs2, g1]
    exact mr_ok hS hF2 (by decide) (by decide) (by decide) (by decide) (by decide) hQ
  · simp only [hp, if_false] at hQ
    simp only [hp, oK_some, cont_int, cont_intS, cont_none, cont_noneS, cont_long, cont_longS, true_and, and_true, false_and, and_false, true_implies, false_implies, not_true_eq_false, not_false_eq_true, eq_self, or_true, true_or, Option.isSome_some, hpf_length, hpa_length, bI_eq0, fi_hpa, fl_hpa, ar_hpf, fi_hpf_ne, fl_hpf_ne, ar_hpa_ne, hpa_hpa, hpf_hpf, nI_1, two_ne, fokZ, implies_true, Nat.reduceEqDiff]
    exact mr_no hS hg (gd_0 hS) hQ
def tlC (R st : List Int32) (n nW nG nU m : Nat) (k : Nat) : Int32 := ones (dbt n (daysM R (allU nU) n nW nG nU m (st.set k 0)))
theorem m_tellFor {m : Nat} (hI : MIv H R st n nS nW nG nU nN) (hm : m < 100000) (hQ : ∀ H', Fg [76, 77] [(68, 22), (68, 32)] H H' → fi H' 68 32 = (forN (wrF (tlC R st n nW nG nU m)) n (0, -1)).2 → Q (some (.int (forN (wrF (tlC R st n nW nG nU m)) n (0, -1)).1)) H') : Wp scr (d + 5) 278 0 [some (.ref 68), some (.int (nI m)), none, none, none] [] H Q := by
  obtain ⟨c2, c3, c4, c5, c6, c7, b2, b3, b4, b5, b6, b7⟩ := hI.mn
  have rgR : ∀ j, R.getD j 0 = rg R j := fun _ => rfl
  have hS := hI.shp
  generalize hc : tlC R st n nW nG nU m = c at hQ
  simp (maxDischargeDepth := 12) only [w278_0, w278_1, w278_2, w278_3, w278_4, w278_7, w278_8, w278_10, w278_11, w278_14, w278_15, w278_16, w278_19, w278_20, w278_23, w278_24, w278_27, w278_28, w278_29, w278_30, w278_31, w278_35, w278_36, w278_39, w278_40, w278_41, w278_44, w278_47, w278_50, w278_53, w278_54, w278_55, w278_58, w278_61, w278_64, w278_66, w278_68, w278_69, w278_72, w278_75, w278_78, w278_79, w278_80, w278_81, w278_83, w278_86, w278_89, w278_92, w278_93, oK_some, cont_int, cont_intS, cont_none, cont_noneS, cont_long, cont_longS, true_and, and_true, false_and, and_false, true_implies, false_implies, not_true_eq_false, not_false_eq_true, eq_self, or_true, true_or, Option.isSome_some, hpf_length, hpa_length, bI_eq0, fi_hpa, fl_hpa, ar_hpf, fi_hpf_ne, fl_hpf_ne, ar_hpa_ne, hpa_hpa, hpf_hpf, nI_1, two_ne, fokZ, implies_true, Nat.reduceEqDiff, g_68_32, sf_68_32, fe_68_32, g_68_15, ga_71, gn_71, sa_71, ae_71, rc_68, g_68_24, ga_77, gn_77, sa_77, ae_77, kl_0, kl_1, kl_2, kl_3, kl_4, kl_5, kl_6, kl_7, kl_8, kl_9, kl_10, kl_11, kl_12, jb_0_10, jb_1_10, jb_2_10, jb_3_10, jb_4_10, jb_5_10, jb_6_10, jb_7_10, jb_8_10, jb_9_10, jb_0_211, jb_1_211, jb_2_211, jb_3_211, jb_4_211, jb_5_211, jb_6_211, jb_7_211, jb_8_211, jb_9_211, jb_10_211, jb_11_211, jb_12_211, hS]
  generalize hH2 : hpf H 68 32 (.int (-1)) = H2
  have hF2 : Fg [76, 77] [(68, 22), (68, 32)] H H2 := by
    rw [← hH2]
    exact (fg_hpf (a := 68) (f := 32) (ci := 12) hS rfl (by decide))
  have q2 : fi H2 68 32 = -1 := by rw [← hH2, fe_68_32 hS]
  have key := down (P := fun i => ∀ H3, ∀ o4 : Option Value, Fg [76, 77] [(68, 22), (68, 32)] H H3 → fi H3 68 32 = (forN (wrF c) i (0, -1)).2 → Wp scr (d + 5) 278 9 [some (.ref 68), some (.int (nI m)), some (.int (forN (wrF c) i (0, -1)).1), some (.int (nI i)), o4] [] H3 Q) n ?_ ?_
  · exact key H2 none hF2 q2
  · intro H3 o4 hF3 k2
    have hI3 := hI.of hF3 (by decide) (by decide) (by decide) (by decide)
    have hs3 := hF3.shp
    rw [w278_9]
    simp (maxDischargeDepth := 12) only [w278_0, w278_1, w278_2, w278_3, w278_4, w278_7, w278_8, w278_10, w278_11, w278_14, w278_15, w278_16, w278_19, w278_20, w278_23, w278_24, w278_27, w278_28, w278_29, w278_30, w278_31, w278_35, w278_36, w278_39, w278_40, w278_41, w278_44, w278_47, w278_50, w278_53, w278_54, w278_55, w278_58, w278_61, w278_64, w278_66, w278_68, w278_69, w278_72, w278_75, w278_78, w278_79, w278_80, w278_81, w278_83, w278_86, w278_89, w278_92, w278_93, oK_some, cont_int, cont_intS, cont_none, cont_noneS, cont_long, cont_longS, true_and, and_true, false_and, and_false, true_implies, false_implies, not_true_eq_false, not_false_eq_true, eq_self, or_true, true_or, Option.isSome_some, hpf_length, hpa_length, bI_eq0, fi_hpa, fl_hpa, ar_hpf, fi_hpf_ne, fl_hpf_ne, ar_hpa_ne, hpa_hpa, hpf_hpf, nI_1, two_ne, fokZ, implies_true, Nat.reduceEqDiff, g_68_32, sf_68_32, fe_68_32, g_68_15, ga_71, gn_71, sa_71, ae_71, rc_68, g_68_24, ga_77, gn_77, sa_77, ae_77, kl_0, kl_1, kl_2, kl_3, kl_4, kl_5, kl_6, kl_7, kl_8, kl_9, kl_10, kl_11, kl_12, jb_0_10, jb_1_10, jb_2_10, jb_3_10, jb_4_10, jb_5_10, jb_6_10, jb_7_10, jb_8_10, jb_9_10, jb_0_211, jb_1_211, jb_2_211, jb_3_211, jb_4_211, jb_5_211, jb_6_211, jb_7_211, jb_8_211, jb_9_211, jb_10_211, jb_11_211, jb_12_211, hs3, hI3.2.1, hI3.lr, rgR, c2, nI_les]
    exact hQ H3 hF3 k2
  · intro i hi hw H3 o4 hF3 k2
    have hI3 := hI.of hF3 (by decide) (by decide) (by decide) (by decide)
    have hs3 := hF3.shp
    rw [forN_succ] at hw
    generalize forN (wrF c) i (0, -1) = p at hw k2 ⊢
    obtain ⟨p1, p2⟩ := p
    rw [w278_9]
    simp (maxDischargeDepth := 12) only [w278_0, w278_1, w278_2, w278_3, w278_4, w278_7, w278_8, w278_10, w278_11, w278_14, w278_15, w278_16, w278_19, w278_20, w278_23, w278_24, w278_27, w278_28, w278_29, w278_30, w278_31, w278_35, w278_36, w278_39, w278_40, w278_41, w278_44, w278_47, w278_50, w278_53, w278_54, w278_55, w278_58, w278_61, w278_64, w278_66, w278_68, w278_69, w278_72, w278_75, w278_78, w278_79, w278_80, w278_81, w278_83, w278_86, w278_89, w278_92, w278_93, oK_some, cont_int, cont_intS, cont_none, cont_noneS, cont_long, cont_longS, true_and, and_true, false_and, and_false, true_implies, false_implies, not_true_eq_false, not_false_eq_true, eq_self, or_true, true_or, Option.isSome_some, hpf_length, hpa_length, bI_eq0, fi_hpa, fl_hpa, ar_hpf, fi_hpf_ne, fl_hpf_ne, ar_hpa_ne, hpa_hpa, hpf_hpf, nI_1, two_ne, fokZ, implies_true, Nat.reduceEqDiff, g_68_32, sf_68_32, fe_68_32, g_68_15, ga_71, gn_71, sa_71, ae_71, rc_68, g_68_24, ga_77, gn_77, sa_77, ae_77, kl_0, kl_1, kl_2, kl_3, kl_4, kl_5, kl_6, kl_7, kl_8, kl_9, kl_10, kl_11, kl_12, jb_0_10, jb_1_10, jb_2_10, jb_3_10, jb_4_10, jb_5_10, jb_6_10, jb_7_10, jb_8_10, jb_9_10, jb_0_211, jb_1_211, jb_2_211, jb_3_211, jb_4_211, jb_5_211, jb_6_211, jb_7_211, jb_8_211, jb_9_211, jb_10_211, jb_11_211, jb_12_211, hs3, hI3.2.1, hI3.lr, rgR, c2, nI_lef hi (by omega : n < 2147483648)]
    refine m_begin' hI3 (fun H4 hF4 a4 f4 => ?_)
    have hs4 := hF4.shp
    have l77 : st.length = 10 := hI.l
    simp (maxDischargeDepth := 12) only [w278_0, w278_1, w278_2, w278_3, w278_4, w278_7, w278_8, w278_10, w278_11, w278_14, w278_15, w278_16, w278_19, w278_20, w278_23, w278_24, w278_27, w278_28, w278_29, w278_30, w278_31, w278_35, w278_36, w278_39, w278_40, w278_41, w278_44, w278_47, w278_50, w278_53, w278_54, w278_55, w278_58, w278_61, w278_64, w278_66, w278_68, w278_69, w278_72, w278_75, w278_78, w278_79, w278_80, w278_81, w278_83, w278_86, w278_89, w278_92, w278_93, oK_some, cont_int, cont_intS, cont_none, cont_noneS, cont_long, cont_longS, true_and, and_true, false_and, and_false, true_implies, false_implies, not_true_eq_false, not_false_eq_true, eq_self, or_true, true_or, Option.isSome_some, hpf_length, hpa_length, bI_eq0, fi_hpa, fl_hpa, ar_hpf, fi_hpf_ne, fl_hpf_ne, ar_hpa_ne, hpa_hpa, hpf_hpf, nI_1, two_ne, fokZ, implies_true, Nat.reduceEqDiff, g_68_32, sf_68_32, fe_68_32, g_68_15, ga_71, gn_71, sa_71, ae_71, rc_68, g_68_24, ga_77, gn_77, sa_77, ae_77, kl_0, kl_1, kl_2, kl_3, kl_4, kl_5, kl_6, kl_7, kl_8, kl_9, kl_10, kl_11, kl_12, jb_0_10, jb_1_10, jb_2_10, jb_3_10, jb_4_10, jb_5_10, jb_6_10, jb_7_10, jb_8_10, jb_9_10, jb_0_211, jb_1_211, jb_2_211, jb_3_211, jb_4_211, jb_5_211, jb_6_211, jb_7_211, jb_8_211, jb_9_211, jb_10_211, jb_11_211, jb_12_211, hF4.len, hs4, a4, l77, inb_nI (i := i) (by omega), decide_eq_true (by omega : i < 10), nI_clamp (n := i) (by omega)]
    have hF5 : Fg [76, 77] [(68, 22), (68, 32)] H (hpa H4 77 (st.set i 0)) := (hF3.trans (hF4.mono (by decide) (by decide))).trans (fg_hpa hs4 (by rw [gn_77 hs4, List.length_set, l77]) (by decide))
    have key2 := down (P := fun j => ∀ H6, Fg [76, 77] [(68, 22), (68, 32)] H H6 → fi H6 68 22 = allU nU → fi H6 68 32 = p2 → ar H6 77 = daysM R (allU nU) n nW nG nU j (st.set i 0) → Wp scr (d + 5) 278 33 [some (.ref 68), some (.int (nI m)), some (.int p1), some (.int (nI i)), some (.int (nI j))] [] H6 Q) m ?_ ?_
    · exact key2 _ hF5 (by rw [fi_hpa, f4]) (by rw [fi_hpa, hF4.int (by decide) (by decide), k2]) (by rw [ae_77 hs4]; rfl)
    · intro H6 hF6 f6 t6 a6
      have hI6 := hI.of hF6 (by decide) (by decide) (by decide) (by decide)
      have hs6 := hF6.shp
      rw [w278_33]
      simp (maxDischargeDepth := 12) only [w278_0, w278_1, w278_2, w278_3, w278_4, w278_7, w278_8, w278_10, w278_11, w278_14, w278_15, w278_16, w278_19, w278_20, w278_23, w278_24, w278_27, w278_28, w278_29, w278_30, w278_31, w278_35, w278_36, w278_39, w278_40, w278_41, w278_44, w278_47, w278_50, w278_53, w278_54, w278_55, w278_58, w278_61, w278_64, w278_66, w278_68, w278_69, w278_72, w278_75, w278_78, w278_79, w278_80, w278_81, w278_83, w278_86, w278_89, w278_92, w278_93, oK_some, cont_int, cont_intS, cont_none, cont_noneS, cont_long, cont_longS, true_and, and_true, false_and, and_false, true_implies, false_implies, not_true_eq_false, not_false_eq_true, eq_self, or_true, true_or, Option.isSome_some, hpf_length, hpa_length, bI_eq0, fi_hpa, fl_hpa, ar_hpf, fi_hpf_ne, fl_hpf_ne, ar_hpa_ne, hpa_hpa, hpf_hpf, nI_1, two_ne, fokZ, implies_true, Nat.reduceEqDiff, g_68_32, sf_68_32, fe_68_32, g_68_15, ga_71, gn_71, sa_71, ae_71, rc_68, g_68_24, ga_77, gn_77, sa_77, ae_77, kl_0, kl_1, kl_2, kl_3, kl_4, kl_5, kl_6, kl_7, kl_8, kl_9, kl_10, kl_11, kl_12, jb_0_10, jb_1_10, jb_2_10, jb_3_10, jb_4_10, jb_5_10, jb_6_10, jb_7_10, jb_8_10, jb_9_10, jb_0_211, jb_1_211, jb_2_211, jb_3_211, jb_4_211, jb_5_211, jb_6_211, jb_7_211, jb_8_211, jb_9_211, jb_10_211, jb_11_211, jb_12_211, hs6, nI_les, m_dbtT hI6, m_ones, a6, t6]
      have ec : ones (dbt n (daysM R (allU nU) n nW nG nU m (st.set i 0))) = c i := by rw [← hc]; rfl
      rw [ec]
      unfold wrF at hw
      by_cases h2 : p2 < c i
      · simp only [h2, if_true] at hw
        simp only [h2, oK_some, cont_int, cont_intS, cont_none, cont_noneS, cont_long, cont_longS, true_and, and_true, false_and, and_false, true_implies, false_implies, not_true_eq_false, not_false_eq_true, eq_self, or_true, true_or, Option.isSome_some, hpf_length, hpa_length, bI_eq0, fi_hpa, fl_hpa, ar_hpf, fi_hpf_ne, fl_hpf_ne, ar_hpa_ne, hpa_hpa, hpf_hpf, nI_1, two_ne, fokZ, implies_true, Nat.reduceEqDiff]
        exact hw _ _ (hF6.trans (fg_hpf (a := 68) (f := 32) (ci := 12) hs6 rfl (by decide))) (by rw [fe_68_32 hs6])
      · simp only [h2, if_false] at hw
        simp only [h2, oK_some, cont_int, cont_intS, cont_none, cont_noneS, cont_long, cont_longS, true_and, and_true, false_and, and_false, true_implies, false_implies, not_true_eq_false, not_false_eq_true, eq_self, or_true, true_or, Option.isSome_some, hpf_length, hpa_length, bI_eq0, fi_hpa, fl_hpa, ar_hpf, fi_hpf_ne, fl_hpf_ne, ar_hpa_ne, hpa_hpa, hpf_hpf, nI_1, two_ne, fokZ, implies_true, Nat.reduceEqDiff]
        exact hw _ _ hF6 t6
    · intro j hj hw2 H6 hF6 f6 t6 a6
      have hI6 := hI.of hF6 (by decide) (by decide) (by decide) (by decide)
      have hs6 := hF6.shp
      rw [w278_33]
      simp (maxDischargeDepth := 12) only [w278_0, w278_1, w278_2, w278_3, w278_4, w278_7, w278_8, w278_10, w278_11, w278_14, w278_15, w278_16, w278_19, w278_20, w278_23, w278_24, w278_27, w278_28, w278_29, w278_30, w278_31, w278_35, w278_36, w278_39, w278_40, w278_41, w278_44, w278_47, w278_50, w278_53, w278_54, w278_55, w278_58, w278_61, w278_64, w278_66, w278_68, w278_69, w278_72, w278_75, w278_78, w278_79, w278_80, w278_81, w278_83, w278_86, w278_89, w278_92, w278_93, oK_some, cont_int, cont_intS, cont_none, cont_noneS, cont_long, cont_longS, true_and, and_true, false_and, and_false, true_implies, false_implies, not_true_eq_false, not_false_eq_true, eq_self, or_true, true_or, Option.isSome_some, hpf_length, hpa_length, bI_eq0, fi_hpa, fl_hpa, ar_hpf, fi_hpf_ne, fl_hpf_ne, ar_hpa_ne, hpa_hpa, hpf_hpf, nI_1, two_ne, fokZ, implies_true, Nat.reduceEqDiff, g_68_32, sf_68_32, fe_68_32, g_68_15, ga_71, gn_71, sa_71, ae_71, rc_68, g_68_24, ga_77, gn_77, sa_77, ae_77, kl_0, kl_1, kl_2, kl_3, kl_4, kl_5, kl_6, kl_7, kl_8, kl_9, kl_10, kl_11, kl_12, jb_0_10, jb_1_10, jb_2_10, jb_3_10, jb_4_10, jb_5_10, jb_6_10, jb_7_10, jb_8_10, jb_9_10, jb_0_211, jb_1_211, jb_2_211, jb_3_211, jb_4_211, jb_5_211, jb_6_211, jb_7_211, jb_8_211, jb_9_211, jb_10_211, jb_11_211, jb_12_211, hs6, nI_lef hj (by omega : m < 2147483648)]
      refine m_dayT hI6 (fun H7 hF7 a7 => ?_)
      simp (maxDischargeDepth := 12) only [w278_0, w278_1, w278_2, w278_3, w278_4, w278_7, w278_8, w278_10, w278_11, w278_14, w278_15, w278_16, w278_19, w278_20, w278_23, w278_24, w278_27, w278_28, w278_29, w278_30, w278_31, w278_35, w278_36, w278_39, w278_40, w278_41, w278_44, w278_47, w278_50, w278_53, w278_54, w278_55, w278_58, w278_61, w278_64, w278_66, w278_68, w278_69, w278_72, w278_75, w278_78, w278_79, w278_80, w278_81, w278_83, w278_86, w278_89, w278_92, w278_93, oK_some, cont_int, cont_intS, cont_none, cont_noneS, cont_long, cont_longS, true_and, and_true, false_and, and_false, true_implies, false_implies, not_true_eq_false, not_false_eq_true, eq_self, or_true, true_or, Option.isSome_some, hpf_length, hpa_length, bI_eq0, fi_hpa, fl_hpa, ar_hpf, fi_hpf_ne, fl_hpf_ne, ar_hpa_ne, hpa_hpa, hpf_hpf, nI_1, two_ne, fokZ, implies_true, Nat.reduceEqDiff, g_68_32, sf_68_32, fe_68_32, g_68_15, ga_71, gn_71, sa_71, ae_71, rc_68, g_68_24, ga_77, gn_77, sa_77, ae_77, kl_0, kl_1, kl_2, kl_3, kl_4, kl_5, kl_6, kl_7, kl_8, kl_9, kl_10, kl_11, kl_12, jb_0_10, jb_1_10, jb_2_10, jb_3_10, jb_4_10, jb_5_10, jb_6_10, jb_7_10, jb_8_10, jb_9_10, jb_0_211, jb_1_211, jb_2_211, jb_3_211, jb_4_211, jb_5_211, jb_6_211, jb_7_211, jb_8_211, jb_9_211, jb_10_211, jb_11_211, jb_12_211, hF7.len]
      exact hw2 H7 (hF6.trans (hF7.mono (by decide) (by decide))) (by rw [hF7.int (by decide) (by decide), f6]) (by rw [hF7.int (by decide) (by decide), t6]) (by rw [a7, f6, a6]; rfl)
theorem M_tell {m : Int32} (hI : MIv H R st n nS nW nG nU nN) (hQ : MR H Q (if whyF (decide (0 < n)) m 40 = 0 then (forN (wrF (tlC R st n nW nG nU m.toNatClampNeg)) n (0, -1)).1 else -1) (whyF (decide (0 < n)) m 40)) : Wp scr (d + 6) 279 0 [some (.ref 68), some (.int m), none] [] H Q := by
  have hS := hI.shp
  have hg := gd_fg hS
  have hI1 := hI.q hg
  have hs1 := hI1.shp
  have hM1 : Mn (ar (gd H) 71) n nS nW nG nU nN := by rw [hI1.2.1]; exact hI1.mn
  have h14 := hI1.2.2.2.2
  have e73 := hI1.2.2.1
  have rgR : ∀ j, R.getD j 0 = rg R j := fun _ => rfl
  have l73 := hI1.l
  obtain ⟨c2, c3, c4, c5, c6, c7, b2, b3, b4, b5, b6, b7⟩ := hI1.mn
  simp (maxDischargeDepth := 12) only [w279_0, w279_1, w279_4, w279_5, w279_6, w279_9, w279_10, w279_12, w279_15, w279_16, w279_17, w279_20, w279_21, w279_22, w279_25, w279_28, w279_29, w279_30, w279_33, oK_some, cont_int, cont_intS, cont_none, cont_noneS, cont_long, cont_longS, true_and, and_true, false_and, and_false, true_implies, false_implies, not_true_eq_false, not_false_eq_true, eq_self, or_true, true_or, Option.isSome_some, hpf_length, hpa_length, bI_eq0, fi_hpa, fl_hpa, ar_hpf, fi_hpf_ne, fl_hpf_ne, ar_hpa_ne, hpa_hpa, hpf_hpf, nI_1, two_ne, fokZ, implies_true, Nat.reduceEqDiff, rc_68, g_68_14, sf_68_14, fe_68_14, hS, m_good, gd_len, hs1, h14, e73, l73, hI1.2.1, rgR, hI1.lr, m_no, decide_eq_false_iff_not, gn_71, jb_7_10, jb_8_10, jb_9_10, m_why]
  by_cases hw : whyF (decide (0 < n)) m 40 = 0
  · simp only [hw, if_true] at hQ
    simp only [hw, oK_some, cont_int, cont_intS, cont_none, cont_noneS, cont_long, cont_longS, true_and, and_true, false_and, and_false, true_implies, false_implies, not_true_eq_false, not_false_eq_true, eq_self, or_true, true_or, Option.isSome_some, hpf_length, hpa_length, bI_eq0, fi_hpa, fl_hpa, ar_hpf, fi_hpf_ne, fl_hpf_ne, ar_hpa_ne, hpa_hpa, hpf_hpf, nI_1, two_ne, fokZ, implies_true, Nat.reduceEqDiff]
    obtain ⟨hk, hm⟩ := whyF_0 hw
    obtain ⟨em, lm⟩ := of_in (n := 40) hm (by omega)
    rw [em]
    refine m_tellFor hI1 (by omega) (fun H2 hF2 g => ?_)
    simp (maxDischargeDepth := 12) only [w279_0, w279_1, w279_4, w279_5, w279_6, w279_9, w279_10, w279_12, w279_15, w279_16, w279_17, w279_20, w279_21, w279_22, w279_25, w279_28, w279_29, w279_30, w279_33, oK_some, cont_int, cont_intS, cont_none, cont_noneS, cont_long, cont_longS, true_and, and_true, false_and, and_false, true_implies, false_implies, not_true_eq_false, not_false_eq_true, eq_self, or_true, true_or, Option.isSome_some, hpf_length, hpa_length, bI_eq0, fi_hpa, fl_hpa, ar_hpf, fi_hpf_ne, fl_hpf_ne, ar_hpa_ne, hpa_hpa, hpf_hpf, nI_1, two_ne, fokZ, implies_true, Nat.reduceEqDiff, rc_68, g_68_14, sf_68_14, fe_68_14, hF2.len]
    exact mr_ok hS hF2 (by decide) (by decide) (by decide) (by decide) (by decide) hQ
  · simp only [hw, if_false] at hQ
    simp only [hw, oK_some, cont_int, cont_intS, cont_none, cont_noneS, cont_long, cont_longS, true_and, and_true, false_and, and_false, true_implies, false_implies, not_true_eq_false, not_false_eq_true, eq_self, or_true, true_or, Option.isSome_some, hpf_length, hpa_length, bI_eq0, fi_hpa, fl_hpa, ar_hpf, fi_hpf_ne, fl_hpf_ne, ar_hpa_ne, hpa_hpa, hpf_hpf, nI_1, two_ne, fokZ, implies_true, Nat.reduceEqDiff]
    exact mr_no hS hg (gd_0 hS) hQ
theorem M_tellMost {m : Int32} (hI : MIv H R st n nS nW nG nU nN) (hQ : MR H Q (if whyF (decide (0 < n)) m 40 = 0 then (forN (wrF (tlC R st n nW nG nU m.toNatClampNeg)) n (0, -1)).2 else -1) (whyF (decide (0 < n)) m 40)) : Wp scr (d + 6) 280 0 [some (.ref 68), some (.int m), none] [] H Q := by
  have hS := hI.shp
  have hg := gd_fg hS
  have hI1 := hI.q hg
  have hs1 := hI1.shp
  have hM1 : Mn (ar (gd H) 71) n nS nW nG nU nN := by rw [hI1.2.1]; exact hI1.mn
  have h14 := hI1.2.2.2.2
  have e73 := hI1.2.2.1
  have rgR : ∀ j, R.getD j 0 = rg R j := fun _ => rfl
  have l73 := hI1.l
  obtain ⟨c2, c3, c4, c5, c6, c7, b2, b3, b4, b5, b6, b7⟩ := hI1.mn
  simp (maxDischargeDepth := 12) only [w280_0, w280_1, w280_4, w280_5, w280_6, w280_9, w280_10, w280_12, w280_15, w280_16, w280_17, w280_20, w280_21, w280_22, w280_25, w280_26, w280_27, w280_28, w280_31, w280_32, w280_33, w280_36, oK_some, cont_int, cont_intS, cont_none, cont_noneS, cont_long, cont_longS, true_and, and_true, false_and, and_false, true_implies, false_implies, not_true_eq_false, not_false_eq_true, eq_self, or_true, true_or, Option.isSome_some, hpf_length, hpa_length, bI_eq0, fi_hpa, fl_hpa, ar_hpf, fi_hpf_ne, fl_hpf_ne, ar_hpa_ne, hpa_hpa, hpf_hpf, nI_1, two_ne, fokZ, implies_true, Nat.reduceEqDiff, rc_68, g_68_14, sf_68_14, fe_68_14, g_68_32, sf_68_32, fe_68_32, hS, m_good, gd_len, hs1, h14, e73, l73, hI1.2.1, rgR, hI1.lr, m_no, decide_eq_false_iff_not, gn_71, jb_7_10, jb_8_10, jb_9_10, m_why]
  by_cases hw : whyF (decide (0 < n)) m 40 = 0
  · simp only [hw, if_true] at hQ
    simp only [hw, oK_some, cont_int, cont_intS, cont_none, cont_noneS, cont_long, cont_longS, true_and, and_true, false_and, and_false, true_implies, false_implies, not_true_eq_false, not_false_eq_true, eq_self, or_true, true_or, Option.isSome_some, hpf_length, hpa_length, bI_eq0, fi_hpa, fl_hpa, ar_hpf, fi_hpf_ne, fl_hpf_ne, ar_hpa_ne, hpa_hpa, hpf_hpf, nI_1, two_ne, fokZ, implies_true, Nat.reduceEqDiff]
    obtain ⟨hk, hm⟩ := whyF_0 hw
    obtain ⟨em, lm⟩ := of_in (n := 40) hm (by omega)
    rw [em]
    refine m_tellFor hI1 (by omega) (fun H2 hF2 g => ?_)
    have hs2 := hF2.shp
    simp (maxDischargeDepth := 12) only [w280_0, w280_1, w280_4, w280_5, w280_6, w280_9, w280_10, w280_12, w280_15, w280_16, w280_17, w280_20, w280_21, w280_22, w280_25, w280_26, w280_27, w280_28, w280_31, w280_32, w280_33, w280_36, oK_some, cont_int, cont_intS, cont_none, cont_noneS, cont_long, cont_longS, true_and, and_true, false_and, and_false, true_implies, false_implies, not_true_eq_false, not_false_eq_true, eq_self, or_true, true_or, Option.isSome_some, hpf_length, hpa_length, bI_eq0, fi_hpa, fl_hpa, ar_hpf, fi_hpf_ne, fl_hpf_ne, ar_hpa_ne, hpa_hpa, hpf_hpf, nI_1, two_ne, fokZ, implies_true, Nat.reduceEqDiff, rc_68, g_68_14, sf_68_14, fe_68_14, g_68_32, sf_68_32, fe_68_32, hF2.len, hs2, g]
    exact mr_ok hS hF2 (by decide) (by decide) (by decide) (by decide) (by decide) hQ
  · simp only [hw, if_false] at hQ
    simp only [hw, oK_some, cont_int, cont_intS, cont_none, cont_noneS, cont_long, cont_longS, true_and, and_true, false_and, and_false, true_implies, false_implies, not_true_eq_false, not_false_eq_true, eq_self, or_true, true_or, Option.isSome_some, hpf_length, hpa_length, bI_eq0, fi_hpa, fl_hpa, ar_hpf, fi_hpf_ne, fl_hpf_ne, ar_hpa_ne, hpa_hpa, hpf_hpf, nI_1, two_ne, fokZ, implies_true, Nat.reduceEqDiff]
    exact mr_no hS hg (gd_0 hS) hQ
end MODELE
