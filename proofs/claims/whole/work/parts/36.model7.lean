/-! ===== the Model: queries of days to come ===== -/
section MODEL7
variable {scr : List Int32} {d n nS nW nG nU nN w : Nat} {H : List AC} {R st : List Int32} {Q : Option Value → List AC → Prop}
theorem mr_ok {res : Int32} {S : List Nat} {F : List (Nat × Nat)} {H2 : List AC} (hS : Shp H) (hF : Fg S F (gd H) H2) (hs : ∀ a ∈ S, a ∈ SM) (hf : ∀ p ∈ F, p ∈ FM ∨ p.1 ∈ SM) (h68 : 68 ∉ S) (h0 : (68, 0) ∉ F) (h11 : (68, 11) ∉ F) (hQ : MR H Q res 0) : Q (some (.int res)) H2 := by
  refine hQ _ ((gd_fg hS).trans (hF.mono hs hf)) ?_ ?_
  · rw [hF.int h68 h0, gd_0 hS]
  · rw [hF.int h68 h11, gd_11 hS]
theorem m_begin' (hI : MIv H R st n nS nW nG nU nN) (hQ : ∀ H', Fg [77] [(68, 22)] H H' → ar H' 77 = st → fi H' 68 22 = allU nU → Q none H') : Wp scr (d + 1) 233 0 [some (.ref 68)] [] H Q :=
  m_begin hI.shp (by rw [hI.2.1]; exact hI.mn.2.2.2.2.1) (fun H' hF a f => hQ H' hF (by rw [a, hI.2.2.1]) f)
theorem m_dayT (hI : MIv H R st n nS nW nG nU nN) (hQ : ∀ H', Fg [76, 77] [] H H' → ar H' 77 = dayM R (fi H 68 22) n nW nG nU (ar H 77) → Q none H') : Wp scr (d + 4) 229 0 [some (.ref 68), some (.ref 77), none, none] [] H Q :=
  m_dayOf hI.shp (by rw [hI.2.1]; exact hI.mn) (Or.inr rfl) (fun H' hF a => hQ H' hF.fg (by rw [a, hI.2.1]))
theorem m_goOver' {m : Nat} {s u : Int32} (hI : MIv H R st n nS nW nG nU nN) (hm : m < 100000) (hQ : ∀ H', Fg [76, 77] [(68, 22)] H H' → ar H' 77 = daysM R (allU nU) n nW nG nU m (wOr st s u) → Q none H') : Wp scr (d + 5) 234 0 [some (.ref 68), some (.int s), some (.int u), some (.int (nI m)), none] [] H Q :=
  m_goOver hI.shp (by rw [hI.2.1]; exact hI.mn) hm (fun H' hF a => hQ H' hF (by rw [a, hI.2.1, hI.2.2.1]))
theorem m_dbtT (hI : MIv H R st n nS nW nG nU nN) : Wp scr (d + 1) 230 0 [some (.ref 68), some (.ref 77), none, none] [] H Q ↔ Q (some (.int (dbt n (ar H 77)))) H := m_doubtersOf hI.shp (by rw [hI.2.1]; exact hI.mn) (Or.inr rfl)
theorem wOr_0 {st : List Int32} (h : st.length = 10) : wOr st 0 0 = st := by
  apply ext_getD wOr_len
  intro j hj
  unfold wOr
  rw [getD_set, getD_set, Int32.or_zero, Int32.or_zero]
  by_cases h8 : 8 = j
  · subst h8; rw [if_pos ⟨rfl, by simp [h]⟩]
  · rw [if_neg (fun q => h8 q.1)]
    by_cases h7 : 7 = j
    · subst h7; rw [if_pos ⟨rfl, by simp [h]⟩]
    · rw [if_neg (fun q => h7 q.1)]
theorem M_faithIn {k m : Int32} (hI : MIv H R st n nS nW nG nU nN) (hQ : MR H Q (if whyF (decide (0 ≤ k ∧ k < nI n)) m 40 = 0 then (daysM R (allU nU) n nW nG nU m.toNatClampNeg st).getD k.toNatClampNeg 0 else -1) (whyF (decide (0 ≤ k ∧ k < nI n)) m 40)) : Wp scr (d + 6) 246 0 [some (.ref 68), some (.int k), some (.int m), none] [] H Q := by
  have hS := hI.shp
  have hg := gd_fg hS
  have hI1 := hI.q hg
  have hs1 := hI1.shp
  have hM1 : Mn (ar (gd H) 71) n nS nW nG nU nN := by rw [hI1.2.1]; exact hI1.mn
  have h14 := hI1.2.2.2.2
  have e73 := hI1.2.2.1
  have rgR : ∀ j, R.getD j 0 = rg R j := fun _ => rfl
  have l73 := hI1.l
  obtain ⟨c2, c3, c4, c5, c6, c7, b2, b3, b4, b5, b6, b7⟩ := hI1.mn
  simp (maxDischargeDepth := 12) only [w246_0, w246_1, w246_4, w246_5, w246_6, w246_7, w246_10, w246_11, w246_13, w246_16, w246_17, w246_18, w246_21, w246_22, w246_23, w246_26, w246_27, w246_28, w246_29, w246_30, w246_31, w246_34, w246_35, w246_38, w246_39, w246_40, oK_some, cont_int, cont_intS, cont_none, cont_noneS, cont_long, cont_longS, true_and, and_true, false_and, and_false, true_implies, false_implies, not_true_eq_false, not_false_eq_true, eq_self, or_true, true_or, Option.isSome_some, hpf_length, hpa_length, bI_eq0, fi_hpa, fl_hpa, ar_hpf, fi_hpf_ne, fl_hpf_ne, ar_hpa_ne, hpa_hpa, hpf_hpf, nI_1, two_ne, fokZ, implies_true, Nat.reduceEqDiff, rc_68, g_68_24, ga_77, gn_77, sa_77, ae_77, kl_0, kl_1, kl_2, kl_3, kl_4, kl_5, kl_6, kl_7, kl_8, kl_9, kl_10, kl_11, kl_12, jb_0_10, jb_1_10, jb_2_10, jb_3_10, jb_4_10, jb_5_10, jb_6_10, jb_7_10, jb_8_10, jb_9_10, hS, m_good, gd_len, hs1, h14, e73, l73, hI1.2.1, rgR, hI1.lr, m_no, decide_eq_false_iff_not, gn_71, jb_7_10, jb_8_10, jb_9_10, m_isRow hI1, m_why]
  by_cases hw : whyF (decide (0 ≤ k ∧ k < nI n)) m 40 = 0
  · simp only [hw, if_true] at hQ
    simp only [hw, oK_some, cont_int, cont_intS, cont_none, cont_noneS, cont_long, cont_longS, true_and, and_true, false_and, and_false, true_implies, false_implies, not_true_eq_false, not_false_eq_true, eq_self, or_true, true_or, Option.isSome_some, hpf_length, hpa_length, bI_eq0, fi_hpa, fl_hpa, ar_hpf, fi_hpf_ne, fl_hpf_ne, ar_hpa_ne, hpa_hpa, hpf_hpf, nI_1, two_ne, fokZ, implies_true, Nat.reduceEqDiff]
    obtain ⟨hk, hm⟩ := whyF_0 hw
    obtain ⟨ek, lk⟩ := of_row (of_decide_eq_true hk) (by omega)
    obtain ⟨em, lm⟩ := of_in (n := 40) hm (by omega)
    rw [em]
    refine m_goOver' hI1 (by omega) (fun H2 hF2 a2 => ?_)
    have hs2 := hF2.shp
    rw [ek]
    simp (maxDischargeDepth := 12) only [w246_0, w246_1, w246_4, w246_5, w246_6, w246_7, w246_10, w246_11, w246_13, w246_16, w246_17, w246_18, w246_21, w246_22, w246_23, w246_26, w246_27, w246_28, w246_29, w246_30, w246_31, w246_34, w246_35, w246_38, w246_39, w246_40, oK_some, cont_int, cont_intS, cont_none, cont_noneS, cont_long, cont_longS, true_and, and_true, false_and, and_false, true_implies, false_implies, not_true_eq_false, not_false_eq_true, eq_self, or_true, true_or, Option.isSome_some, hpf_length, hpa_length, bI_eq0, fi_hpa, fl_hpa, ar_hpf, fi_hpf_ne, fl_hpf_ne, ar_hpa_ne, hpa_hpa, hpf_hpf, nI_1, two_ne, fokZ, implies_true, Nat.reduceEqDiff, rc_68, g_68_24, ga_77, gn_77, sa_77, ae_77, kl_0, kl_1, kl_2, kl_3, kl_4, kl_5, kl_6, kl_7, kl_8, kl_9, kl_10, kl_11, kl_12, jb_0_10, jb_1_10, jb_2_10, jb_3_10, jb_4_10, jb_5_10, jb_6_10, jb_7_10, jb_8_10, jb_9_10, hF2.len, hs2, a2, wOr_0 hI1.l, daysM_len hI1.l, inb_nI (i := k.toNatClampNeg) (by omega), decide_eq_true (by omega : k.toNatClampNeg < 10), nI_clamp (n := k.toNatClampNeg) (by omega)]
    exact mr_ok hS hF2 (by decide) (by decide) (by decide) (by decide) (by decide) hQ
  · simp only [hw, if_false] at hQ
    simp only [hw, oK_some, cont_int, cont_intS, cont_none, cont_noneS, cont_long, cont_longS, true_and, and_true, false_and, and_false, true_implies, false_implies, not_true_eq_false, not_false_eq_true, eq_self, or_true, true_or, Option.isSome_some, hpf_length, hpa_length, bI_eq0, fi_hpa, fl_hpa, ar_hpf, fi_hpf_ne, fl_hpf_ne, ar_hpa_ne, hpa_hpa, hpf_hpf, nI_1, two_ne, fokZ, implies_true, Nat.reduceEqDiff]
    exact mr_no hS hg (gd_0 hS) hQ
theorem M_doubtersIn {m : Int32} (hI : MIv H R st n nS nW nG nU nN) (hQ : MR H Q (if whyF (decide (0 < n)) m 40 = 0 then dbt n (daysM R (allU nU) n nW nG nU m.toNatClampNeg st) else -1) (whyF (decide (0 < n)) m 40)) : Wp scr (d + 6) 247 0 [some (.ref 68), some (.int m), none] [] H Q := by
  have hS := hI.shp
  have hg := gd_fg hS
  have hI1 := hI.q hg
  have hs1 := hI1.shp
  have hM1 : Mn (ar (gd H) 71) n nS nW nG nU nN := by rw [hI1.2.1]; exact hI1.mn
  have h14 := hI1.2.2.2.2
  have e73 := hI1.2.2.1
  have rgR : ∀ j, R.getD j 0 = rg R j := fun _ => rfl
  have l73 := hI1.l
  obtain ⟨c2, c3, c4, c5, c6, c7, b2, b3, b4, b5, b6, b7⟩ := hI1.mn
  simp (maxDischargeDepth := 12) only [w247_0, w247_1, w247_4, w247_5, w247_6, w247_9, w247_10, w247_12, w247_15, w247_16, w247_17, w247_20, w247_21, w247_22, w247_25, w247_26, w247_27, w247_28, w247_29, w247_30, w247_33, w247_34, w247_35, w247_38, w247_41, oK_some, cont_int, cont_intS, cont_none, cont_noneS, cont_long, cont_longS, true_and, and_true, false_and, and_false, true_implies, false_implies, not_true_eq_false, not_false_eq_true, eq_self, or_true, true_or, Option.isSome_some, hpf_length, hpa_length, bI_eq0, fi_hpa, fl_hpa, ar_hpf, fi_hpf_ne, fl_hpf_ne, ar_hpa_ne, hpa_hpa, hpf_hpf, nI_1, two_ne, fokZ, implies_true, Nat.reduceEqDiff, rc_68, g_68_14, sf_68_14, fe_68_14, g_68_24, ga_77, gn_77, sa_77, ae_77, kl_0, kl_1, kl_2, kl_3, kl_4, kl_5, kl_6, kl_7, kl_8, kl_9, kl_10, kl_11, kl_12, jb_0_10, jb_1_10, jb_2_10, jb_3_10, jb_4_10, jb_5_10, jb_6_10, jb_7_10, jb_8_10, jb_9_10, hS, m_good, gd_len, hs1, h14, e73, l73, hI1.2.1, rgR, hI1.lr, m_no, decide_eq_false_iff_not, gn_71, jb_7_10, jb_8_10, jb_9_10, m_why]
  by_cases hw : whyF (decide (0 < n)) m 40 = 0
  · simp only [hw, if_true] at hQ
    simp only [hw, oK_some, cont_int, cont_intS, cont_none, cont_noneS, cont_long, cont_longS, true_and, and_true, false_and, and_false, true_implies, false_implies, not_true_eq_false, not_false_eq_true, eq_self, or_true, true_or, Option.isSome_some, hpf_length, hpa_length, bI_eq0, fi_hpa, fl_hpa, ar_hpf, fi_hpf_ne, fl_hpf_ne, ar_hpa_ne, hpa_hpa, hpf_hpf, nI_1, two_ne, fokZ, implies_true, Nat.reduceEqDiff]
    obtain ⟨hk, hm⟩ := whyF_0 hw
    obtain ⟨em, lm⟩ := of_in (n := 40) hm (by omega)
    rw [em]
    refine m_goOver' hI1 (by omega) (fun H2 hF2 a2 => ?_)
    have hs2 := hF2.shp
    have hI2 := hI1.of hF2 (by decide) (by decide) (by decide) (by decide)
    simp (maxDischargeDepth := 12) only [w247_0, w247_1, w247_4, w247_5, w247_6, w247_9, w247_10, w247_12, w247_15, w247_16, w247_17, w247_20, w247_21, w247_22, w247_25, w247_26, w247_27, w247_28, w247_29, w247_30, w247_33, w247_34, w247_35, w247_38, w247_41, oK_some, cont_int, cont_intS, cont_none, cont_noneS, cont_long, cont_longS, true_and, and_true, false_and, and_false, true_implies, false_implies, not_true_eq_false, not_false_eq_true, eq_self, or_true, true_or, Option.isSome_some, hpf_length, hpa_length, bI_eq0, fi_hpa, fl_hpa, ar_hpf, fi_hpf_ne, fl_hpf_ne, ar_hpa_ne, hpa_hpa, hpf_hpf, nI_1, two_ne, fokZ, implies_true, Nat.reduceEqDiff, rc_68, g_68_14, sf_68_14, fe_68_14, g_68_24, ga_77, gn_77, sa_77, ae_77, kl_0, kl_1, kl_2, kl_3, kl_4, kl_5, kl_6, kl_7, kl_8, kl_9, kl_10, kl_11, kl_12, jb_0_10, jb_1_10, jb_2_10, jb_3_10, jb_4_10, jb_5_10, jb_6_10, jb_7_10, jb_8_10, jb_9_10, hF2.len, hs2, m_dbtT hI2, a2, wOr_0 hI1.l]
    exact mr_ok hS hF2 (by decide) (by decide) (by decide) (by decide) (by decide) hQ
  · simp only [hw, if_false] at hQ
    simp only [hw, oK_some, cont_int, cont_intS, cont_none, cont_noneS, cont_long, cont_longS, true_and, and_true, false_and, and_false, true_implies, false_implies, not_true_eq_false, not_false_eq_true, eq_self, or_true, true_or, Option.isSome_some, hpf_length, hpa_length, bI_eq0, fi_hpa, fl_hpa, ar_hpf, fi_hpf_ne, fl_hpf_ne, ar_hpa_ne, hpa_hpa, hpf_hpf, nI_1, two_ne, fokZ, implies_true, Nat.reduceEqDiff]
    exact mr_no hS hg (gd_0 hS) hQ
theorem m_whenOf {k : Nat} (hI : MIv H R st n nS nW nG nU nN) (hk : k < 7) (hQ : ∀ H', Fg [76, 77] [(68, 22)] H H' → Q (some (.int (fnd (fun i => decide ((daysM R (allU nU) n nW nG nU i st).getD k 0 < 10)) 41 (-2)))) H') : Wp scr (d + 5) 248 0 [some (.ref 68), some (.int (nI k)), none] [] H Q := by
  generalize hp : (fun i => decide ((daysM R (allU nU) n nW nG nU i st).getD k 0 < 10)) = p at hQ
  have hpi : ∀ i, p i = decide ((daysM R (allU nU) n nW nG nU i st).getD k 0 < 10) := fun i => by rw [← hp]
  simp only [w248_0, w248_1, rc_68 hI.shp, true_and]
  refine m_begin' hI (fun H1 hF1 a1 f1 => ?_)
  simp (maxDischargeDepth := 12) only [w248_0, w248_1, w248_4, w248_5, w248_7, w248_9, w248_12, w248_13, w248_16, w248_17, w248_20, w248_23, w248_24, w248_25, w248_26, w248_27, w248_30, w248_33, w248_36, w248_39, w248_41, oK_some, cont_int, cont_intS, cont_none, cont_noneS, cont_long, cont_longS, true_and, and_true, false_and, and_false, true_implies, false_implies, not_true_eq_false, not_false_eq_true, eq_self, or_true, true_or, Option.isSome_some, hpf_length, hpa_length, bI_eq0, fi_hpa, fl_hpa, ar_hpf, fi_hpf_ne, fl_hpf_ne, ar_hpa_ne, hpa_hpa, hpf_hpf, nI_1, two_ne, fokZ, implies_true, Nat.reduceEqDiff, rc_68, g_68_24, ga_77, gn_77, sa_77, ae_77, kl_0, kl_1, kl_2, kl_3, kl_4, kl_5, kl_6, kl_7, kl_8, kl_9, kl_10, kl_11, kl_12, jb_0_10, jb_1_10, jb_2_10, jb_3_10, jb_4_10, jb_5_10, jb_6_10, jb_7_10, jb_8_10, jb_9_10, hF1.len]
  have key := down (P := fun i => (∀ j, j < i → p j = false) → ∀ H2, Fg [76, 77] [(68, 22)] H H2 → fi H2 68 22 = allU nU → ar H2 77 = daysM R (allU nU) n nW nG nU i st → Wp scr (d + 5) 248 6 [some (.ref 68), some (.int (nI k)), some (.int (nI i))] [] H2 Q) 41 ?_ ?_
  · exact key (fun j hj => absurd hj (Nat.not_lt_zero _)) H1 (hF1.mono (by decide) (by decide)) f1 a1
  · intro hno H2 hF2 _ a2
    rw [w248_6]
    simp (maxDischargeDepth := 12) only [w248_0, w248_1, w248_4, w248_5, w248_7, w248_9, w248_12, w248_13, w248_16, w248_17, w248_20, w248_23, w248_24, w248_25, w248_26, w248_27, w248_30, w248_33, w248_36, w248_39, w248_41, oK_some, cont_int, cont_intS, cont_none, cont_noneS, cont_long, cont_longS, true_and, and_true, false_and, and_false, true_implies, false_implies, not_true_eq_false, not_false_eq_true, eq_self, or_true, true_or, Option.isSome_some, hpf_length, hpa_length, bI_eq0, fi_hpa, fl_hpa, ar_hpf, fi_hpf_ne, fl_hpf_ne, ar_hpa_ne, hpa_hpa, hpf_hpf, nI_1, two_ne, fokZ, implies_true, Nat.reduceEqDiff, rc_68, g_68_24, ga_77, gn_77, sa_77, ae_77, kl_0, kl_1, kl_2, kl_3, kl_4, kl_5, kl_6, kl_7, kl_8, kl_9, kl_10, kl_11, kl_12, jb_0_10, jb_1_10, jb_2_10, jb_3_10, jb_4_10, jb_5_10, jb_6_10, jb_7_10, jb_8_10, jb_9_10, l40t]
    rw [fnd_miss hno] at hQ
    exact hQ H2 hF2
  · intro i hi hw hno H2 hF2 f2 a2
    have hI2 := hI.of hF2 (by decide) (by decide) (by decide) (by decide)
    have hs2 := hF2.shp
    rw [w248_6]
    simp (maxDischargeDepth := 12) only [w248_0, w248_1, w248_4, w248_5, w248_7, w248_9, w248_12, w248_13, w248_16, w248_17, w248_20, w248_23, w248_24, w248_25, w248_26, w248_27, w248_30, w248_33, w248_36, w248_39, w248_41, oK_some, cont_int, cont_intS, cont_none, cont_noneS, cont_long, cont_longS, true_and, and_true, false_and, and_false, true_implies, false_implies, not_true_eq_false, not_false_eq_true, eq_self, or_true, true_or, Option.isSome_some, hpf_length, hpa_length, bI_eq0, fi_hpa, fl_hpa, ar_hpf, fi_hpf_ne, fl_hpf_ne, ar_hpa_ne, hpa_hpa, hpf_hpf, nI_1, two_ne, fokZ, implies_true, Nat.reduceEqDiff, rc_68, g_68_24, ga_77, gn_77, sa_77, ae_77, kl_0, kl_1, kl_2, kl_3, kl_4, kl_5, kl_6, kl_7, kl_8, kl_9, kl_10, kl_11, kl_12, jb_0_10, jb_1_10, jb_2_10, jb_3_10, jb_4_10, jb_5_10, jb_6_10, jb_7_10, jb_8_10, jb_9_10, hs2, l40f hi, m_doubts (ga_77 hs2) (gn_77 hs2) (by omega : k < 10), a2, ← hpi]
    cases hpv : p i
    · simp only [hpv, oK_some, cont_int, cont_intS, cont_none, cont_noneS, cont_long, cont_longS, true_and, and_true, false_and, and_false, true_implies, false_implies, not_true_eq_false, not_false_eq_true, eq_self, or_true, true_or, Option.isSome_some, hpf_length, hpa_length, bI_eq0, fi_hpa, fl_hpa, ar_hpf, fi_hpf_ne, fl_hpf_ne, ar_hpa_ne, hpa_hpa, hpf_hpf, nI_1, two_ne, fokZ, implies_true, Nat.reduceEqDiff]
      refine m_dayT hI2 (fun H3 hF3 a3 => ?_)
      simp (maxDischargeDepth := 12) only [w248_0, w248_1, w248_4, w248_5, w248_7, w248_9, w248_12, w248_13, w248_16, w248_17, w248_20, w248_23, w248_24, w248_25, w248_26, w248_27, w248_30, w248_33, w248_36, w248_39, w248_41, oK_some, cont_int, cont_intS, cont_none, cont_noneS, cont_long, cont_longS, true_and, and_true, false_and, and_false, true_implies, false_implies, not_true_eq_false, not_false_eq_true, eq_self, or_true, true_or, Option.isSome_some, hpf_length, hpa_length, bI_eq0, fi_hpa, fl_hpa, ar_hpf, fi_hpf_ne, fl_hpf_ne, ar_hpa_ne, hpa_hpa, hpf_hpf, nI_1, two_ne, fokZ, implies_true, Nat.reduceEqDiff, rc_68, g_68_24, ga_77, gn_77, sa_77, ae_77, kl_0, kl_1, kl_2, kl_3, kl_4, kl_5, kl_6, kl_7, kl_8, kl_9, kl_10, kl_11, kl_12, jb_0_10, jb_1_10, jb_2_10, jb_3_10, jb_4_10, jb_5_10, jb_6_10, jb_7_10, jb_8_10, jb_9_10, hF3.len]
      refine hw (fun j hj => ?_) H3 (hF2.trans (hF3.mono (by decide) (by decide))) (by rw [hF3.int (by decide) (by decide), f2]) (by rw [a3, f2, a2]; rfl)
      rcases Nat.lt_or_ge j i with q | q
      · exact hno j q
      · rw [show j = i by omega]; exact hpv
    · simp only [hpv, oK_some, cont_int, cont_intS, cont_none, cont_noneS, cont_long, cont_longS, true_and, and_true, false_and, and_false, true_implies, false_implies, not_true_eq_false, not_false_eq_true, eq_self, or_true, true_or, Option.isSome_some, hpf_length, hpa_length, bI_eq0, fi_hpa, fl_hpa, ar_hpf, fi_hpf_ne, fl_hpf_ne, ar_hpa_ne, hpa_hpa, hpf_hpf, nI_1, two_ne, fokZ, implies_true, Nat.reduceEqDiff, Bool.true_eq_false]
      rw [fnd_hit hi hpv hno] at hQ
      exact hQ H2 hF2
theorem M_when {k : Int32} (hI : MIv H R st n nS nW nG nU nN) (hQ : MR H Q (if 0 ≤ k ∧ k < nI n then fnd (fun i => decide ((daysM R (allU nU) n nW nG nU i st).getD k.toNatClampNeg 0 < 10)) 41 (-2) else -1) (if 0 ≤ k ∧ k < nI n then 0 else 1)) : Wp scr (d + 6) 249 0 [some (.ref 68), some (.int k)] [] H Q := by
  have hS := hI.shp
  have hg := gd_fg hS
  have hI1 := hI.q hg
  have hs1 := hI1.shp
  have hM1 : Mn (ar (gd H) 71) n nS nW nG nU nN := by rw [hI1.2.1]; exact hI1.mn
  have h14 := hI1.2.2.2.2
  have e73 := hI1.2.2.1
  have rgR : ∀ j, R.getD j 0 = rg R j := fun _ => rfl
  have l73 := hI1.l
  obtain ⟨c2, c3, c4, c5, c6, c7, b2, b3, b4, b5, b6, b7⟩ := hI1.mn
  simp (maxDischargeDepth := 12) only [w249_0, w249_1, w249_4, w249_5, w249_6, w249_9, w249_12, w249_13, w249_14, w249_17, w249_20, w249_21, w249_22, w249_25, oK_some, cont_int, cont_intS, cont_none, cont_noneS, cont_long, cont_longS, true_and, and_true, false_and, and_false, true_implies, false_implies, not_true_eq_false, not_false_eq_true, eq_self, or_true, true_or, Option.isSome_some, hpf_length, hpa_length, bI_eq0, fi_hpa, fl_hpa, ar_hpf, fi_hpf_ne, fl_hpf_ne, ar_hpa_ne, hpa_hpa, hpf_hpf, nI_1, two_ne, fokZ, implies_true, Nat.reduceEqDiff, rc_68, hS, m_good, gd_len, hs1, h14, e73, l73, hI1.2.1, rgR, hI1.lr, m_no, decide_eq_false_iff_not, gn_71, jb_7_10, jb_8_10, jb_9_10, m_isRow hI1]
  by_cases hw : 0 ≤ k ∧ k < nI n
  · simp only [hw, and_self, if_true] at hQ
    simp only [hw, oK_some, cont_int, cont_intS, cont_none, cont_noneS, cont_long, cont_longS, true_and, and_true, false_and, and_false, true_implies, false_implies, not_true_eq_false, not_false_eq_true, eq_self, or_true, true_or, Option.isSome_some, hpf_length, hpa_length, bI_eq0, fi_hpa, fl_hpa, ar_hpf, fi_hpf_ne, fl_hpf_ne, ar_hpa_ne, hpa_hpa, hpf_hpf, nI_1, two_ne, fokZ, implies_true, Nat.reduceEqDiff]
    obtain ⟨ek, lk⟩ := of_row hw (by omega)
    rw [ek]
    refine m_whenOf hI1 (by omega) (fun H2 hF2 => ?_)
    simp (maxDischargeDepth := 12) only [w249_0, w249_1, w249_4, w249_5, w249_6, w249_9, w249_12, w249_13, w249_14, w249_17, w249_20, w249_21, w249_22, w249_25, oK_some, cont_int, cont_intS, cont_none, cont_noneS, cont_long, cont_longS, true_and, and_true, false_and, and_false, true_implies, false_implies, not_true_eq_false, not_false_eq_true, eq_self, or_true, true_or, Option.isSome_some, hpf_length, hpa_length, bI_eq0, fi_hpa, fl_hpa, ar_hpf, fi_hpf_ne, fl_hpf_ne, ar_hpa_ne, hpa_hpa, hpf_hpf, nI_1, two_ne, fokZ, implies_true, Nat.reduceEqDiff, rc_68, hF2.len]
    exact mr_ok hS hF2 (by decide) (by decide) (by decide) (by decide) (by decide) hQ
  · simp only [hw, if_false] at hQ
    simp only [hw, oK_some, cont_int, cont_intS, cont_none, cont_noneS, cont_long, cont_longS, true_and, and_true, false_and, and_false, true_implies, false_implies, not_true_eq_false, not_false_eq_true, eq_self, or_true, true_or, Option.isSome_some, hpf_length, hpa_length, bI_eq0, fi_hpa, fl_hpa, ar_hpf, fi_hpf_ne, fl_hpf_ne, ar_hpa_ne, hpa_hpa, hpf_hpf, nI_1, two_ne, fokZ, implies_true, Nat.reduceEqDiff]
    exact mr_no hS hg (gd_0 hS) hQ
end MODEL7
