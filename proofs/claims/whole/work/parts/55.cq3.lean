/-! ===== the class: telling, grafts ===== -/
section CQ3
variable {scr : List Int32} {d n nS nW nG nU nN : Nat} {H : List AC} {R st ws : List Int32} {rum : Int32} {Q : Option Value → List AC → Prop}
theorem c_telling (hgo : GoC) {k m : Nat} (hC : CIv H R st n nS nW nG nU nN) (hg : Gb st) (hk : k < n) (hm : m ≤ 40) (hQ : ∀ H', Fg [33, 34, 36, 38, 40, 42] [] H H' → Q (some (.int (tlC R st n nW nG nU m k))) H') : Wp scr (d + 5) 164 0 [some (.ref 0), some (.int (nI k)), some (.int (nI m))] [] H Q := by
  have hS := hC.shp
  have b2 := hC.1.2.1.2.2.2.2.2.2.1
  simp (maxDischargeDepth := 12) only [w164_0, w164_1, w164_4, w164_5, w164_8, w164_11, w164_12, w164_15, w164_16, w164_18, w164_21, w164_22, w164_25, w164_26, w164_29, w164_30, w164_33, w164_36, w164_39, oK_some, cont_int, cont_intS, cont_none, cont_noneS, cont_long, cont_longS, true_and, and_true, false_and, and_false, true_implies, false_implies, not_true_eq_false, not_false_eq_true, eq_self, or_true, true_or, Option.isSome_some, hpf_length, hpa_length, bI_eq0, fi_hpa, fl_hpa, ar_hpf, fi_hpf_ne, fl_hpf_ne, ar_hpa_ne, hpa_hpa, hpf_hpf, nI_1, two_ne, fokZ, implies_true, Nat.reduceEqDiff, g_0_6, rc_33, g_0_5, rc_30, hS]
  refine w_start hC (fun H1 hF1 hW1 => ?_)
  have hC1 := hC.1.of hF1 (by decide) (by decide)
  have hs1 := hF1.shp
  simp (maxDischargeDepth := 12) only [w164_0, w164_1, w164_4, w164_5, w164_8, w164_11, w164_12, w164_15, w164_16, w164_18, w164_21, w164_22, w164_25, w164_26, w164_29, w164_30, w164_33, w164_36, w164_39, oK_some, cont_int, cont_intS, cont_none, cont_noneS, cont_long, cont_longS, true_and, and_true, false_and, and_false, true_implies, false_implies, not_true_eq_false, not_false_eq_true, eq_self, or_true, true_or, Option.isSome_some, hpf_length, hpa_length, bI_eq0, fi_hpa, fl_hpa, ar_hpf, fi_hpf_ne, fl_hpf_ne, ar_hpa_ne, hpa_hpa, hpf_hpf, nI_1, two_ne, fokZ, implies_true, Nat.reduceEqDiff, g_0_6, rc_33, g_0_5, rc_30, hF1.len, hs1]
  refine w_lose (y := 30) hs1 b2 hk hW1 rfl (by decide) (fun H2 x hx ex hF2 hW2 => ?_)
  rw [show x - 30 = 0 by omega] at hW2
  have hC2 := hC1.of hF2 (by decide) (by decide)
  have hs2 := hF2.shp
  simp (maxDischargeDepth := 12) only [w164_0, w164_1, w164_4, w164_5, w164_8, w164_11, w164_12, w164_15, w164_16, w164_18, w164_21, w164_22, w164_25, w164_26, w164_29, w164_30, w164_33, w164_36, w164_39, oK_some, cont_int, cont_intS, cont_none, cont_noneS, cont_long, cont_longS, true_and, and_true, false_and, and_false, true_implies, false_implies, not_true_eq_false, not_false_eq_true, eq_self, or_true, true_or, Option.isSome_some, hpf_length, hpa_length, bI_eq0, fi_hpa, fl_hpa, ar_hpf, fi_hpf_ne, fl_hpf_ne, ar_hpa_ne, hpa_hpa, hpf_hpf, nI_1, two_ne, fokZ, implies_true, Nat.reduceEqDiff, g_0_6, rc_33, g_0_5, rc_30, hF2.len, hs2]
  refine hgo _ _ _ _ R (st.set k (nI 0)) (allU nU) n nS nW nG nU nN m hC2 hW2 (hg.set (by omega)) hm (fun H3 hF3 h3 => ?_)
  have hs3 := hF3.shp
  have hC3 := hC2.of hF3 (by decide) (by decide)
  simp (maxDischargeDepth := 12) only [w164_0, w164_1, w164_4, w164_5, w164_8, w164_11, w164_12, w164_15, w164_16, w164_18, w164_21, w164_22, w164_25, w164_26, w164_29, w164_30, w164_33, w164_36, w164_39, oK_some, cont_int, cont_intS, cont_none, cont_noneS, cont_long, cont_longS, true_and, and_true, false_and, and_false, true_implies, false_implies, not_true_eq_false, not_false_eq_true, eq_self, or_true, true_or, Option.isSome_some, hpf_length, hpa_length, bI_eq0, fi_hpa, fl_hpa, ar_hpf, fi_hpf_ne, fl_hpf_ne, ar_hpa_ne, hpa_hpa, hpf_hpf, nI_1, two_ne, fokZ, implies_true, Nat.reduceEqDiff, g_0_6, rc_33, g_0_5, rc_30, hF3.len, hs3, w_doubting hC3 h3, c_bcD b2]
  exact hQ H3 (((hF1.mono (by decide) (by decide)).trans (hF2.mono (by decide) (by decide))).trans (hF3.mono (by decide) (by decide)))
theorem C_tell (hgo : GoC) {m : Int32} (hC : CIv H R st n nS nW nG nU nN) (hg : Gb st) (hQ : CR H Q (if whyF (decide (0 < n)) m 40 = 0 then (forN (wrF (tlC R st n nW nG nU m.toNatClampNeg)) n (0, -1)).1 else -1) (whyF (decide (0 < n)) m 40)) : Wp scr (d + 6) 162 0 [some (.ref 0), some (.int m), none, none, none, none] [] H Q := by
  have hS := hC.shp
  obtain ⟨c2, c3, c4, c5, c6, c7, b2, b3, b4, b5, b6, b7⟩ := id hC.1.2.1
  have hs0 := sf_0_13 (v := 0) hS
  have hC0 := hC.tr (v := 0)
  by_cases hw : whyF (decide (0 < n)) m 40 = 0
  · rw [hw, if_pos rfl] at hQ
    obtain ⟨hk, hm⟩ := whyF_0 hw
    obtain ⟨em, lm⟩ := of_in (n := 40) hm (by omega)
    simp (maxDischargeDepth := 12) only [w162_0, w162_1, w162_2, w162_3, w162_6, w162_9, w162_10, w162_13, w162_16, w162_17, w162_18, w162_19, w162_20, w162_21, w162_22, w162_23, w162_27, w162_28, w162_31, w162_34, w162_37, w162_40, w162_41, w162_43, w162_44, w162_47, w162_49, w162_51, w162_52, w162_55, w162_57, w162_58, w162_60, w162_61, w162_64, w162_67, w162_68, oK_some, cont_int, cont_intS, cont_none, cont_noneS, cont_long, cont_longS, true_and, and_true, false_and, and_false, true_implies, false_implies, not_true_eq_false, not_false_eq_true, eq_self, or_true, true_or, Option.isSome_some, hpf_length, hpa_length, bI_eq0, fi_hpa, fl_hpa, ar_hpf, fi_hpf_ne, fl_hpf_ne, ar_hpa_ne, hpa_hpa, hpf_hpf, nI_1, two_ne, fokZ, implies_true, Nat.reduceEqDiff, rc_0, g_0_13, sf_0_13, fe_0_13, g_0_2, rc_3, g_3_2, rc_4, g_16_2, rc_17, rc_6, rc_8, rc_10, rc_12, rc_14, rc_19, rc_21, rc_23, rc_25, rc_27, hS, c_daysTrouble hC, hw, hs0]
    generalize m.toNatClampNeg = mm at em lm hQ
    subst em
    generalize hc : tlC R st n nW nG nU mm = c at hQ
    have key := down (P := fun i => ∀ H4, ∀ o5 : Option Value, Fg [33, 34, 36, 38, 40, 42] [] (hpf H 0 13 (.int 0)) H4 → Wp scr (d + 6) 162 25 [some (.ref 0), some (.int (nI mm)), some (.int (forN (wrF c) i (0, -1)).1), some (.int (forN (wrF c) i (0, -1)).2), some (.int (nI i)), o5] [] H4 Q) n ?_ ?_
    · exact key _ none (Fg.rfl' hs0)
    · intro H4 o5 hF4
      have hC4 := hC0.of hF4 (by decide) (by decide)
      have hs4 := hF4.shp
      have c2' := hC4.1.2.1.1
      rw [w162_25]
      simp (maxDischargeDepth := 12) only [w162_0, w162_1, w162_2, w162_3, w162_6, w162_9, w162_10, w162_13, w162_16, w162_17, w162_18, w162_19, w162_20, w162_21, w162_22, w162_23, w162_27, w162_28, w162_31, w162_34, w162_37, w162_40, w162_41, w162_43, w162_44, w162_47, w162_49, w162_51, w162_52, w162_55, w162_57, w162_58, w162_60, w162_61, w162_64, w162_67, w162_68, oK_some, cont_int, cont_intS, cont_none, cont_noneS, cont_long, cont_longS, true_and, and_true, false_and, and_false, true_implies, false_implies, not_true_eq_false, not_false_eq_true, eq_self, or_true, true_or, Option.isSome_some, hpf_length, hpa_length, bI_eq0, fi_hpa, fl_hpa, ar_hpf, fi_hpf_ne, fl_hpf_ne, ar_hpa_ne, hpa_hpa, hpf_hpf, nI_1, two_ne, fokZ, implies_true, Nat.reduceEqDiff, rc_0, g_0_13, sf_0_13, fe_0_13, g_0_2, rc_3, g_3_2, rc_4, g_16_2, rc_17, rc_6, rc_8, rc_10, rc_12, rc_14, rc_19, rc_21, rc_23, rc_25, rc_27, hs4, c_Table_count (g_4_2 hs4), c2', nI_les]
      exact cr_ok hS hF4 (by decide) (by decide) (by decide) (by decide) hQ
    · intro i hi hw2 H4 o5 hF4
      have hC4 := hC0.of hF4 (by decide) (by decide)
      have hs4 := hF4.shp
      have c2' := hC4.1.2.1.1
      rw [forN_succ] at hw2
      generalize forN (wrF c) i (0, -1) = p at hw2 ⊢
      obtain ⟨p1, p2'⟩ := p
      unfold wrF at hw2
      rw [w162_25]
      simp (maxDischargeDepth := 12) only [w162_0, w162_1, w162_2, w162_3, w162_6, w162_9, w162_10, w162_13, w162_16, w162_17, w162_18, w162_19, w162_20, w162_21, w162_22, w162_23, w162_27, w162_28, w162_31, w162_34, w162_37, w162_40, w162_41, w162_43, w162_44, w162_47, w162_49, w162_51, w162_52, w162_55, w162_57, w162_58, w162_60, w162_61, w162_64, w162_67, w162_68, oK_some, cont_int, cont_intS, cont_none, cont_noneS, cont_long, cont_longS, true_and, and_true, false_and, and_false, true_implies, false_implies, not_true_eq_false, not_false_eq_true, eq_self, or_true, true_or, Option.isSome_some, hpf_length, hpa_length, bI_eq0, fi_hpa, fl_hpa, ar_hpf, fi_hpf_ne, fl_hpf_ne, ar_hpa_ne, hpa_hpa, hpf_hpf, nI_1, two_ne, fokZ, implies_true, Nat.reduceEqDiff, rc_0, g_0_13, sf_0_13, fe_0_13, g_0_2, rc_3, g_3_2, rc_4, g_16_2, rc_17, rc_6, rc_8, rc_10, rc_12, rc_14, rc_19, rc_21, rc_23, rc_25, rc_27, hs4, c_Table_count (g_4_2 hs4), c2', nI_lef hi (by omega : n < 2147483648)]
      refine c_telling hgo hC4 hg hi lm (fun H5 hF5 => ?_)
      rw [hc]
      simp (maxDischargeDepth := 12) only [w162_0, w162_1, w162_2, w162_3, w162_6, w162_9, w162_10, w162_13, w162_16, w162_17, w162_18, w162_19, w162_20, w162_21, w162_22, w162_23, w162_27, w162_28, w162_31, w162_34, w162_37, w162_40, w162_41, w162_43, w162_44, w162_47, w162_49, w162_51, w162_52, w162_55, w162_57, w162_58, w162_60, w162_61, w162_64, w162_67, w162_68, oK_some, cont_int, cont_intS, cont_none, cont_noneS, cont_long, cont_longS, true_and, and_true, false_and, and_false, true_implies, false_implies, not_true_eq_false, not_false_eq_true, eq_self, or_true, true_or, Option.isSome_some, hpf_length, hpa_length, bI_eq0, fi_hpa, fl_hpa, ar_hpf, fi_hpf_ne, fl_hpf_ne, ar_hpa_ne, hpa_hpa, hpf_hpf, nI_1, two_ne, fokZ, implies_true, Nat.reduceEqDiff, rc_0, g_0_13, sf_0_13, fe_0_13, g_0_2, rc_3, g_3_2, rc_4, g_16_2, rc_17, rc_6, rc_8, rc_10, rc_12, rc_14, rc_19, rc_21, rc_23, rc_25, rc_27, hF5.len]
      by_cases hcc : p2' < c i
      · have h3 : ¬ c i ≤ p2' := by rw [Int32.not_le]; exact hcc
        simp only [hcc, if_true] at hw2
        simp only [h3, oK_some, cont_int, cont_intS, cont_none, cont_noneS, cont_long, cont_longS, true_and, and_true, false_and, and_false, true_implies, false_implies, not_true_eq_false, not_false_eq_true, eq_self, or_true, true_or, Option.isSome_some, hpf_length, hpa_length, bI_eq0, fi_hpa, fl_hpa, ar_hpf, fi_hpf_ne, fl_hpf_ne, ar_hpa_ne, hpa_hpa, hpf_hpf, nI_1, two_ne, fokZ, implies_true, Nat.reduceEqDiff]
        exact hw2 H5 _ (hF4.trans hF5)
      · have h3 : c i ≤ p2' := by rw [← Int32.not_lt]; exact hcc
        simp only [hcc, if_false] at hw2
        simp only [h3, oK_some, cont_int, cont_intS, cont_none, cont_noneS, cont_long, cont_longS, true_and, and_true, false_and, and_false, true_implies, false_implies, not_true_eq_false, not_false_eq_true, eq_self, or_true, true_or, Option.isSome_some, hpf_length, hpa_length, bI_eq0, fi_hpa, fl_hpa, ar_hpf, fi_hpf_ne, fl_hpf_ne, ar_hpa_ne, hpa_hpa, hpf_hpf, nI_1, two_ne, fokZ, implies_true, Nat.reduceEqDiff]
        exact hw2 H5 _ (hF4.trans hF5)
  · rw [if_neg hw] at hQ
    simp (maxDischargeDepth := 12) only [w162_0, w162_1, w162_2, w162_3, w162_6, w162_9, w162_10, w162_13, w162_16, w162_17, w162_18, w162_19, w162_20, w162_21, w162_22, w162_23, w162_27, w162_28, w162_31, w162_34, w162_37, w162_40, w162_41, w162_43, w162_44, w162_47, w162_49, w162_51, w162_52, w162_55, w162_57, w162_58, w162_60, w162_61, w162_64, w162_67, w162_68, oK_some, cont_int, cont_intS, cont_none, cont_noneS, cont_long, cont_longS, true_and, and_true, false_and, and_false, true_implies, false_implies, not_true_eq_false, not_false_eq_true, eq_self, or_true, true_or, Option.isSome_some, hpf_length, hpa_length, bI_eq0, fi_hpa, fl_hpa, ar_hpf, fi_hpf_ne, fl_hpf_ne, ar_hpa_ne, hpa_hpa, hpf_hpf, nI_1, two_ne, fokZ, implies_true, Nat.reduceEqDiff, rc_0, g_0_13, sf_0_13, fe_0_13, g_0_2, rc_3, g_3_2, rc_4, g_16_2, rc_17, rc_6, rc_8, rc_10, rc_12, rc_14, rc_19, rc_21, rc_23, rc_25, rc_27, hS, c_daysTrouble hC, hw]
    exact cr_no hS hQ
def mxF (c : Nat → Int32) (k : Nat) (b : Int32) : Int32 := mx b (c k)
theorem wr_mx {c : Nat → Int32} (h : ∀ k, ¬ c k < 0) : ∀ m, (forN (wrF c) (m + 1) (0, -1)).2 = forN (mxF c) (m + 1) 0
  | 0 => by
    show (wrF c 0 (0, -1)).2 = mx 0 (c 0)
    unfold wrF mx
    have h1 : (-1 : Int32) < c 0 := by
      have := h 0
      rw [Int32.lt_iff_toInt_lt] at this ⊢
      rw [Int32.toInt_zero] at this
      rw [show (-1 : Int32).toInt = -1 by decide]
      omega
    rw [if_pos h1]
    by_cases h2 : 0 < c 0
    · rw [if_pos h2]
    · rw [if_neg h2]
      exact Int32.le_antisymm (Int32.not_lt.mp h2) (Int32.not_lt.mp (h 0))
  | m + 1 => by
    rw [forN_succ, forN_succ (F := mxF c), ← wr_mx h m]
    generalize forN (wrF c) (m + 1) (0, -1) = p
    unfold wrF mxF mx
    split <;> rfl
theorem tlC_nn {m k : Nat} (hn : n ≤ 7) : ¬ tlC R st n nW nG nU m k < 0 := by
  unfold tlC
  obtain ⟨h1, h2⟩ := ones_dbt (n := n) (ws := daysM R (allU nU) n nW nG nU m (st.set k 0)) hn
  rw [h1]
  exact nI_pos (by omega)
theorem C_tellMost (hgo : GoC) {m : Int32} (hC : CIv H R st n nS nW nG nU nN) (hg : Gb st) (hQ : CR H Q (if whyF (decide (0 < n)) m 40 = 0 then (forN (wrF (tlC R st n nW nG nU m.toNatClampNeg)) n (0, -1)).2 else -1) (whyF (decide (0 < n)) m 40)) : Wp scr (d + 6) 163 0 [some (.ref 0), some (.int m), none, none] [] H Q := by
  have hS := hC.shp
  obtain ⟨c2, c3, c4, c5, c6, c7, b2, b3, b4, b5, b6, b7⟩ := id hC.1.2.1
  have hs0 := sf_0_13 (v := 0) hS
  have hC0 := hC.tr (v := 0)
  by_cases hw : whyF (decide (0 < n)) m 40 = 0
  · rw [hw, if_pos rfl] at hQ
    obtain ⟨hk, hm⟩ := whyF_0 hw
    obtain ⟨em, lm⟩ := of_in (n := 40) hm (by omega)
    have hn0 : 0 < n := of_decide_eq_true hk
    simp (maxDischargeDepth := 12) only [w163_0, w163_1, w163_2, w163_3, w163_6, w163_9, w163_10, w163_13, w163_16, w163_17, w163_18, w163_19, w163_20, w163_21, w163_23, w163_24, w163_27, w163_30, w163_33, w163_36, w163_37, w163_38, w163_39, w163_40, w163_43, w163_46, w163_47, w163_50, w163_53, w163_54, oK_some, cont_int, cont_intS, cont_none, cont_noneS, cont_long, cont_longS, true_and, and_true, false_and, and_false, true_implies, false_implies, not_true_eq_false, not_false_eq_true, eq_self, or_true, true_or, Option.isSome_some, hpf_length, hpa_length, bI_eq0, fi_hpa, fl_hpa, ar_hpf, fi_hpf_ne, fl_hpf_ne, ar_hpa_ne, hpa_hpa, hpf_hpf, nI_1, two_ne, fokZ, implies_true, Nat.reduceEqDiff, rc_0, g_0_13, sf_0_13, fe_0_13, g_0_2, rc_3, g_3_2, rc_4, g_16_2, rc_17, rc_6, rc_8, rc_10, rc_12, rc_14, rc_19, rc_21, rc_23, rc_25, rc_27, hS, c_daysTrouble hC, hw, hs0]
    generalize m.toNatClampNeg = mm at em lm hQ
    subst em
    have e1 : (forN (wrF (tlC R st n nW nG nU mm)) n (0, -1)).2 = forN (mxF (tlC R st n nW nG nU mm)) n 0 := by
      have := wr_mx (c := tlC R st n nW nG nU mm) (fun k => tlC_nn b2) (n - 1)
      rw [show n - 1 + 1 = n by omega] at this
      exact this
    rw [e1] at hQ
    generalize hc : tlC R st n nW nG nU mm = c at hQ
    have key := down (P := fun i => ∀ H4, Fg [33, 34, 36, 38, 40, 42] [] (hpf H 0 13 (.int 0)) H4 → Wp scr (d + 6) 163 22 [some (.ref 0), some (.int (nI mm)), some (.int (forN (mxF c) i 0)), some (.int (nI i))] [] H4 Q) n ?_ ?_
    · exact key _ (Fg.rfl' hs0)
    · intro H4 hF4
      have hC4 := hC0.of hF4 (by decide) (by decide)
      have hs4 := hF4.shp
      have c2' := hC4.1.2.1.1
      rw [w163_22]
      simp (maxDischargeDepth := 12) only [w163_0, w163_1, w163_2, w163_3, w163_6, w163_9, w163_10, w163_13, w163_16, w163_17, w163_18, w163_19, w163_20, w163_21, w163_23, w163_24, w163_27, w163_30, w163_33, w163_36, w163_37, w163_38, w163_39, w163_40, w163_43, w163_46, w163_47, w163_50, w163_53, w163_54, oK_some, cont_int, cont_intS, cont_none, cont_noneS, cont_long, cont_longS, true_and, and_true, false_and, and_false, true_implies, false_implies, not_true_eq_false, not_false_eq_true, eq_self, or_true, true_or, Option.isSome_some, hpf_length, hpa_length, bI_eq0, fi_hpa, fl_hpa, ar_hpf, fi_hpf_ne, fl_hpf_ne, ar_hpa_ne, hpa_hpa, hpf_hpf, nI_1, two_ne, fokZ, implies_true, Nat.reduceEqDiff, rc_0, g_0_13, sf_0_13, fe_0_13, g_0_2, rc_3, g_3_2, rc_4, g_16_2, rc_17, rc_6, rc_8, rc_10, rc_12, rc_14, rc_19, rc_21, rc_23, rc_25, rc_27, hs4, c_Table_count (g_4_2 hs4), c2', nI_les]
      exact cr_ok hS hF4 (by decide) (by decide) (by decide) (by decide) hQ
    · intro i hi hw2 H4 hF4
      have hC4 := hC0.of hF4 (by decide) (by decide)
      have hs4 := hF4.shp
      have c2' := hC4.1.2.1.1
      rw [forN_succ] at hw2
      generalize forN (mxF c) i 0 = p at hw2 ⊢
      rw [w163_22]
      simp (maxDischargeDepth := 12) only [w163_0, w163_1, w163_2, w163_3, w163_6, w163_9, w163_10, w163_13, w163_16, w163_17, w163_18, w163_19, w163_20, w163_21, w163_23, w163_24, w163_27, w163_30, w163_33, w163_36, w163_37, w163_38, w163_39, w163_40, w163_43, w163_46, w163_47, w163_50, w163_53, w163_54, oK_some, cont_int, cont_intS, cont_none, cont_noneS, cont_long, cont_longS, true_and, and_true, false_and, and_false, true_implies, false_implies, not_true_eq_false, not_false_eq_true, eq_self, or_true, true_or, Option.isSome_some, hpf_length, hpa_length, bI_eq0, fi_hpa, fl_hpa, ar_hpf, fi_hpf_ne, fl_hpf_ne, ar_hpa_ne, hpa_hpa, hpf_hpf, nI_1, two_ne, fokZ, implies_true, Nat.reduceEqDiff, rc_0, g_0_13, sf_0_13, fe_0_13, g_0_2, rc_3, g_3_2, rc_4, g_16_2, rc_17, rc_6, rc_8, rc_10, rc_12, rc_14, rc_19, rc_21, rc_23, rc_25, rc_27, hs4, c_Table_count (g_4_2 hs4), c2', nI_lef hi (by omega : n < 2147483648)]
      refine c_telling hgo hC4 hg hi lm (fun H5 hF5 => ?_)
      rw [hc]
      simp (maxDischargeDepth := 12) only [w163_0, w163_1, w163_2, w163_3, w163_6, w163_9, w163_10, w163_13, w163_16, w163_17, w163_18, w163_19, w163_20, w163_21, w163_23, w163_24, w163_27, w163_30, w163_33, w163_36, w163_37, w163_38, w163_39, w163_40, w163_43, w163_46, w163_47, w163_50, w163_53, w163_54, oK_some, cont_int, cont_intS, cont_none, cont_noneS, cont_long, cont_longS, true_and, and_true, false_and, and_false, true_implies, false_implies, not_true_eq_false, not_false_eq_true, eq_self, or_true, true_or, Option.isSome_some, hpf_length, hpa_length, bI_eq0, fi_hpa, fl_hpa, ar_hpf, fi_hpf_ne, fl_hpf_ne, ar_hpa_ne, hpa_hpa, hpf_hpf, nI_1, two_ne, fokZ, implies_true, Nat.reduceEqDiff, rc_0, g_0_13, sf_0_13, fe_0_13, g_0_2, rc_3, g_3_2, rc_4, g_16_2, rc_17, rc_6, rc_8, rc_10, rc_12, rc_14, rc_19, rc_21, rc_23, rc_25, rc_27, hF5.len, c_max]
      exact hw2 H5 (hF4.trans hF5)
  · rw [if_neg hw] at hQ
    simp (maxDischargeDepth := 12) only [w163_0, w163_1, w163_2, w163_3, w163_6, w163_9, w163_10, w163_13, w163_16, w163_17, w163_18, w163_19, w163_20, w163_21, w163_23, w163_24, w163_27, w163_30, w163_33, w163_36, w163_37, w163_38, w163_39, w163_40, w163_43, w163_46, w163_47, w163_50, w163_53, w163_54, oK_some, cont_int, cont_intS, cont_none, cont_noneS, cont_long, cont_longS, true_and, and_true, false_and, and_false, true_implies, false_implies, not_true_eq_false, not_false_eq_true, eq_self, or_true, true_or, Option.isSome_some, hpf_length, hpa_length, bI_eq0, fi_hpa, fl_hpa, ar_hpf, fi_hpf_ne, fl_hpf_ne, ar_hpa_ne, hpa_hpa, hpf_hpf, nI_1, two_ne, fokZ, implies_true, Nat.reduceEqDiff, rc_0, g_0_13, sf_0_13, fe_0_13, g_0_2, rc_3, g_3_2, rc_4, g_16_2, rc_17, rc_6, rc_8, rc_10, rc_12, rc_14, rc_19, rc_21, rc_23, rc_25, rc_27, hS, c_daysTrouble hC, hw]
    exact cr_no hS hQ
theorem grK_nI {g x : Nat} (hx : x ≤ 30) (e : ws.getD g 0 = nI x) : grK g ws = ws.set g (nI (x - 3)) := by
  unfold grK
  rw [e]
  by_cases h : x < 3
  · have h' : nI x < 3 := nI_lt (b := 3) h (by decide)
    rw [if_pos h', show x - 3 = 0 by omega]
    rfl
  · have h' : ¬ nI x < 3 := nI_nlt (b := 3) (by omega) (by omega)
    rw [if_neg h', show (3 : Int32) = nI 3 from rfl, pk_sub (by omega)]
theorem w_passGrafted {sd : Nat} (hC : CSl H R n nS nW nG nU nN) (hW : Wk H ws rum n nS nW) (hn : 0 < n) (hsd : sd < 65537) (hQ : ∀ H', Fg [34, 36, 38, 40, 42] [] H H' → Wk H' (dayM R rum n nW nG nU (grK ((75 * sd + 74) % 65537 % n) ws)) rum n nS nW → Q (some (.int (nI ((75 * sd + 74) % 65537)))) H') : Wp scr (d + 4) 111 0 [some (.ref 33), some (.int (nI sd)), none, none] [] H Q := by
  have hS := hC.shp
  have b2 := hC.2.1.2.2.2.2.2.2.1
  have c2 := hC.2.1.1
  have e1 : (75 : Int32) * nI sd + 74 = nI (75 * sd + 74) := by rw [show (75 : Int32) = nI 75 from rfl, show (74 : Int32) = nI 74 from rfl, pk_mul, nI_add]
  have e2 : nI (75 * sd + 74) - nI (75 * sd + 74) / 65537 * 65537 = nI ((75 * sd + 74) % 65537) := pk_rem (a := 75 * sd + 74) (d := 65537) (by omega) (by decide) (by decide)
  generalize hs' : (75 * sd + 74) % 65537 = s' at e2 hQ
  have hs2 : s' < 65537 := by rw [← hs']; exact Nat.mod_lt _ (by decide)
  have e3 : nI s' - nI s' / nI n * nI n = nI (s' % n) := pk_rem (by omega) hn (by omega)
  have hgl : s' % n < n := Nat.mod_lt _ hn
  simp (maxDischargeDepth := 12) only [w111_0, w111_2, w111_3, w111_4, w111_6, w111_7, w111_9, w111_10, w111_11, w111_12, w111_15, w111_18, w111_21, w111_22, w111_23, w111_26, w111_27, w111_28, w111_29, w111_30, w111_31, w111_34, w111_35, w111_38, w111_39, w111_40, oK_some, cont_int, cont_intS, cont_none, cont_noneS, cont_long, cont_longS, true_and, and_true, false_and, and_false, true_implies, false_implies, not_true_eq_false, not_false_eq_true, eq_self, or_true, true_or, Option.isSome_some, hpf_length, hpa_length, bI_eq0, fi_hpa, fl_hpa, ar_hpf, fi_hpf_ne, fl_hpf_ne, ar_hpa_ne, hpa_hpa, hpf_hpf, nI_1, two_ne, fokZ, implies_true, Nat.reduceEqDiff, g_33_0, rc_3, g_3_2, rc_4, g_16_2, rc_17, rc_6, rc_8, rc_10, rc_12, rc_14, rc_19, rc_21, rc_23, rc_25, rc_27, rc_33, hS, c_Table_count (g_4_2 hS), c2, e1, e2, e3, show ((65537 : Int32) = 0) = False from eq_false (by decide), nI_nle hn (by omega : n < 2 ^ 31), nI_ne0 hn (by omega : n < 2 ^ 31)]
  refine w_lose (y := 3) hS b2 hgl hW rfl (by decide) (fun H2 x hx ex hF2 hW2 => ?_)
  rw [← grK_nI hx ex] at hW2
  have hC2 := hC.of hF2 (by decide) (by decide)
  have hs2 := hF2.shp
  simp (maxDischargeDepth := 12) only [w111_0, w111_2, w111_3, w111_4, w111_6, w111_7, w111_9, w111_10, w111_11, w111_12, w111_15, w111_18, w111_21, w111_22, w111_23, w111_26, w111_27, w111_28, w111_29, w111_30, w111_31, w111_34, w111_35, w111_38, w111_39, w111_40, oK_some, cont_int, cont_intS, cont_none, cont_noneS, cont_long, cont_longS, true_and, and_true, false_and, and_false, true_implies, false_implies, not_true_eq_false, not_false_eq_true, eq_self, or_true, true_or, Option.isSome_some, hpf_length, hpa_length, bI_eq0, fi_hpa, fl_hpa, ar_hpf, fi_hpf_ne, fl_hpf_ne, ar_hpa_ne, hpa_hpa, hpf_hpf, nI_1, two_ne, fokZ, implies_true, Nat.reduceEqDiff, g_33_0, rc_3, g_3_2, rc_4, g_16_2, rc_17, rc_6, rc_8, rc_10, rc_12, rc_14, rc_19, rc_21, rc_23, rc_25, rc_27, rc_33, hF2.len, hs2]
  refine w_pass hC2 hW2 (fun H3 hF3 hW3 => ?_)
  simp (maxDischargeDepth := 12) only [w111_0, w111_2, w111_3, w111_4, w111_6, w111_7, w111_9, w111_10, w111_11, w111_12, w111_15, w111_18, w111_21, w111_22, w111_23, w111_26, w111_27, w111_28, w111_29, w111_30, w111_31, w111_34, w111_35, w111_38, w111_39, w111_40, oK_some, cont_int, cont_intS, cont_none, cont_noneS, cont_long, cont_longS, true_and, and_true, false_and, and_false, true_implies, false_implies, not_true_eq_false, not_false_eq_true, eq_self, or_true, true_or, Option.isSome_some, hpf_length, hpa_length, bI_eq0, fi_hpa, fl_hpa, ar_hpf, fi_hpf_ne, fl_hpf_ne, ar_hpa_ne, hpa_hpa, hpf_hpf, nI_1, two_ne, fokZ, implies_true, Nat.reduceEqDiff, g_33_0, rc_3, g_3_2, rc_4, g_16_2, rc_17, rc_6, rc_8, rc_10, rc_12, rc_14, rc_19, rc_21, rc_23, rc_25, rc_27, rc_33, hF3.len]
  exact hQ H3 ((hF2.mono (by decide) (by decide)).trans hF3) hW3
theorem w_goGrafted {sd m : Nat} (hC : CSl H R n nS nW nG nU nN) (hW : Wk H ws rum n nS nW) (hn : 0 < n) (hsd : sd < 65537) (hm : m < 100000) (hQ : ∀ H', Fg [34, 36, 38, 40, 42] [] H H' → Wk H' (grD R rum n nW nG nU sd m ws) rum n nS nW → Q none H') : Wp scr (d + 5) 110 0 [some (.ref 33), some (.int (nI sd)), some (.int (nI m)), none, none] [] H Q := by
  simp only [w110_0, w110_1, w110_2, w110_3]
  have key := down (P := fun i => ∀ H2, Fg [34, 36, 38, 40, 42] [] H H2 → Wk H2 (grD R rum n nW nG nU sd i ws) rum n nS nW → Wp scr (d + 5) 110 5 [some (.ref 33), some (.int (nI sd)), some (.int (nI m)), some (.int (nI (grS sd i))), some (.int (nI i))] [] H2 Q) m ?_ ?_
  · exact key H (Fg.rfl' hC.shp) hW
  · intro H2 hF2 hW2
    rw [w110_5]
    simp (maxDischargeDepth := 12) only [w110_0, w110_1, w110_2, w110_3, w110_7, w110_8, w110_11, w110_12, w110_13, w110_16, w110_17, w110_20, w110_23, oK_some, cont_int, cont_intS, cont_none, cont_noneS, cont_long, cont_longS, true_and, and_true, false_and, and_false, true_implies, false_implies, not_true_eq_false, not_false_eq_true, eq_self, or_true, true_or, Option.isSome_some, hpf_length, hpa_length, bI_eq0, fi_hpa, fl_hpa, ar_hpf, fi_hpf_ne, fl_hpf_ne, ar_hpa_ne, hpa_hpa, hpf_hpf, nI_1, two_ne, fokZ, implies_true, Nat.reduceEqDiff, rc_33, nI_les]
    exact hQ H2 hF2 hW2
  · intro i hi hw H2 hF2 hW2
    have hC2 := hC.of hF2 (by decide) (by decide)
    have hs2 := hF2.shp
    rw [w110_5]
    simp (maxDischargeDepth := 12) only [w110_0, w110_1, w110_2, w110_3, w110_7, w110_8, w110_11, w110_12, w110_13, w110_16, w110_17, w110_20, w110_23, oK_some, cont_int, cont_intS, cont_none, cont_noneS, cont_long, cont_longS, true_and, and_true, false_and, and_false, true_implies, false_implies, not_true_eq_false, not_false_eq_true, eq_self, or_true, true_or, Option.isSome_some, hpf_length, hpa_length, bI_eq0, fi_hpa, fl_hpa, ar_hpf, fi_hpf_ne, fl_hpf_ne, ar_hpa_ne, hpa_hpa, hpf_hpf, nI_1, two_ne, fokZ, implies_true, Nat.reduceEqDiff, rc_33, hs2, nI_lef hi (by omega : m < 2147483648)]
    refine w_passGrafted hC2 hW2 hn (grS_lt hsd i) (fun H3 hF3 hW3 => ?_)
    simp (maxDischargeDepth := 12) only [w110_0, w110_1, w110_2, w110_3, w110_7, w110_8, w110_11, w110_12, w110_13, w110_16, w110_17, w110_20, w110_23, oK_some, cont_int, cont_intS, cont_none, cont_noneS, cont_long, cont_longS, true_and, and_true, false_and, and_false, true_implies, false_implies, not_true_eq_false, not_false_eq_true, eq_self, or_true, true_or, Option.isSome_some, hpf_length, hpa_length, bI_eq0, fi_hpa, fl_hpa, ar_hpf, fi_hpf_ne, fl_hpf_ne, ar_hpa_ne, hpa_hpa, hpf_hpf, nI_1, two_ne, fokZ, implies_true, Nat.reduceEqDiff, rc_33, hF3.len]
    exact hw H3 (hF2.trans hF3) hW3
theorem C_grafted {k seed m : Int32} (hC : CIv H R st n nS nW nG nU nN) (hQ : CR H Q (if gwF (decide (0 ≤ k ∧ k < nI n)) seed m = 0 then (grD R (allU nU) n nW nG nU seed.toNatClampNeg m.toNatClampNeg st).getD k.toNatClampNeg 0 else -1) (gwF (decide (0 ≤ k ∧ k < nI n)) seed m)) : Wp scr (d + 6) 170 0 [some (.ref 0), some (.int k), some (.int seed), some (.int m)] [] H Q := by
  have hS := hC.shp
  obtain ⟨c2, c3, c4, c5, c6, c7, b2, b3, b4, b5, b6, b7⟩ := id hC.1.2.1
  have hs0 := sf_0_13 (v := 0) hS
  have hC0 := hC.tr (v := 0)
  by_cases hw : gwF (decide (0 ≤ k ∧ k < nI n)) seed m = 0
  · rw [hw, if_pos rfl] at hQ
    obtain ⟨hk, hs, hm⟩ := gwF_0 hw
    obtain ⟨em, lm⟩ := of_in (n := 40) hm (by omega)
    obtain ⟨es, ls⟩ := of_in (n := 65536) hs (by omega)
    obtain ⟨ek, lk⟩ := of_row (of_decide_eq_true hk) (by omega)
    simp (maxDischargeDepth := 12) only [w170_0, w170_1, w170_2, w170_3, w170_4, w170_5, w170_8, w170_11, w170_12, w170_15, w170_18, w170_19, w170_20, w170_21, w170_24, w170_25, w170_28, w170_31, w170_32, w170_35, w170_36, w170_37, w170_40, w170_41, w170_44, w170_45, w170_48, oK_some, cont_int, cont_intS, cont_none, cont_noneS, cont_long, cont_longS, true_and, and_true, false_and, and_false, true_implies, false_implies, not_true_eq_false, not_false_eq_true, eq_self, or_true, true_or, Option.isSome_some, hpf_length, hpa_length, bI_eq0, fi_hpa, fl_hpa, ar_hpf, fi_hpf_ne, fl_hpf_ne, ar_hpa_ne, hpa_hpa, hpf_hpf, nI_1, two_ne, fokZ, implies_true, Nat.reduceEqDiff, rc_0, g_0_13, sf_0_13, fe_0_13, g_0_6, rc_33, g_0_5, rc_30, hS, c_rowGraftTrouble hC, hw, hs0]
    generalize m.toNatClampNeg = mm at em lm hQ
    generalize k.toNatClampNeg = kk at ek lk hQ
    generalize seed.toNatClampNeg = sd at es ls hQ
    subst em
    subst ek
    subst es
    refine w_start hC0 (fun H1 hF1 hW1 => ?_)
    have hC1 := hC0.1.of hF1 (by decide) (by decide)
    have hs1 := hF1.shp
    simp (maxDischargeDepth := 12) only [w170_0, w170_1, w170_2, w170_3, w170_4, w170_5, w170_8, w170_11, w170_12, w170_15, w170_18, w170_19, w170_20, w170_21, w170_24, w170_25, w170_28, w170_31, w170_32, w170_35, w170_36, w170_37, w170_40, w170_41, w170_44, w170_45, w170_48, oK_some, cont_int, cont_intS, cont_none, cont_noneS, cont_long, cont_longS, true_and, and_true, false_and, and_false, true_implies, false_implies, not_true_eq_false, not_false_eq_true, eq_self, or_true, true_or, Option.isSome_some, hpf_length, hpa_length, bI_eq0, fi_hpa, fl_hpa, ar_hpf, fi_hpf_ne, fl_hpf_ne, ar_hpa_ne, hpa_hpa, hpf_hpf, nI_1, two_ne, fokZ, implies_true, Nat.reduceEqDiff, rc_0, g_0_13, sf_0_13, fe_0_13, g_0_6, rc_33, g_0_5, rc_30, hF1.len, hs1]
    refine w_goGrafted hC1 hW1 (by omega) (by omega) (by omega) (fun H2 hF2 hW2 => ?_)
    have hs2 := hF2.shp
    simp (maxDischargeDepth := 12) only [w170_0, w170_1, w170_2, w170_3, w170_4, w170_5, w170_8, w170_11, w170_12, w170_15, w170_18, w170_19, w170_20, w170_21, w170_24, w170_25, w170_28, w170_31, w170_32, w170_35, w170_36, w170_37, w170_40, w170_41, w170_44, w170_45, w170_48, oK_some, cont_int, cont_intS, cont_none, cont_noneS, cont_long, cont_longS, true_and, and_true, false_and, and_false, true_implies, false_implies, not_true_eq_false, not_false_eq_true, eq_self, or_true, true_or, Option.isSome_some, hpf_length, hpa_length, bI_eq0, fi_hpa, fl_hpa, ar_hpf, fi_hpf_ne, fl_hpf_ne, ar_hpa_ne, hpa_hpa, hpf_hpf, nI_1, two_ne, fokZ, implies_true, Nat.reduceEqDiff, rc_0, g_0_13, sf_0_13, fe_0_13, g_0_6, rc_33, g_0_5, rc_30, hF2.len, hs2, w_faithOf hs2 (by omega : kk < 7), hW2.1.1 kk lk]
    have hF3 := (hF1.mono (T := [33, 34, 36, 38, 40, 42]) (G := []) (by decide) (by decide)).trans (hF2.mono (by decide) (by decide))
    exact cr_ok hS hF3 (by decide) (by decide) (by decide) (by decide) hQ
  · rw [if_neg hw] at hQ
    simp (maxDischargeDepth := 12) only [w170_0, w170_1, w170_2, w170_3, w170_4, w170_5, w170_8, w170_11, w170_12, w170_15, w170_18, w170_19, w170_20, w170_21, w170_24, w170_25, w170_28, w170_31, w170_32, w170_35, w170_36, w170_37, w170_40, w170_41, w170_44, w170_45, w170_48, oK_some, cont_int, cont_intS, cont_none, cont_noneS, cont_long, cont_longS, true_and, and_true, false_and, and_false, true_implies, false_implies, not_true_eq_false, not_false_eq_true, eq_self, or_true, true_or, Option.isSome_some, hpf_length, hpa_length, bI_eq0, fi_hpa, fl_hpa, ar_hpf, fi_hpf_ne, fl_hpf_ne, ar_hpa_ne, hpa_hpa, hpf_hpf, nI_1, two_ne, fokZ, implies_true, Nat.reduceEqDiff, rc_0, g_0_13, sf_0_13, fe_0_13, g_0_6, rc_33, g_0_5, rc_30, hS, c_rowGraftTrouble hC, hw]
    exact cr_no hS hQ
theorem C_graftDoubters {seed m : Int32} (hC : CIv H R st n nS nW nG nU nN) (hQ : CR H Q (if gwF (decide (0 < n)) seed m = 0 then dbt n (grD R (allU nU) n nW nG nU seed.toNatClampNeg m.toNatClampNeg st) else -1) (gwF (decide (0 < n)) seed m)) : Wp scr (d + 6) 171 0 [some (.ref 0), some (.int seed), some (.int m)] [] H Q := by
  have hS := hC.shp
  obtain ⟨c2, c3, c4, c5, c6, c7, b2, b3, b4, b5, b6, b7⟩ := id hC.1.2.1
  have hs0 := sf_0_13 (v := 0) hS
  have hC0 := hC.tr (v := 0)
  by_cases hw : gwF (decide (0 < n)) seed m = 0
  · rw [hw, if_pos rfl] at hQ
    obtain ⟨hk, hs, hm⟩ := gwF_0 hw
    obtain ⟨em, lm⟩ := of_in (n := 40) hm (by omega)
    obtain ⟨es, ls⟩ := of_in (n := 65536) hs (by omega)
    have hn0 : 0 < n := of_decide_eq_true hk
    simp (maxDischargeDepth := 12) only [w171_0, w171_1, w171_2, w171_3, w171_4, w171_7, w171_10, w171_11, w171_14, w171_17, w171_18, w171_19, w171_20, w171_23, w171_24, w171_27, w171_30, w171_31, w171_34, w171_35, w171_36, w171_39, w171_40, w171_43, w171_46, oK_some, cont_int, cont_intS, cont_none, cont_noneS, cont_long, cont_longS, true_and, and_true, false_and, and_false, true_implies, false_implies, not_true_eq_false, not_false_eq_true, eq_self, or_true, true_or, Option.isSome_some, hpf_length, hpa_length, bI_eq0, fi_hpa, fl_hpa, ar_hpf, fi_hpf_ne, fl_hpf_ne, ar_hpa_ne, hpa_hpa, hpf_hpf, nI_1, two_ne, fokZ, implies_true, Nat.reduceEqDiff, rc_0, g_0_13, sf_0_13, fe_0_13, g_0_6, rc_33, g_0_5, rc_30, hS, c_graftTrouble hC, hw, hs0]
    generalize m.toNatClampNeg = mm at em lm hQ
    generalize seed.toNatClampNeg = sd at es ls hQ
    subst em
    subst es
    refine w_start hC0 (fun H1 hF1 hW1 => ?_)
    have hC1 := hC0.1.of hF1 (by decide) (by decide)
    have hs1 := hF1.shp
    simp (maxDischargeDepth := 12) only [w171_0, w171_1, w171_2, w171_3, w171_4, w171_7, w171_10, w171_11, w171_14, w171_17, w171_18, w171_19, w171_20, w171_23, w171_24, w171_27, w171_30, w171_31, w171_34, w171_35, w171_36, w171_39, w171_40, w171_43, w171_46, oK_some, cont_int, cont_intS, cont_none, cont_noneS, cont_long, cont_longS, true_and, and_true, false_and, and_false, true_implies, false_implies, not_true_eq_false, not_false_eq_true, eq_self, or_true, true_or, Option.isSome_some, hpf_length, hpa_length, bI_eq0, fi_hpa, fl_hpa, ar_hpf, fi_hpf_ne, fl_hpf_ne, ar_hpa_ne, hpa_hpa, hpf_hpf, nI_1, two_ne, fokZ, implies_true, Nat.reduceEqDiff, rc_0, g_0_13, sf_0_13, fe_0_13, g_0_6, rc_33, g_0_5, rc_30, hF1.len, hs1]
    refine w_goGrafted hC1 hW1 hn0 (by omega) (by omega) (fun H2 hF2 hW2 => ?_)
    have hs2 := hF2.shp
    have hC2 := hC1.of hF2 (by decide) (by decide)
    simp (maxDischargeDepth := 12) only [w171_0, w171_1, w171_2, w171_3, w171_4, w171_7, w171_10, w171_11, w171_14, w171_17, w171_18, w171_19, w171_20, w171_23, w171_24, w171_27, w171_30, w171_31, w171_34, w171_35, w171_36, w171_39, w171_40, w171_43, w171_46, oK_some, cont_int, cont_intS, cont_none, cont_noneS, cont_long, cont_longS, true_and, and_true, false_and, and_false, true_implies, false_implies, not_true_eq_false, not_false_eq_true, eq_self, or_true, true_or, Option.isSome_some, hpf_length, hpa_length, bI_eq0, fi_hpa, fl_hpa, ar_hpf, fi_hpf_ne, fl_hpf_ne, ar_hpa_ne, hpa_hpa, hpf_hpf, nI_1, two_ne, fokZ, implies_true, Nat.reduceEqDiff, rc_0, g_0_13, sf_0_13, fe_0_13, g_0_6, rc_33, g_0_5, rc_30, hF2.len, hs2, w_doubting hC2 hW2.1.1]
    have hF3 := (hF1.mono (T := [33, 34, 36, 38, 40, 42]) (G := []) (by decide) (by decide)).trans (hF2.mono (by decide) (by decide))
    exact cr_ok hS hF3 (by decide) (by decide) (by decide) (by decide) hQ
  · rw [if_neg hw] at hQ
    simp (maxDischargeDepth := 12) only [w171_0, w171_1, w171_2, w171_3, w171_4, w171_7, w171_10, w171_11, w171_14, w171_17, w171_18, w171_19, w171_20, w171_23, w171_24, w171_27, w171_30, w171_31, w171_34, w171_35, w171_36, w171_39, w171_40, w171_43, w171_46, oK_some, cont_int, cont_intS, cont_none, cont_noneS, cont_long, cont_longS, true_and, and_true, false_and, and_false, true_implies, false_implies, not_true_eq_false, not_false_eq_true, eq_self, or_true, true_or, Option.isSome_some, hpf_length, hpa_length, bI_eq0, fi_hpa, fl_hpa, ar_hpf, fi_hpf_ne, fl_hpf_ne, ar_hpa_ne, hpa_hpa, hpf_hpf, nI_1, two_ne, fokZ, implies_true, Nat.reduceEqDiff, rc_0, g_0_13, sf_0_13, fe_0_13, g_0_6, rc_33, g_0_5, rc_30, hS, c_graftTrouble hC, hw]
    exact cr_no hS hQ
theorem C_graftWhen {k seed m : Int32} (hC : CIv H R st n nS nW nG nU nN) (hQ : CR H Q (if gwF (decide (0 ≤ k ∧ k < nI n)) seed m = 0 then grW (fun i => decide ((grD R (allU nU) n nW nG nU seed.toNatClampNeg (i + 1) st).getD k.toNatClampNeg 0 < 10)) m.toNatClampNeg else -1) (gwF (decide (0 ≤ k ∧ k < nI n)) seed m)) : Wp scr (d + 6) 172 0 [some (.ref 0), some (.int k), some (.int seed), some (.int m), none, none] [] H Q := by
  have hS := hC.shp
  obtain ⟨c2, c3, c4, c5, c6, c7, b2, b3, b4, b5, b6, b7⟩ := id hC.1.2.1
  have hs0 := sf_0_13 (v := 0) hS
  have hC0 := hC.tr (v := 0)
  by_cases hw : gwF (decide (0 ≤ k ∧ k < nI n)) seed m = 0
  · rw [hw, if_pos rfl] at hQ
    obtain ⟨hk, hs, hm⟩ := gwF_0 hw
    obtain ⟨em, lm⟩ := of_in (n := 40) hm (by omega)
    obtain ⟨es, ls⟩ := of_in (n := 65536) hs (by omega)
    obtain ⟨ek, lk⟩ := of_row (of_decide_eq_true hk) (by omega)
    simp (maxDischargeDepth := 12) only [w172_0, w172_1, w172_2, w172_3, w172_4, w172_5, w172_8, w172_11, w172_12, w172_15, w172_18, w172_19, w172_20, w172_21, w172_24, w172_25, w172_28, w172_31, w172_32, w172_34, w172_35, w172_39, w172_40, w172_43, w172_44, w172_47, w172_49, w172_52, w172_54, w172_55, w172_58, w172_59, w172_62, w172_65, w172_67, w172_68, w172_71, w172_74, w172_75, oK_some, cont_int, cont_intS, cont_none, cont_noneS, cont_long, cont_longS, true_and, and_true, false_and, and_false, true_implies, false_implies, not_true_eq_false, not_false_eq_true, eq_self, or_true, true_or, Option.isSome_some, hpf_length, hpa_length, bI_eq0, fi_hpa, fl_hpa, ar_hpf, fi_hpf_ne, fl_hpf_ne, ar_hpa_ne, hpa_hpa, hpf_hpf, nI_1, two_ne, fokZ, implies_true, Nat.reduceEqDiff, rc_0, g_0_13, sf_0_13, fe_0_13, g_0_6, rc_33, g_0_5, rc_30, hS, c_rowGraftTrouble hC, hw, hs0]
    generalize m.toNatClampNeg = mm at em lm hQ
    generalize k.toNatClampNeg = kk at ek lk hQ
    generalize seed.toNatClampNeg = sd at es ls hQ
    subst em
    subst ek
    subst es
    generalize hp : (fun i => decide ((grD R (allU nU) n nW nG nU sd (i + 1) st).getD kk 0 < 10)) = p at hQ
    have hpi : ∀ i, decide ((grD R (allU nU) n nW nG nU sd (i + 1) st).getD kk 0 < 10) = p i := fun i => by rw [← hp]
    refine w_start hC0 (fun H1 hF1 hW1 => ?_)
    have hs1 := hF1.shp
    simp (maxDischargeDepth := 12) only [w172_0, w172_1, w172_2, w172_3, w172_4, w172_5, w172_8, w172_11, w172_12, w172_15, w172_18, w172_19, w172_20, w172_21, w172_24, w172_25, w172_28, w172_31, w172_32, w172_34, w172_35, w172_39, w172_40, w172_43, w172_44, w172_47, w172_49, w172_52, w172_54, w172_55, w172_58, w172_59, w172_62, w172_65, w172_67, w172_68, w172_71, w172_74, w172_75, oK_some, cont_int, cont_intS, cont_none, cont_noneS, cont_long, cont_longS, true_and, and_true, false_and, and_false, true_implies, false_implies, not_true_eq_false, not_false_eq_true, eq_self, or_true, true_or, Option.isSome_some, hpf_length, hpa_length, bI_eq0, fi_hpa, fl_hpa, ar_hpf, fi_hpf_ne, fl_hpf_ne, ar_hpa_ne, hpa_hpa, hpf_hpf, nI_1, two_ne, fokZ, implies_true, Nat.reduceEqDiff, rc_0, g_0_13, sf_0_13, fe_0_13, g_0_6, rc_33, g_0_5, rc_30, hF1.len, hs1]
    have key := down (P := fun i => (∀ j, j < i → p j = false) → ∀ H2, Fg [33, 34, 36, 38, 40, 42] [] (hpf H 0 13 (.int 0)) H2 → Wk H2 (grD R (allU nU) n nW nG nU sd i st) (allU nU) n nS nW → Wp scr (d + 6) 172 37 [some (.ref 0), some (.int (nI kk)), some (.int (nI sd)), some (.int (nI mm)), some (.int (nI (grS sd i))), some (.int (nI (i + 1)))] [] H2 Q) mm ?_ ?_
    · exact key (fun j hj => absurd hj (Nat.not_lt_zero _)) H1 (hF1.mono (by decide) (by decide)) hW1
    · intro hno H2 hF2 hW2
      rw [w172_37]
      simp (maxDischargeDepth := 12) only [w172_0, w172_1, w172_2, w172_3, w172_4, w172_5, w172_8, w172_11, w172_12, w172_15, w172_18, w172_19, w172_20, w172_21, w172_24, w172_25, w172_28, w172_31, w172_32, w172_34, w172_35, w172_39, w172_40, w172_43, w172_44, w172_47, w172_49, w172_52, w172_54, w172_55, w172_58, w172_59, w172_62, w172_65, w172_67, w172_68, w172_71, w172_74, w172_75, oK_some, cont_int, cont_intS, cont_none, cont_noneS, cont_long, cont_longS, true_and, and_true, false_and, and_false, true_implies, false_implies, not_true_eq_false, not_false_eq_true, eq_self, or_true, true_or, Option.isSome_some, hpf_length, hpa_length, bI_eq0, fi_hpa, fl_hpa, ar_hpf, fi_hpf_ne, fl_hpf_ne, ar_hpa_ne, hpa_hpa, hpf_hpf, nI_1, two_ne, fokZ, implies_true, Nat.reduceEqDiff, rc_0, g_0_13, sf_0_13, fe_0_13, g_0_6, rc_33, g_0_5, rc_30, show (nI mm < nI (mm + 1)) = True from eq_true (nI_lt (by omega) (by omega))]
      unfold grW at hQ
      rw [fnd_miss hno] at hQ
      exact cr_ok hS hF2 (by decide) (by decide) (by decide) (by decide) hQ
    · intro i hi hw2 hno H2 hF2 hW2
      have hC2 := hC0.1.of hF2 (by decide) (by decide)
      have hs2 := hF2.shp
      rw [w172_37]
      simp (maxDischargeDepth := 12) only [w172_0, w172_1, w172_2, w172_3, w172_4, w172_5, w172_8, w172_11, w172_12, w172_15, w172_18, w172_19, w172_20, w172_21, w172_24, w172_25, w172_28, w172_31, w172_32, w172_34, w172_35, w172_39, w172_40, w172_43, w172_44, w172_47, w172_49, w172_52, w172_54, w172_55, w172_58, w172_59, w172_62, w172_65, w172_67, w172_68, w172_71, w172_74, w172_75, oK_some, cont_int, cont_intS, cont_none, cont_noneS, cont_long, cont_longS, true_and, and_true, false_and, and_false, true_implies, false_implies, not_true_eq_false, not_false_eq_true, eq_self, or_true, true_or, Option.isSome_some, hpf_length, hpa_length, bI_eq0, fi_hpa, fl_hpa, ar_hpf, fi_hpf_ne, fl_hpf_ne, ar_hpa_ne, hpa_hpa, hpf_hpf, nI_1, two_ne, fokZ, implies_true, Nat.reduceEqDiff, rc_0, g_0_13, sf_0_13, fe_0_13, g_0_6, rc_33, g_0_5, rc_30, hs2, show (nI mm < nI (i + 1)) = False from eq_false (nI_nlt (by omega) (by omega))]
      refine w_passGrafted hC2 hW2 (by omega) (grS_lt (by omega) i) (fun H3 hF3 hW3 => ?_)
      have hs3 := hF3.shp
      have hF4 := hF2.trans (hF3.mono (T := [33, 34, 36, 38, 40, 42]) (G := []) (by decide) (by decide))
      have ei : decide ((ar H3 36).getD kk 0 < 10) = p i := by rw [hW3.1.1 kk lk, ← hpi]; rfl
      simp (maxDischargeDepth := 12) only [w172_0, w172_1, w172_2, w172_3, w172_4, w172_5, w172_8, w172_11, w172_12, w172_15, w172_18, w172_19, w172_20, w172_21, w172_24, w172_25, w172_28, w172_31, w172_32, w172_34, w172_35, w172_39, w172_40, w172_43, w172_44, w172_47, w172_49, w172_52, w172_54, w172_55, w172_58, w172_59, w172_62, w172_65, w172_67, w172_68, w172_71, w172_74, w172_75, oK_some, cont_int, cont_intS, cont_none, cont_noneS, cont_long, cont_longS, true_and, and_true, false_and, and_false, true_implies, false_implies, not_true_eq_false, not_false_eq_true, eq_self, or_true, true_or, Option.isSome_some, hpf_length, hpa_length, bI_eq0, fi_hpa, fl_hpa, ar_hpf, fi_hpf_ne, fl_hpf_ne, ar_hpa_ne, hpa_hpa, hpf_hpf, nI_1, two_ne, fokZ, implies_true, Nat.reduceEqDiff, rc_0, g_0_13, sf_0_13, fe_0_13, g_0_6, rc_33, g_0_5, rc_30, hF3.len, hs3, w_doubts hs3 (by omega : kk < 7), ei]
      cases hpv : p i
      · simp only [oK_some, cont_int, cont_intS, cont_none, cont_noneS, cont_long, cont_longS, true_and, and_true, false_and, and_false, true_implies, false_implies, not_true_eq_false, not_false_eq_true, eq_self, or_true, true_or, Option.isSome_some, hpf_length, hpa_length, bI_eq0, fi_hpa, fl_hpa, ar_hpf, fi_hpf_ne, fl_hpf_ne, ar_hpa_ne, hpa_hpa, hpf_hpf, nI_1, two_ne, fokZ, implies_true, Nat.reduceEqDiff]
        refine hw2 (fun j hj => ?_) H3 hF4 hW3
        rcases Nat.lt_or_ge j i with q | q
        · exact hno j q
        · rw [show j = i by omega]; exact hpv
      · simp only [oK_some, cont_int, cont_intS, cont_none, cont_noneS, cont_long, cont_longS, true_and, and_true, false_and, and_false, true_implies, false_implies, not_true_eq_false, not_false_eq_true, eq_self, or_true, true_or, Option.isSome_some, hpf_length, hpa_length, bI_eq0, fi_hpa, fl_hpa, ar_hpf, fi_hpf_ne, fl_hpf_ne, ar_hpa_ne, hpa_hpa, hpf_hpf, nI_1, two_ne, fokZ, implies_true, Nat.reduceEqDiff, Bool.true_eq_false]
        unfold grW at hQ
        rw [fnd_hit hi hpv hno, nI_1] at hQ
        exact cr_ok hS hF4 (by decide) (by decide) (by decide) (by decide) hQ
  · rw [if_neg hw] at hQ
    simp (maxDischargeDepth := 12) only [w172_0, w172_1, w172_2, w172_3, w172_4, w172_5, w172_8, w172_11, w172_12, w172_15, w172_18, w172_19, w172_20, w172_21, w172_24, w172_25, w172_28, w172_31, w172_32, w172_34, w172_35, w172_39, w172_40, w172_43, w172_44, w172_47, w172_49, w172_52, w172_54, w172_55, w172_58, w172_59, w172_62, w172_65, w172_67, w172_68, w172_71, w172_74, w172_75, oK_some, cont_int, cont_intS, cont_none, cont_noneS, cont_long, cont_longS, true_and, and_true, false_and, and_false, true_implies, false_implies, not_true_eq_false, not_false_eq_true, eq_self, or_true, true_or, Option.isSome_some, hpf_length, hpa_length, bI_eq0, fi_hpa, fl_hpa, ar_hpf, fi_hpf_ne, fl_hpf_ne, ar_hpa_ne, hpa_hpa, hpf_hpf, nI_1, two_ne, fokZ, implies_true, Nat.reduceEqDiff, rc_0, g_0_13, sf_0_13, fe_0_13, g_0_6, rc_33, g_0_5, rc_30, hS, c_rowGraftTrouble hC, hw]
    exact cr_no hS hQ
end CQ3
