/-! ===== the Model: still, reach, row, sign, wall ===== -/
theorem exN_succ {p : Nat → Bool} {k : Nat} : exN p (k + 1) = (exN p k || p k) := by
  unfold exN
  rw [List.range_succ, List.any_append]
  simp
theorem exN_zero {p : Nat → Bool} : exN p 0 = false := rfl
def rbF (R : List Int32) (nW : Nat) (up : Int32) (a b : Nat) (s : Int32) : Int32 := if ¬ a = b ∧ hb s (nI b) = true ∧ dSee R nW up a b = true then s ||| (1 <<< (nI a &&& 31)) else s
def raF (R : List Int32) (n nW : Nat) (up : Int32) (a : Nat) (s : Int32) : Int32 := forN (rbF R nW up a) n s
def rchM (R : List Int32) (n nW : Nat) (up : Int32) (s : Int32) : Int32 := forN (fun _ => forN (raF R n nW up) n) 7 s
section MODEL9
variable {scr : List Int32} {d n nS nW nG nU nN w : Nat} {H : List AC} {R st : List Int32} {Q : Option Value → List AC → Prop}
theorem m_reachBy {up : Int32} {k : Int32} (hI : MIv H R st n nS nW nG nU nN) : Wp scr (d + 3) 255 0 [some (.ref 68), some (.int up), some (.int k), none, none, none, none] [] H Q ↔ Q (some (.int (rchM R n nW up (1 <<< (k &&& 31))))) H := by
  refine Wp_iff ?_
  generalize hQ : (fun (r : Option Value) (H' : List AC) => r = some (.int (rchM R n nW up (1 <<< (k &&& 31)))) ∧ H' = H) = Q1
  have hS := hI.shp
  have e71 := hI.2.1
  have rgR : ∀ j, R.getD j 0 = rg R j := fun _ => rfl
  obtain ⟨c2, c3, c4, c5, c6, c7, b2, b3, b4, b5, b6, b7⟩ := hI.mn
  have c4' : rg (ar H 71) 4 = nI nW := by rw [e71]; exact c4
  simp only [w255_0, w255_1, w255_2, w255_3, w255_4, w255_5]
  have key := down (P := fun i => ∀ o5 o6 : Option Value, Wp scr (d + 3) 255 7 [some (.ref 68), some (.int up), some (.int k), some (.int (forN (fun _ => forN (raF R n nW up) n) i (1 <<< (k &&& 31)))), some (.int (nI i)), o5, o6] [] H Q1) 7 ?_ ?_
  · exact key none none
  · intro o5 o6
    rw [w255_7]
    simp (maxDischargeDepth := 12) only [w255_0, w255_1, w255_2, w255_3, w255_4, w255_5, w255_9, w255_11, w255_14, w255_15, w255_19, w255_20, w255_23, w255_24, w255_25, w255_28, w255_29, w255_33, w255_34, w255_37, w255_38, w255_39, w255_42, w255_43, w255_45, w255_47, w255_50, w255_51, w255_53, w255_56, w255_59, w255_60, w255_61, w255_63, w255_65, w255_68, w255_71, w255_72, w255_74, w255_75, w255_78, w255_79, w255_80, w255_81, w255_84, w255_87, w255_90, w255_93, w255_96, w255_99, w255_100, oK_some, cont_int, cont_intS, cont_none, cont_noneS, cont_long, cont_longS, true_and, and_true, false_and, and_false, true_implies, false_implies, not_true_eq_false, not_false_eq_true, eq_self, or_true, true_or, Option.isSome_some, hpf_length, hpa_length, bI_eq0, fi_hpa, fl_hpa, ar_hpf, fi_hpf_ne, fl_hpf_ne, ar_hpa_ne, hpa_hpa, hpf_hpf, nI_1, two_ne, fokZ, implies_true, Nat.reduceEqDiff, g_68_15, ga_71, gn_71, sa_71, ae_71, rc_68, kl_0, kl_1, kl_2, kl_3, kl_4, kl_5, kl_6, kl_7, kl_8, kl_9, kl_10, kl_11, kl_12, jb_0_211, jb_1_211, jb_2_211, jb_3_211, jb_4_211, jb_5_211, jb_6_211, jb_7_211, jb_8_211, jb_9_211, jb_10_211, jb_11_211, jb_12_211, show ((7 : Int32) ≤ nI 7) = True from eq_true (by decide)]
    rw [← hQ]
    exact ⟨rfl, rfl⟩
  · intro i hi hw o5 o6
    rw [forN_succ] at hw
    generalize forN (fun _ => forN (raF R n nW up) n) i (1 <<< (k &&& 31)) = s at hw ⊢
    rw [w255_7]
    simp (maxDischargeDepth := 12) only [w255_0, w255_1, w255_2, w255_3, w255_4, w255_5, w255_9, w255_11, w255_14, w255_15, w255_19, w255_20, w255_23, w255_24, w255_25, w255_28, w255_29, w255_33, w255_34, w255_37, w255_38, w255_39, w255_42, w255_43, w255_45, w255_47, w255_50, w255_51, w255_53, w255_56, w255_59, w255_60, w255_61, w255_63, w255_65, w255_68, w255_71, w255_72, w255_74, w255_75, w255_78, w255_79, w255_80, w255_81, w255_84, w255_87, w255_90, w255_93, w255_96, w255_99, w255_100, oK_some, cont_int, cont_intS, cont_none, cont_noneS, cont_long, cont_longS, true_and, and_true, false_and, and_false, true_implies, false_implies, not_true_eq_false, not_false_eq_true, eq_self, or_true, true_or, Option.isSome_some, hpf_length, hpa_length, bI_eq0, fi_hpa, fl_hpa, ar_hpf, fi_hpf_ne, fl_hpf_ne, ar_hpa_ne, hpa_hpa, hpf_hpf, nI_1, two_ne, fokZ, implies_true, Nat.reduceEqDiff, g_68_15, ga_71, gn_71, sa_71, ae_71, rc_68, kl_0, kl_1, kl_2, kl_3, kl_4, kl_5, kl_6, kl_7, kl_8, kl_9, kl_10, kl_11, kl_12, jb_0_211, jb_1_211, jb_2_211, jb_3_211, jb_4_211, jb_5_211, jb_6_211, jb_7_211, jb_8_211, jb_9_211, jb_10_211, jb_11_211, jb_12_211, show ((7 : Int32) ≤ nI i) = False from eq_false (nI_ge (b := 7) hi (by decide))]
    have key2 := down (P := fun a => ∀ o6 : Option Value, Wp scr (d + 3) 255 17 [some (.ref 68), some (.int up), some (.int k), some (.int (forN (raF R n nW up) a s)), some (.int (nI i)), some (.int (nI a)), o6] [] H Q1) n ?_ ?_
    · exact key2 o6
    · intro o6
      rw [w255_17]
      simp (maxDischargeDepth := 12) only [w255_0, w255_1, w255_2, w255_3, w255_4, w255_5, w255_9, w255_11, w255_14, w255_15, w255_19, w255_20, w255_23, w255_24, w255_25, w255_28, w255_29, w255_33, w255_34, w255_37, w255_38, w255_39, w255_42, w255_43, w255_45, w255_47, w255_50, w255_51, w255_53, w255_56, w255_59, w255_60, w255_61, w255_63, w255_65, w255_68, w255_71, w255_72, w255_74, w255_75, w255_78, w255_79, w255_80, w255_81, w255_84, w255_87, w255_90, w255_93, w255_96, w255_99, w255_100, oK_some, cont_int, cont_intS, cont_none, cont_noneS, cont_long, cont_longS, true_and, and_true, false_and, and_false, true_implies, false_implies, not_true_eq_false, not_false_eq_true, eq_self, or_true, true_or, Option.isSome_some, hpf_length, hpa_length, bI_eq0, fi_hpa, fl_hpa, ar_hpf, fi_hpf_ne, fl_hpf_ne, ar_hpa_ne, hpa_hpa, hpf_hpf, nI_1, two_ne, fokZ, implies_true, Nat.reduceEqDiff, g_68_15, ga_71, gn_71, sa_71, ae_71, rc_68, kl_0, kl_1, kl_2, kl_3, kl_4, kl_5, kl_6, kl_7, kl_8, kl_9, kl_10, kl_11, kl_12, jb_0_211, jb_1_211, jb_2_211, jb_3_211, jb_4_211, jb_5_211, jb_6_211, jb_7_211, jb_8_211, jb_9_211, jb_10_211, jb_11_211, jb_12_211, hS, e71, hI.lr, rgR, c2, nI_les]
      exact hw _ _
    · intro a ha hw2 o6
      rw [forN_succ] at hw2
      generalize forN (raF R n nW up) a s = s2 at hw2 ⊢
      rw [w255_17]
      simp (maxDischargeDepth := 12) only [w255_0, w255_1, w255_2, w255_3, w255_4, w255_5, w255_9, w255_11, w255_14, w255_15, w255_19, w255_20, w255_23, w255_24, w255_25, w255_28, w255_29, w255_33, w255_34, w255_37, w255_38, w255_39, w255_42, w255_43, w255_45, w255_47, w255_50, w255_51, w255_53, w255_56, w255_59, w255_60, w255_61, w255_63, w255_65, w255_68, w255_71, w255_72, w255_74, w255_75, w255_78, w255_79, w255_80, w255_81, w255_84, w255_87, w255_90, w255_93, w255_96, w255_99, w255_100, oK_some, cont_int, cont_intS, cont_none, cont_noneS, cont_long, cont_longS, true_and, and_true, false_and, and_false, true_implies, false_implies, not_true_eq_false, not_false_eq_true, eq_self, or_true, true_or, Option.isSome_some, hpf_length, hpa_length, bI_eq0, fi_hpa, fl_hpa, ar_hpf, fi_hpf_ne, fl_hpf_ne, ar_hpa_ne, hpa_hpa, hpf_hpf, nI_1, two_ne, fokZ, implies_true, Nat.reduceEqDiff, g_68_15, ga_71, gn_71, sa_71, ae_71, rc_68, kl_0, kl_1, kl_2, kl_3, kl_4, kl_5, kl_6, kl_7, kl_8, kl_9, kl_10, kl_11, kl_12, jb_0_211, jb_1_211, jb_2_211, jb_3_211, jb_4_211, jb_5_211, jb_6_211, jb_7_211, jb_8_211, jb_9_211, jb_10_211, jb_11_211, jb_12_211, hS, e71, hI.lr, rgR, c2, nI_lef ha (by omega : n < 2147483648)]
      have key3 := down (P := fun b => Wp scr (d + 3) 255 31 [some (.ref 68), some (.int up), some (.int k), some (.int (forN (rbF R nW up a) b s2)), some (.int (nI i)), some (.int (nI a)), some (.int (nI b))] [] H Q1) n ?_ ?_
      · exact key3
      · rw [w255_31]
        simp (maxDischargeDepth := 12) only [w255_0, w255_1, w255_2, w255_3, w255_4, w255_5, w255_9, w255_11, w255_14, w255_15, w255_19, w255_20, w255_23, w255_24, w255_25, w255_28, w255_29, w255_33, w255_34, w255_37, w255_38, w255_39, w255_42, w255_43, w255_45, w255_47, w255_50, w255_51, w255_53, w255_56, w255_59, w255_60, w255_61, w255_63, w255_65, w255_68, w255_71, w255_72, w255_74, w255_75, w255_78, w255_79, w255_80, w255_81, w255_84, w255_87, w255_90, w255_93, w255_96, w255_99, w255_100, oK_some, cont_int, cont_intS, cont_none, cont_noneS, cont_long, cont_longS, true_and, and_true, false_and, and_false, true_implies, false_implies, not_true_eq_false, not_false_eq_true, eq_self, or_true, true_or, Option.isSome_some, hpf_length, hpa_length, bI_eq0, fi_hpa, fl_hpa, ar_hpf, fi_hpf_ne, fl_hpf_ne, ar_hpa_ne, hpa_hpa, hpf_hpf, nI_1, two_ne, fokZ, implies_true, Nat.reduceEqDiff, g_68_15, ga_71, gn_71, sa_71, ae_71, rc_68, kl_0, kl_1, kl_2, kl_3, kl_4, kl_5, kl_6, kl_7, kl_8, kl_9, kl_10, kl_11, kl_12, jb_0_211, jb_1_211, jb_2_211, jb_3_211, jb_4_211, jb_5_211, jb_6_211, jb_7_211, jb_8_211, jb_9_211, jb_10_211, jb_11_211, jb_12_211, hS, e71, hI.lr, rgR, c2, nI_les]
        exact hw2 _
      · intro b hb' hw3
        rw [forN_succ] at hw3
        generalize forN (rbF R nW up a) b s2 = s3 at hw3 ⊢
        have eab : (nI a = nI b) = (a = b) := propext (nI_eq (by omega) (by omega))
        rw [w255_31]
        simp (maxDischargeDepth := 12) only [w255_0, w255_1, w255_2, w255_3, w255_4, w255_5, w255_9, w255_11, w255_14, w255_15, w255_19, w255_20, w255_23, w255_24, w255_25, w255_28, w255_29, w255_33, w255_34, w255_37, w255_38, w255_39, w255_42, w255_43, w255_45, w255_47, w255_50, w255_51, w255_53, w255_56, w255_59, w255_60, w255_61, w255_63, w255_65, w255_68, w255_71, w255_72, w255_74, w255_75, w255_78, w255_79, w255_80, w255_81, w255_84, w255_87, w255_90, w255_93, w255_96, w255_99, w255_100, oK_some, cont_int, cont_intS, cont_none, cont_noneS, cont_long, cont_longS, true_and, and_true, false_and, and_false, true_implies, false_implies, not_true_eq_false, not_false_eq_true, eq_self, or_true, true_or, Option.isSome_some, hpf_length, hpa_length, bI_eq0, fi_hpa, fl_hpa, ar_hpf, fi_hpf_ne, fl_hpf_ne, ar_hpa_ne, hpa_hpa, hpf_hpf, nI_1, two_ne, fokZ, implies_true, Nat.reduceEqDiff, g_68_15, ga_71, gn_71, sa_71, ae_71, rc_68, kl_0, kl_1, kl_2, kl_3, kl_4, kl_5, kl_6, kl_7, kl_8, kl_9, kl_10, kl_11, kl_12, jb_0_211, jb_1_211, jb_2_211, jb_3_211, jb_4_211, jb_5_211, jb_6_211, jb_7_211, jb_8_211, jb_9_211, jb_10_211, jb_11_211, jb_12_211, hS, e71, hI.lr, rgR, c2, nI_lef hb' (by omega : n < 2147483648), eab, m_hasBit, m_doesSee hS c4' b4 (by omega : a < 7) (by omega : b < 7), Int32.or_zero]
        unfold rbF at hw3
        by_cases h0 : a = b
        · simp only [h0, not_true_eq_false, false_and, if_false] at hw3
          simp only [h0, oK_some, cont_int, cont_intS, cont_none, cont_noneS, cont_long, cont_longS, true_and, and_true, false_and, and_false, true_implies, false_implies, not_true_eq_false, not_false_eq_true, eq_self, or_true, true_or, Option.isSome_some, hpf_length, hpa_length, bI_eq0, fi_hpa, fl_hpa, ar_hpf, fi_hpf_ne, fl_hpf_ne, ar_hpa_ne, hpa_hpa, hpf_hpf, nI_1, two_ne, fokZ, implies_true, Nat.reduceEqDiff]
          exact hw3
        · cases h1 : hb s3 (nI b)
          · simp only [h0, h1, Bool.false_eq_true, false_and, and_false, if_false] at hw3
            simp only [h0, oK_some, cont_int, cont_intS, cont_none, cont_noneS, cont_long, cont_longS, true_and, and_true, false_and, and_false, true_implies, false_implies, not_true_eq_false, not_false_eq_true, eq_self, or_true, true_or, Option.isSome_some, hpf_length, hpa_length, bI_eq0, fi_hpa, fl_hpa, ar_hpf, fi_hpf_ne, fl_hpf_ne, ar_hpa_ne, hpa_hpa, hpf_hpf, nI_1, two_ne, fokZ, implies_true, Nat.reduceEqDiff]
            exact hw3
          · cases h2 : dSee R nW up a b
            · simp only [h0, h1, h2, Bool.false_eq_true, false_and, and_false, if_false] at hw3
              simp only [h0, oK_some, cont_int, cont_intS, cont_none, cont_noneS, cont_long, cont_longS, true_and, and_true, false_and, and_false, true_implies, false_implies, not_true_eq_false, not_false_eq_true, eq_self, or_true, true_or, Option.isSome_some, hpf_length, hpa_length, bI_eq0, fi_hpa, fl_hpa, ar_hpf, fi_hpf_ne, fl_hpf_ne, ar_hpa_ne, hpa_hpa, hpf_hpf, nI_1, two_ne, fokZ, implies_true, Nat.reduceEqDiff, Bool.true_eq_false]
              exact hw3
            · simp only [h0, h1, h2, not_false_eq_true, and_self, if_true] at hw3
              simp only [h0, oK_some, cont_int, cont_intS, cont_none, cont_noneS, cont_long, cont_longS, true_and, and_true, false_and, and_false, true_implies, false_implies, not_true_eq_false, not_false_eq_true, eq_self, or_true, true_or, Option.isSome_some, hpf_length, hpa_length, bI_eq0, fi_hpa, fl_hpa, ar_hpf, fi_hpf_ne, fl_hpf_ne, ar_hpa_ne, hpa_hpa, hpf_hpf, nI_1, two_ne, fokZ, implies_true, Nat.reduceEqDiff, Bool.true_eq_false]
              exact hw3
theorem M_reach {k : Int32} (hI : MIv H R st n nS nW nG nU nN) (hQ : MR H Q (if 0 ≤ k ∧ k < nI n then rchM R n nW (st.getD 8 0) (1 <<< (k &&& 31)) else -1) (if 0 ≤ k ∧ k < nI n then 0 else 1)) : Wp scr (d + 4) 256 0 [some (.ref 68), some (.int k)] [] H Q := by
  have hS := hI.shp
  have hg := gd_fg hS
  have hI1 := hI.q hg
  have hs1 := hI1.shp
  have hM1 : Mn (ar (gd H) 71) n nS nW nG nU nN := by rw [hI1.2.1]; exact hI1.mn
  have h14 := hI1.2.2.2.2
  have e73 := hI1.2.2.1
  have rgR : ∀ j, R.getD j 0 = rg R j := fun _ => rfl
  have l73 := hI1.l
  obtain ⟨c2, c3, c4, c5, c6, c7, b2, b3, b4, b5, b6, b7⟩ := hI1.mn
  simp (maxDischargeDepth := 12) only [w256_0, w256_1, w256_4, w256_5, w256_6, w256_9, w256_12, w256_13, w256_14, w256_17, w256_19, w256_20, w256_21, w256_24, w256_27, w256_28, w256_29, w256_32, oK_some, cont_int, cont_intS, cont_none, cont_noneS, cont_long, cont_longS, true_and, and_true, false_and, and_false, true_implies, false_implies, not_true_eq_false, not_false_eq_true, eq_self, or_true, true_or, Option.isSome_some, hpf_length, hpa_length, bI_eq0, fi_hpa, fl_hpa, ar_hpf, fi_hpf_ne, fl_hpf_ne, ar_hpa_ne, hpa_hpa, hpf_hpf, nI_1, two_ne, fokZ, implies_true, Nat.reduceEqDiff, rc_68, g_68_17, ga_73, gn_73, sa_73, ae_73, kl_0, kl_1, kl_2, kl_3, kl_4, kl_5, kl_6, kl_7, kl_8, kl_9, kl_10, kl_11, kl_12, jb_0_10, jb_1_10, jb_2_10, jb_3_10, jb_4_10, jb_5_10, jb_6_10, jb_7_10, jb_8_10, jb_9_10, hS, m_good, gd_len, hs1, h14, e73, l73, hI1.2.1, rgR, hI1.lr, m_no, decide_eq_false_iff_not, gn_71, jb_7_10, jb_8_10, jb_9_10, m_isRow hI1, m_reachBy hI1]
  by_cases hw : 0 ≤ k ∧ k < nI n
  · simp only [hw, and_self, if_true] at hQ
    simp only [hw, oK_some, cont_int, cont_intS, cont_none, cont_noneS, cont_long, cont_longS, true_and, and_true, false_and, and_false, true_implies, false_implies, not_true_eq_false, not_false_eq_true, eq_self, or_true, true_or, Option.isSome_some, hpf_length, hpa_length, bI_eq0, fi_hpa, fl_hpa, ar_hpf, fi_hpf_ne, fl_hpf_ne, ar_hpa_ne, hpa_hpa, hpf_hpf, nI_1, two_ne, fokZ, implies_true, Nat.reduceEqDiff]
    exact hQ _ hg (gd_0 hS) (gd_11 hS)
  · simp only [hw, if_false] at hQ
    simp only [hw, oK_some, cont_int, cont_intS, cont_none, cont_noneS, cont_long, cont_longS, true_and, and_true, false_and, and_false, true_implies, false_implies, not_true_eq_false, not_false_eq_true, eq_self, or_true, true_or, Option.isSome_some, hpf_length, hpa_length, bI_eq0, fi_hpa, fl_hpa, ar_hpf, fi_hpf_ne, fl_hpf_ne, ar_hpa_ne, hpa_hpa, hpf_hpf, nI_1, two_ne, fokZ, implies_true, Nat.reduceEqDiff]
    exact mr_no hS hg (gd_0 hS) hQ
theorem M_sign {k what : Int32} (hI : MIv H R st n nS nW nG nU nN) (hQ : MR H Q (if 0 < n ∧ (0 ≤ k ∧ k < nI nG) ∧ (0 ≤ what ∧ what ≤ 4) then (if what < 4 then rg R (94 + 4 * k.toNatClampNeg + what.toNatClampNeg) else (st.getD 7 0 >>> (k &&& 31)) &&& 1) else -1) (if 0 < n ∧ (0 ≤ k ∧ k < nI nG) ∧ (0 ≤ what ∧ what ≤ 4) then 0 else 1)) : Wp scr (d + 2) 237 0 [some (.ref 68), some (.int k), some (.int what)] [] H Q := by
  have hS := hI.shp
  have hg := gd_fg hS
  have hI1 := hI.q hg
  have hs1 := hI1.shp
  have hM1 : Mn (ar (gd H) 71) n nS nW nG nU nN := by rw [hI1.2.1]; exact hI1.mn
  have h14 := hI1.2.2.2.2
  have e73 := hI1.2.2.1
  have rgR : ∀ j, R.getD j 0 = rg R j := fun _ => rfl
  have l73 := hI1.l
  obtain ⟨c2, c3, c4, c5, c6, c7, b2, b3, b4, b5, b6, b7⟩ := hI1.mn
  simp (maxDischargeDepth := 12) only [w237_0, w237_1, w237_4, w237_5, w237_8, w237_11, w237_12, w237_13, w237_14, w237_17, w237_18, w237_19, w237_20, w237_21, w237_24, w237_27, w237_28, w237_29, w237_30, w237_33, w237_36, w237_37, w237_38, w237_41, w237_42, w237_43, w237_44, w237_47, w237_48, w237_51, w237_53, w237_54, w237_55, w237_56, w237_57, w237_58, w237_59, w237_60, w237_63, w237_64, w237_67, w237_69, w237_70, w237_71, w237_72, w237_73, w237_74, oK_some, cont_int, cont_intS, cont_none, cont_noneS, cont_long, cont_longS, true_and, and_true, false_and, and_false, true_implies, false_implies, not_true_eq_false, not_false_eq_true, eq_self, or_true, true_or, Option.isSome_some, hpf_length, hpa_length, bI_eq0, fi_hpa, fl_hpa, ar_hpf, fi_hpf_ne, fl_hpf_ne, ar_hpa_ne, hpa_hpa, hpf_hpf, nI_1, two_ne, fokZ, implies_true, Nat.reduceEqDiff, rc_68, g_68_14, sf_68_14, fe_68_14, g_68_15, ga_71, gn_71, sa_71, ae_71, g_68_17, ga_73, gn_73, sa_73, ae_73, kl_0, kl_1, kl_2, kl_3, kl_4, kl_5, kl_6, kl_7, kl_8, kl_9, kl_10, kl_11, kl_12, jb_0_10, jb_1_10, jb_2_10, jb_3_10, jb_4_10, jb_5_10, jb_6_10, jb_7_10, jb_8_10, jb_9_10, jb_0_211, jb_1_211, jb_2_211, jb_3_211, jb_4_211, jb_5_211, jb_6_211, jb_7_211, jb_8_211, jb_9_211, jb_10_211, jb_11_211, jb_12_211, hS, m_good, gd_len, hs1, h14, e73, l73, hI1.2.1, rgR, hI1.lr, m_no, decide_eq_false_iff_not, gn_71, jb_7_10, jb_8_10, jb_9_10, c5, m_in, row_in (v := k) (n := nG) (by omega)]
  by_cases hp : 0 < n
  · by_cases hk : 0 ≤ k ∧ k < nI nG
    · by_cases hv : 0 ≤ what ∧ what ≤ 4
      · have hall := And.intro hp (And.intro hk hv)
        rw [if_pos hall, if_pos hall] at hQ
        obtain ⟨ek, lk⟩ := of_row hk (by omega)
        obtain ⟨ew, lw⟩ := of_in (n := 4) hv (by omega)
        have ei : (94 : Int32) + 4 * k + what = nI (94 + 4 * k.toNatClampNeg + what.toNatClampNeg) := by
          rw [ek, ew, nI_clamp (by omega), nI_clamp (by omega), ixm 94 4 _ (v := 94) (w := 4) rfl rfl, nI_add]
        simp only [hp, hk, hv, oK_some, cont_int, cont_intS, cont_none, cont_noneS, cont_long, cont_longS, true_and, and_true, false_and, and_false, true_implies, false_implies, not_true_eq_false, not_false_eq_true, eq_self, or_true, true_or, Option.isSome_some, hpf_length, hpa_length, bI_eq0, fi_hpa, fl_hpa, ar_hpf, fi_hpf_ne, fl_hpf_ne, ar_hpa_ne, hpa_hpa, hpf_hpf, nI_1, two_ne, fokZ, implies_true, Nat.reduceEqDiff, and_self, decide_true, Bool.true_eq_false, ei, inb_nI (i := 94 + 4 * k.toNatClampNeg + what.toNatClampNeg) (by omega), nI_clamp (n := 94 + 4 * k.toNatClampNeg + what.toNatClampNeg) (by omega), decide_eq_true (by omega : 94 + 4 * k.toNatClampNeg + what.toNatClampNeg < 211), hI1.lr, rgR]
        by_cases h4 : what < 4
        · have h3 : ¬ 4 ≤ what := by rw [Int32.not_le]; exact h4
          rw [if_pos h4] at hQ
          simp only [h3, oK_some, cont_int, cont_intS, cont_none, cont_noneS, cont_long, cont_longS, true_and, and_true, false_and, and_false, true_implies, false_implies, not_true_eq_false, not_false_eq_true, eq_self, or_true, true_or, Option.isSome_some, hpf_length, hpa_length, bI_eq0, fi_hpa, fl_hpa, ar_hpf, fi_hpf_ne, fl_hpf_ne, ar_hpa_ne, hpa_hpa, hpf_hpf, nI_1, two_ne, fokZ, implies_true, Nat.reduceEqDiff]
          exact hQ _ hg (gd_0 hS) (gd_11 hS)
        · have h3 : 4 ≤ what := by rw [← Int32.not_lt]; exact h4
          rw [if_neg h4] at hQ
          simp only [h3, oK_some, cont_int, cont_intS, cont_none, cont_noneS, cont_long, cont_longS, true_and, and_true, false_and, and_false, true_implies, false_implies, not_true_eq_false, not_false_eq_true, eq_self, or_true, true_or, Option.isSome_some, hpf_length, hpa_length, bI_eq0, fi_hpa, fl_hpa, ar_hpf, fi_hpf_ne, fl_hpf_ne, ar_hpa_ne, hpa_hpa, hpf_hpf, nI_1, two_ne, fokZ, implies_true, Nat.reduceEqDiff]
          exact hQ _ hg (gd_0 hS) (gd_11 hS)
      · rw [if_neg (fun q => hv q.2.2), if_neg (fun q => hv q.2.2)] at hQ
        simp only [hp, hk, hv, oK_some, cont_int, cont_intS, cont_none, cont_noneS, cont_long, cont_longS, true_and, and_true, false_and, and_false, true_implies, false_implies, not_true_eq_false, not_false_eq_true, eq_self, or_true, true_or, Option.isSome_some, hpf_length, hpa_length, bI_eq0, fi_hpa, fl_hpa, ar_hpf, fi_hpf_ne, fl_hpf_ne, ar_hpa_ne, hpa_hpa, hpf_hpf, nI_1, two_ne, fokZ, implies_true, Nat.reduceEqDiff, and_self]
        exact mr_no hS hg (gd_0 hS) hQ
    · rw [if_neg (fun q => hk q.2.1), if_neg (fun q => hk q.2.1)] at hQ
      simp only [hp, hk, oK_some, cont_int, cont_intS, cont_none, cont_noneS, cont_long, cont_longS, true_and, and_true, false_and, and_false, true_implies, false_implies, not_true_eq_false, not_false_eq_true, eq_self, or_true, true_or, Option.isSome_some, hpf_length, hpa_length, bI_eq0, fi_hpa, fl_hpa, ar_hpf, fi_hpf_ne, fl_hpf_ne, ar_hpa_ne, hpa_hpa, hpf_hpf, nI_1, two_ne, fokZ, implies_true, Nat.reduceEqDiff]
      exact mr_no hS hg (gd_0 hS) hQ
  · rw [if_neg (fun q => hp q.1), if_neg (fun q => hp q.1)] at hQ
    simp only [hp, oK_some, cont_int, cont_intS, cont_none, cont_noneS, cont_long, cont_longS, true_and, and_true, false_and, and_false, true_implies, false_implies, not_true_eq_false, not_false_eq_true, eq_self, or_true, true_or, Option.isSome_some, hpf_length, hpa_length, bI_eq0, fi_hpa, fl_hpa, ar_hpf, fi_hpf_ne, fl_hpf_ne, ar_hpa_ne, hpa_hpa, hpf_hpf, nI_1, two_ne, fokZ, implies_true, Nat.reduceEqDiff]
    exact mr_no hS hg (gd_0 hS) hQ
theorem M_wall {k what : Int32} (hI : MIv H R st n nS nW nG nU nN) (hQ : MR H Q (if 0 < n ∧ (0 ≤ k ∧ k < nI nW) ∧ (0 ≤ what ∧ what ≤ 3) then (if what < 3 then rg R (79 + 3 * k.toNatClampNeg + what.toNatClampNeg) else (st.getD 8 0 >>> (k &&& 31)) &&& 1) else -1) (if 0 < n ∧ (0 ≤ k ∧ k < nI nW) ∧ (0 ≤ what ∧ what ≤ 3) then 0 else 1)) : Wp scr (d + 2) 238 0 [some (.ref 68), some (.int k), some (.int what)] [] H Q := by
  have hS := hI.shp
  have hg := gd_fg hS
  have hI1 := hI.q hg
  have hs1 := hI1.shp
  have hM1 : Mn (ar (gd H) 71) n nS nW nG nU nN := by rw [hI1.2.1]; exact hI1.mn
  have h14 := hI1.2.2.2.2
  have e73 := hI1.2.2.1
  have rgR : ∀ j, R.getD j 0 = rg R j := fun _ => rfl
  have l73 := hI1.l
  obtain ⟨c2, c3, c4, c5, c6, c7, b2, b3, b4, b5, b6, b7⟩ := hI1.mn
  simp (maxDischargeDepth := 12) only [w238_0, w238_1, w238_4, w238_5, w238_8, w238_11, w238_12, w238_13, w238_14, w238_17, w238_18, w238_19, w238_20, w238_21, w238_24, w238_27, w238_28, w238_29, w238_30, w238_33, w238_36, w238_37, w238_38, w238_41, w238_42, w238_43, w238_44, w238_47, w238_48, w238_51, w238_53, w238_54, w238_55, w238_56, w238_57, w238_58, w238_59, w238_60, w238_63, w238_64, w238_67, w238_69, w238_70, w238_71, w238_72, w238_73, w238_74, oK_some, cont_int, cont_intS, cont_none, cont_noneS, cont_long, cont_longS, true_and, and_true, false_and, and_false, true_implies, false_implies, not_true_eq_false, not_false_eq_true, eq_self, or_true, true_or, Option.isSome_some, hpf_length, hpa_length, bI_eq0, fi_hpa, fl_hpa, ar_hpf, fi_hpf_ne, fl_hpf_ne, ar_hpa_ne, hpa_hpa, hpf_hpf, nI_1, two_ne, fokZ, implies_true, Nat.reduceEqDiff, rc_68, g_68_14, sf_68_14, fe_68_14, g_68_15, ga_71, gn_71, sa_71, ae_71, g_68_17, ga_73, gn_73, sa_73, ae_73, kl_0, kl_1, kl_2, kl_3, kl_4, kl_5, kl_6, kl_7, kl_8, kl_9, kl_10, kl_11, kl_12, jb_0_10, jb_1_10, jb_2_10, jb_3_10, jb_4_10, jb_5_10, jb_6_10, jb_7_10, jb_8_10, jb_9_10, jb_0_211, jb_1_211, jb_2_211, jb_3_211, jb_4_211, jb_5_211, jb_6_211, jb_7_211, jb_8_211, jb_9_211, jb_10_211, jb_11_211, jb_12_211, hS, m_good, gd_len, hs1, h14, e73, l73, hI1.2.1, rgR, hI1.lr, m_no, decide_eq_false_iff_not, gn_71, jb_7_10, jb_8_10, jb_9_10, c4, m_in, row_in (v := k) (n := nW) (by omega)]
  by_cases hp : 0 < n
  · by_cases hk : 0 ≤ k ∧ k < nI nW
    · by_cases hv : 0 ≤ what ∧ what ≤ 3
      · have hall := And.intro hp (And.intro hk hv)
        rw [if_pos hall, if_pos hall] at hQ
        obtain ⟨ek, lk⟩ := of_row hk (by omega)
        obtain ⟨ew, lw⟩ := of_in (n := 3) hv (by omega)
        have ei : (79 : Int32) + 3 * k + what = nI (79 + 3 * k.toNatClampNeg + what.toNatClampNeg) := by
          rw [ek, ew, nI_clamp (by omega), nI_clamp (by omega), ixm 79 3 _ (v := 79) (w := 3) rfl rfl, nI_add]
        simp only [hp, hk, hv, oK_some, cont_int, cont_intS, cont_none, cont_noneS, cont_long, cont_longS, true_and, and_true, false_and, and_false, true_implies, false_implies, not_true_eq_false, not_false_eq_true, eq_self, or_true, true_or, Option.isSome_some, hpf_length, hpa_length, bI_eq0, fi_hpa, fl_hpa, ar_hpf, fi_hpf_ne, fl_hpf_ne, ar_hpa_ne, hpa_hpa, hpf_hpf, nI_1, two_ne, fokZ, implies_true, Nat.reduceEqDiff, and_self, decide_true, Bool.true_eq_false, ei, inb_nI (i := 79 + 3 * k.toNatClampNeg + what.toNatClampNeg) (by omega), nI_clamp (n := 79 + 3 * k.toNatClampNeg + what.toNatClampNeg) (by omega), decide_eq_true (by omega : 79 + 3 * k.toNatClampNeg + what.toNatClampNeg < 211), hI1.lr, rgR]
        by_cases h4 : what < 3
        · have h3 : ¬ 3 ≤ what := by rw [Int32.not_le]; exact h4
          rw [if_pos h4] at hQ
          simp only [h3, oK_some, cont_int, cont_intS, cont_none, cont_noneS, cont_long, cont_longS, true_and, and_true, false_and, and_false, true_implies, false_implies, not_true_eq_false, not_false_eq_true, eq_self, or_true, true_or, Option.isSome_some, hpf_length, hpa_length, bI_eq0, fi_hpa, fl_hpa, ar_hpf, fi_hpf_ne, fl_hpf_ne, ar_hpa_ne, hpa_hpa, hpf_hpf, nI_1, two_ne, fokZ, implies_true, Nat.reduceEqDiff]
          exact hQ _ hg (gd_0 hS) (gd_11 hS)
        · have h3 : 3 ≤ what := by rw [← Int32.not_lt]; exact h4
          rw [if_neg h4] at hQ
          simp only [h3, oK_some, cont_int, cont_intS, cont_none, cont_noneS, cont_long, cont_longS, true_and, and_true, false_and, and_false, true_implies, false_implies, not_true_eq_false, not_false_eq_true, eq_self, or_true, true_or, Option.isSome_some, hpf_length, hpa_length, bI_eq0, fi_hpa, fl_hpa, ar_hpf, fi_hpf_ne, fl_hpf_ne, ar_hpa_ne, hpa_hpa, hpf_hpf, nI_1, two_ne, fokZ, implies_true, Nat.reduceEqDiff]
          exact hQ _ hg (gd_0 hS) (gd_11 hS)
      · rw [if_neg (fun q => hv q.2.2), if_neg (fun q => hv q.2.2)] at hQ
        simp only [hp, hk, hv, oK_some, cont_int, cont_intS, cont_none, cont_noneS, cont_long, cont_longS, true_and, and_true, false_and, and_false, true_implies, false_implies, not_true_eq_false, not_false_eq_true, eq_self, or_true, true_or, Option.isSome_some, hpf_length, hpa_length, bI_eq0, fi_hpa, fl_hpa, ar_hpf, fi_hpf_ne, fl_hpf_ne, ar_hpa_ne, hpa_hpa, hpf_hpf, nI_1, two_ne, fokZ, implies_true, Nat.reduceEqDiff, and_self]
        exact mr_no hS hg (gd_0 hS) hQ
    · rw [if_neg (fun q => hk q.2.1), if_neg (fun q => hk q.2.1)] at hQ
      simp only [hp, hk, oK_some, cont_int, cont_intS, cont_none, cont_noneS, cont_long, cont_longS, true_and, and_true, false_and, and_false, true_implies, false_implies, not_true_eq_false, not_false_eq_true, eq_self, or_true, true_or, Option.isSome_some, hpf_length, hpa_length, bI_eq0, fi_hpa, fl_hpa, ar_hpf, fi_hpf_ne, fl_hpf_ne, ar_hpa_ne, hpa_hpa, hpf_hpf, nI_1, two_ne, fokZ, implies_true, Nat.reduceEqDiff]
      exact mr_no hS hg (gd_0 hS) hQ
  · rw [if_neg (fun q => hp q.1), if_neg (fun q => hp q.1)] at hQ
    simp only [hp, oK_some, cont_int, cont_intS, cont_none, cont_noneS, cont_long, cont_longS, true_and, and_true, false_and, and_false, true_implies, false_implies, not_true_eq_false, not_false_eq_true, eq_self, or_true, true_or, Option.isSome_some, hpf_length, hpa_length, bI_eq0, fi_hpa, fl_hpa, ar_hpf, fi_hpf_ne, fl_hpf_ne, ar_hpa_ne, hpa_hpa, hpf_hpf, nI_1, two_ne, fokZ, implies_true, Nat.reduceEqDiff]
    exact mr_no hS hg (gd_0 hS) hQ
theorem M_row {k what : Int32} (hI : MIv H R st n nS nW nG nU nN) (hQ : MR H Q (if (0 ≤ k ∧ k < nI n) ∧ (0 ≤ what ∧ what ≤ 5) then rowM R st n nW k.toNatClampNeg what.toNatClampNeg else -1) (if (0 ≤ k ∧ k < nI n) ∧ (0 ≤ what ∧ what ≤ 5) then 0 else 1)) : Wp scr (d + 4) 236 0 [some (.ref 68), some (.int k), some (.int what)] [] H Q := by
  have hS := hI.shp
  have hg := gd_fg hS
  have hI1 := hI.q hg
  have hs1 := hI1.shp
  have hM1 : Mn (ar (gd H) 71) n nS nW nG nU nN := by rw [hI1.2.1]; exact hI1.mn
  have h14 := hI1.2.2.2.2
  have e73 := hI1.2.2.1
  have rgR : ∀ j, R.getD j 0 = rg R j := fun _ => rfl
  have l73 := hI1.l
  obtain ⟨c2, c3, c4, c5, c6, c7, b2, b3, b4, b5, b6, b7⟩ := hI1.mn
  simp (maxDischargeDepth := 12) only [w236_0, w236_1, w236_4, w236_5, w236_6, w236_9, w236_12, w236_13, w236_14, w236_15, w236_18, w236_21, w236_22, w236_23, w236_26, w236_27, w236_64, w236_65, w236_66, w236_69, w236_70, w236_71, w236_74, w236_75, w236_76, w236_77, w236_78, w236_81, w236_82, w236_85, w236_88, w236_89, w236_92, w236_93, w236_94, w236_95, w236_96, w236_99, w236_100, w236_103, w236_104, w236_105, w236_106, w236_107, w236_110, w236_111, w236_112, w236_113, w236_114, w236_117, oK_some, cont_int, cont_intS, cont_none, cont_noneS, cont_long, cont_longS, true_and, and_true, false_and, and_false, true_implies, false_implies, not_true_eq_false, not_false_eq_true, eq_self, or_true, true_or, Option.isSome_some, hpf_length, hpa_length, bI_eq0, fi_hpa, fl_hpa, ar_hpf, fi_hpf_ne, fl_hpf_ne, ar_hpa_ne, hpa_hpa, hpf_hpf, nI_1, two_ne, fokZ, implies_true, Nat.reduceEqDiff, rc_68, g_68_17, ga_73, gn_73, sa_73, ae_73, kl_0, kl_1, kl_2, kl_3, kl_4, kl_5, kl_6, kl_7, kl_8, kl_9, kl_10, kl_11, kl_12, jb_0_10, jb_1_10, jb_2_10, jb_3_10, jb_4_10, jb_5_10, jb_6_10, jb_7_10, jb_8_10, jb_9_10, hS, m_good, gd_len, hs1, h14, e73, l73, hI1.2.1, rgR, hI1.lr, m_no, decide_eq_false_iff_not, gn_71, jb_7_10, jb_8_10, jb_9_10, m_isRow hI1, m_in]
  by_cases hk : 0 ≤ k ∧ k < nI n
  · by_cases hv : 0 ≤ what ∧ what ≤ 5
    · have hall := And.intro hk hv
      rw [if_pos hall, if_pos hall] at hQ
      simp only [hk, hv, oK_some, cont_int, cont_intS, cont_none, cont_noneS, cont_long, cont_longS, true_and, and_true, false_and, and_false, true_implies, false_implies, not_true_eq_false, not_false_eq_true, eq_self, or_true, true_or, Option.isSome_some, hpf_length, hpa_length, bI_eq0, fi_hpa, fl_hpa, ar_hpf, fi_hpf_ne, fl_hpf_ne, ar_hpa_ne, hpa_hpa, hpf_hpf, nI_1, two_ne, fokZ, implies_true, Nat.reduceEqDiff, and_self, decide_true, Bool.true_eq_false]
      obtain ⟨ek, lk⟩ := of_row hk (by omega)
      obtain ⟨ew, lw⟩ := of_in (n := 5) hv (by omega)
      generalize k.toNatClampNeg = kk at ek lk hQ
      generalize what.toNatClampNeg = j at ew lw hQ
      subst ek
      subst ew
      have fin := hQ _ hg (gd_0 hS) (gd_11 hS)
      have h7 : kk < 7 := by omega
      have c : j = 0 ∨ j = 1 ∨ j = 2 ∨ j = 3 ∨ j = 4 ∨ j = 5 := by omega
      rcases c with rfl | rfl | rfl | rfl | rfl | rfl
      · rw [Wp_tswI a236_28 (by decide) (o := 36) rfl (t := 64) (by decide)]
        simp (maxDischargeDepth := 12) only [w236_0, w236_1, w236_4, w236_5, w236_6, w236_9, w236_12, w236_13, w236_14, w236_15, w236_18, w236_21, w236_22, w236_23, w236_26, w236_27, w236_64, w236_65, w236_66, w236_69, w236_70, w236_71, w236_74, w236_75, w236_76, w236_77, w236_78, w236_81, w236_82, w236_85, w236_88, w236_89, w236_92, w236_93, w236_94, w236_95, w236_96, w236_99, w236_100, w236_103, w236_104, w236_105, w236_106, w236_107, w236_110, w236_111, w236_112, w236_113, w236_114, w236_117, oK_some, cont_int, cont_intS, cont_none, cont_noneS, cont_long, cont_longS, true_and, and_true, false_and, and_false, true_implies, false_implies, not_true_eq_false, not_false_eq_true, eq_self, or_true, true_or, Option.isSome_some, hpf_length, hpa_length, bI_eq0, fi_hpa, fl_hpa, ar_hpf, fi_hpf_ne, fl_hpf_ne, ar_hpa_ne, hpa_hpa, hpf_hpf, nI_1, two_ne, fokZ, implies_true, Nat.reduceEqDiff, rc_68, g_68_17, ga_73, gn_73, sa_73, ae_73, kl_0, kl_1, kl_2, kl_3, kl_4, kl_5, kl_6, kl_7, kl_8, kl_9, kl_10, kl_11, kl_12, jb_0_10, jb_1_10, jb_2_10, jb_3_10, jb_4_10, jb_5_10, jb_6_10, jb_7_10, jb_8_10, jb_9_10, hS, m_good, gd_len, hs1, h14, e73, l73, hI1.2.1, rgR, hI1.lr, m_no, decide_eq_false_iff_not, gn_71, jb_7_10, jb_8_10, jb_9_10, m_kindOf hs1 (by omega : kk < 60)]
        exact fin
      · rw [Wp_tswI a236_28 (by decide) (o := 42) rfl (t := 70) (by decide)]
        simp (maxDischargeDepth := 12) only [w236_0, w236_1, w236_4, w236_5, w236_6, w236_9, w236_12, w236_13, w236_14, w236_15, w236_18, w236_21, w236_22, w236_23, w236_26, w236_27, w236_64, w236_65, w236_66, w236_69, w236_70, w236_71, w236_74, w236_75, w236_76, w236_77, w236_78, w236_81, w236_82, w236_85, w236_88, w236_89, w236_92, w236_93, w236_94, w236_95, w236_96, w236_99, w236_100, w236_103, w236_104, w236_105, w236_106, w236_107, w236_110, w236_111, w236_112, w236_113, w236_114, w236_117, oK_some, cont_int, cont_intS, cont_none, cont_noneS, cont_long, cont_longS, true_and, and_true, false_and, and_false, true_implies, false_implies, not_true_eq_false, not_false_eq_true, eq_self, or_true, true_or, Option.isSome_some, hpf_length, hpa_length, bI_eq0, fi_hpa, fl_hpa, ar_hpf, fi_hpf_ne, fl_hpf_ne, ar_hpa_ne, hpa_hpa, hpf_hpf, nI_1, two_ne, fokZ, implies_true, Nat.reduceEqDiff, rc_68, g_68_17, ga_73, gn_73, sa_73, ae_73, kl_0, kl_1, kl_2, kl_3, kl_4, kl_5, kl_6, kl_7, kl_8, kl_9, kl_10, kl_11, kl_12, jb_0_10, jb_1_10, jb_2_10, jb_3_10, jb_4_10, jb_5_10, jb_6_10, jb_7_10, jb_8_10, jb_9_10, hS, m_good, gd_len, hs1, h14, e73, l73, hI1.2.1, rgR, hI1.lr, m_no, decide_eq_false_iff_not, gn_71, jb_7_10, jb_8_10, jb_9_10, inb_nI (i := kk) (by omega), decide_eq_true (by omega : kk < 10), nI_clamp (n := kk) (by omega)]
        exact fin
      · rw [Wp_tswI a236_28 (by decide) (o := 49) rfl (t := 77) (by decide)]
        simp (maxDischargeDepth := 12) only [w236_0, w236_1, w236_4, w236_5, w236_6, w236_9, w236_12, w236_13, w236_14, w236_15, w236_18, w236_21, w236_22, w236_23, w236_26, w236_27, w236_64, w236_65, w236_66, w236_69, w236_70, w236_71, w236_74, w236_75, w236_76, w236_77, w236_78, w236_81, w236_82, w236_85, w236_88, w236_89, w236_92, w236_93, w236_94, w236_95, w236_96, w236_99, w236_100, w236_103, w236_104, w236_105, w236_106, w236_107, w236_110, w236_111, w236_112, w236_113, w236_114, w236_117, oK_some, cont_int, cont_intS, cont_none, cont_noneS, cont_long, cont_longS, true_and, and_true, false_and, and_false, true_implies, false_implies, not_true_eq_false, not_false_eq_true, eq_self, or_true, true_or, Option.isSome_some, hpf_length, hpa_length, bI_eq0, fi_hpa, fl_hpa, ar_hpf, fi_hpf_ne, fl_hpf_ne, ar_hpa_ne, hpa_hpa, hpf_hpf, nI_1, two_ne, fokZ, implies_true, Nat.reduceEqDiff, rc_68, g_68_17, ga_73, gn_73, sa_73, ae_73, kl_0, kl_1, kl_2, kl_3, kl_4, kl_5, kl_6, kl_7, kl_8, kl_9, kl_10, kl_11, kl_12, jb_0_10, jb_1_10, jb_2_10, jb_3_10, jb_4_10, jb_5_10, jb_6_10, jb_7_10, jb_8_10, jb_9_10, hS, m_good, gd_len, hs1, h14, e73, l73, hI1.2.1, rgR, hI1.lr, m_no, decide_eq_false_iff_not, gn_71, jb_7_10, jb_8_10, jb_9_10, m_doubts (ga_73 hs1) (gn_73 hs1) (by omega : kk < 10)]
        have e : rowM R st n nW kk 2 = bI (decide (st.getD kk 0 < 10)) := rfl
        rw [e] at fin
        by_cases hc : st.getD kk 0 < 10
        · rw [decide_eq_true hc] at fin
          simp only [hc, oK_some, cont_int, cont_intS, cont_none, cont_noneS, cont_long, cont_longS, true_and, and_true, false_and, and_false, true_implies, false_implies, not_true_eq_false, not_false_eq_true, eq_self, or_true, true_or, Option.isSome_some, hpf_length, hpa_length, bI_eq0, fi_hpa, fl_hpa, ar_hpf, fi_hpf_ne, fl_hpf_ne, ar_hpa_ne, hpa_hpa, hpf_hpf, nI_1, two_ne, fokZ, implies_true, Nat.reduceEqDiff]
          exact fin
        · rw [decide_eq_false hc] at fin
          simp only [hc, oK_some, cont_int, cont_intS, cont_none, cont_noneS, cont_long, cont_longS, true_and, and_true, false_and, and_false, true_implies, false_implies, not_true_eq_false, not_false_eq_true, eq_self, or_true, true_or, Option.isSome_some, hpf_length, hpa_length, bI_eq0, fi_hpa, fl_hpa, ar_hpf, fi_hpf_ne, fl_hpf_ne, ar_hpa_ne, hpa_hpa, hpf_hpf, nI_1, two_ne, fokZ, implies_true, Nat.reduceEqDiff]
          exact fin
      · rw [Wp_tswI a236_28 (by decide) (o := 66) rfl (t := 94) (by decide)]
        simp (maxDischargeDepth := 12) only [w236_0, w236_1, w236_4, w236_5, w236_6, w236_9, w236_12, w236_13, w236_14, w236_15, w236_18, w236_21, w236_22, w236_23, w236_26, w236_27, w236_64, w236_65, w236_66, w236_69, w236_70, w236_71, w236_74, w236_75, w236_76, w236_77, w236_78, w236_81, w236_82, w236_85, w236_88, w236_89, w236_92, w236_93, w236_94, w236_95, w236_96, w236_99, w236_100, w236_103, w236_104, w236_105, w236_106, w236_107, w236_110, w236_111, w236_112, w236_113, w236_114, w236_117, oK_some, cont_int, cont_intS, cont_none, cont_noneS, cont_long, cont_longS, true_and, and_true, false_and, and_false, true_implies, false_implies, not_true_eq_false, not_false_eq_true, eq_self, or_true, true_or, Option.isSome_some, hpf_length, hpa_length, bI_eq0, fi_hpa, fl_hpa, ar_hpf, fi_hpf_ne, fl_hpf_ne, ar_hpa_ne, hpa_hpa, hpf_hpf, nI_1, two_ne, fokZ, implies_true, Nat.reduceEqDiff, rc_68, g_68_17, ga_73, gn_73, sa_73, ae_73, kl_0, kl_1, kl_2, kl_3, kl_4, kl_5, kl_6, kl_7, kl_8, kl_9, kl_10, kl_11, kl_12, jb_0_10, jb_1_10, jb_2_10, jb_3_10, jb_4_10, jb_5_10, jb_6_10, jb_7_10, jb_8_10, jb_9_10, hS, m_good, gd_len, hs1, h14, e73, l73, hI1.2.1, rgR, hI1.lr, m_no, decide_eq_false_iff_not, gn_71, jb_7_10, jb_8_10, jb_9_10, m_grapesOf hs1 (Or.inl rfl) h7]
        exact fin
      · rw [Wp_tswI a236_28 (by decide) (o := 76) rfl (t := 104) (by decide)]
        simp (maxDischargeDepth := 12) only [w236_0, w236_1, w236_4, w236_5, w236_6, w236_9, w236_12, w236_13, w236_14, w236_15, w236_18, w236_21, w236_22, w236_23, w236_26, w236_27, w236_64, w236_65, w236_66, w236_69, w236_70, w236_71, w236_74, w236_75, w236_76, w236_77, w236_78, w236_81, w236_82, w236_85, w236_88, w236_89, w236_92, w236_93, w236_94, w236_95, w236_96, w236_99, w236_100, w236_103, w236_104, w236_105, w236_106, w236_107, w236_110, w236_111, w236_112, w236_113, w236_114, w236_117, oK_some, cont_int, cont_intS, cont_none, cont_noneS, cont_long, cont_longS, true_and, and_true, false_and, and_false, true_implies, false_implies, not_true_eq_false, not_false_eq_true, eq_self, or_true, true_or, Option.isSome_some, hpf_length, hpa_length, bI_eq0, fi_hpa, fl_hpa, ar_hpf, fi_hpf_ne, fl_hpf_ne, ar_hpa_ne, hpa_hpa, hpf_hpf, nI_1, two_ne, fokZ, implies_true, Nat.reduceEqDiff, rc_68, g_68_17, ga_73, gn_73, sa_73, ae_73, kl_0, kl_1, kl_2, kl_3, kl_4, kl_5, kl_6, kl_7, kl_8, kl_9, kl_10, kl_11, kl_12, jb_0_10, jb_1_10, jb_2_10, jb_3_10, jb_4_10, jb_5_10, jb_6_10, jb_7_10, jb_8_10, jb_9_10, hS, m_good, gd_len, hs1, h14, e73, l73, hI1.2.1, rgR, hI1.lr, m_no, decide_eq_false_iff_not, gn_71, jb_7_10, jb_8_10, jb_9_10, show (0 : Int32) = bI false from rfl, m_sightOf hI1 h7]
        exact fin
      · rw [Wp_tswO a236_28 (by decide) (t := 111) (by decide)]
        simp (maxDischargeDepth := 12) only [w236_0, w236_1, w236_4, w236_5, w236_6, w236_9, w236_12, w236_13, w236_14, w236_15, w236_18, w236_21, w236_22, w236_23, w236_26, w236_27, w236_64, w236_65, w236_66, w236_69, w236_70, w236_71, w236_74, w236_75, w236_76, w236_77, w236_78, w236_81, w236_82, w236_85, w236_88, w236_89, w236_92, w236_93, w236_94, w236_95, w236_96, w236_99, w236_100, w236_103, w236_104, w236_105, w236_106, w236_107, w236_110, w236_111, w236_112, w236_113, w236_114, w236_117, oK_some, cont_int, cont_intS, cont_none, cont_noneS, cont_long, cont_longS, true_and, and_true, false_and, and_false, true_implies, false_implies, not_true_eq_false, not_false_eq_true, eq_self, or_true, true_or, Option.isSome_some, hpf_length, hpa_length, bI_eq0, fi_hpa, fl_hpa, ar_hpf, fi_hpf_ne, fl_hpf_ne, ar_hpa_ne, hpa_hpa, hpf_hpf, nI_1, two_ne, fokZ, implies_true, Nat.reduceEqDiff, rc_68, g_68_17, ga_73, gn_73, sa_73, ae_73, kl_0, kl_1, kl_2, kl_3, kl_4, kl_5, kl_6, kl_7, kl_8, kl_9, kl_10, kl_11, kl_12, jb_0_10, jb_1_10, jb_2_10, jb_3_10, jb_4_10, jb_5_10, jb_6_10, jb_7_10, jb_8_10, jb_9_10, hS, m_good, gd_len, hs1, h14, e73, l73, hI1.2.1, rgR, hI1.lr, m_no, decide_eq_false_iff_not, gn_71, jb_7_10, jb_8_10, jb_9_10, show (1 : Int32) = bI true from rfl, m_sightOf hI1 h7]
        exact fin
    · rw [if_neg (fun q => hv q.2), if_neg (fun q => hv q.2)] at hQ
      simp only [hk, hv, oK_some, cont_int, cont_intS, cont_none, cont_noneS, cont_long, cont_longS, true_and, and_true, false_and, and_false, true_implies, false_implies, not_true_eq_false, not_false_eq_true, eq_self, or_true, true_or, Option.isSome_some, hpf_length, hpa_length, bI_eq0, fi_hpa, fl_hpa, ar_hpf, fi_hpf_ne, fl_hpf_ne, ar_hpa_ne, hpa_hpa, hpf_hpf, nI_1, two_ne, fokZ, implies_true, Nat.reduceEqDiff, and_self, decide_true, Bool.true_eq_false]
      exact mr_no hS hg (gd_0 hS) hQ
  · rw [if_neg (fun q => hk q.1), if_neg (fun q => hk q.1)] at hQ
    simp only [hk, oK_some, cont_int, cont_intS, cont_none, cont_noneS, cont_long, cont_longS, true_and, and_true, false_and, and_false, true_implies, false_implies, not_true_eq_false, not_false_eq_true, eq_self, or_true, true_or, Option.isSome_some, hpf_length, hpa_length, bI_eq0, fi_hpa, fl_hpa, ar_hpf, fi_hpf_ne, fl_hpf_ne, ar_hpa_ne, hpa_hpa, hpf_hpf, nI_1, two_ne, fokZ, implies_true, Nat.reduceEqDiff]
    exact mr_no hS hg (gd_0 hS) hQ
end MODEL9
