/-! ===== the Model: queries of what is now ===== -/
def wkF (xs : List Int32) (i b : Nat) : Nat := if xs.getD (i + 1) 0 < xs.getD b 0 then i + 1 else b
theorem wkF_le {xs : List Int32} : ∀ n, forN (wkF xs) n 0 ≤ n
  | 0 => Nat.le_refl _
  | n + 1 => by
    have ih := wkF_le (xs := xs) n
    rw [forN]
    unfold wkF
    split
    · omega
    · exact Nat.le_succ_of_le ih
theorem wkF_congr {xs ys : List Int32} (n : Nat) (h : ∀ i, i ≤ n → xs.getD i 0 = ys.getD i 0) : forN (wkF xs) n 0 = forN (wkF ys) n 0 := by
  induction n with
  | zero => rw [forN_zero, forN_zero]
  | succ n ih =>
    have ih' := ih (fun i hi => h i (by omega))
    have hb := wkF_le (xs := ys) n
    rw [forN_succ, forN_succ, ih']
    generalize forN (wkF ys) n 0 = b at hb
    have h1 := h (n + 1) (Nat.le_refl _)
    have h2 := h b (by omega)
    simp only [wkF, h1, h2]
/-- coins of what is chosen, at base c, m places a thing -/
def cosF (R : List Int32) (s : Int32) (c m : Nat) (k : Nat) (acc : Int32) : Int32 := acc + (if hb s (nI k) = true then rg R (c + m * k + 2) else 0)
def sgF (R : List Int32) (nW : Nat) (up : Int32) (k : Nat) (seen : Bool) (b : Nat) (acc : Int32) : Int32 := acc ||| (if ¬ b = k ∧ (if seen = true then dSee R nW up b k else dSee R nW up k b) = true then 1 <<< (nI b &&& 31) else 0)
def sgM (R : List Int32) (n nW : Nat) (up : Int32) (k : Nat) (seen : Bool) : Int32 := forN (sgF R nW up k seen) n 0
def rowM (R st : List Int32) (n nW k j : Nat) : Int32 := match j with
  | 0 => rg R (9 + 3 * k)
  | 1 => st.getD k 0
  | 2 => bI (decide (st.getD k 0 < 10))
  | 3 => grpM R st k
  | 4 => sgM R n nW (st.getD 8 0) k false
  | _ => sgM R n nW (st.getD 8 0) k true
section MODEL6
variable {scr : List Int32} {d n nS nW nG nU nN w : Nat} {H : List AC} {R st : List Int32} {Q : Option Value → List AC → Prop}
theorem M_grapes (hI : MIv H R st n nS nW nG nU nN) (hQ : MR H Q (if 0 < n then forN (allG R st) n 0 else -1) (if 0 < n then 0 else 1)) : Wp scr (d + 3) 240 0 [some (.ref 68)] [] H Q := by
  have hS := hI.shp
  have hg := gd_fg hS
  have hI1 := hI.q hg
  have hs1 := hI1.shp
  have hM1 : Mn (ar (gd H) 71) n nS nW nG nU nN := by rw [hI1.2.1]; exact hI1.mn
  have h14 := hI1.2.2.2.2
  have e73 := hI1.2.2.1
  have rgR : ∀ j, R.getD j 0 = rg R j := fun _ => rfl
  have l73 := hI1.l
  obtain ⟨c2, c3, c4, c5, c6, c7, b2, b3, b4, b5, b6, b7⟩ := hI1.mn
  simp (maxDischargeDepth := 12) only [w240_0, w240_1, w240_4, w240_5, w240_8, w240_11, w240_12, w240_13, w240_16, w240_19, w240_22, w240_23, w240_24, w240_27, oK_some, cont_int, cont_intS, cont_none, cont_noneS, cont_long, cont_longS, true_and, and_true, false_and, and_false, true_implies, false_implies, not_true_eq_false, not_false_eq_true, eq_self, or_true, true_or, Option.isSome_some, hpf_length, hpa_length, bI_eq0, fi_hpa, fl_hpa, ar_hpf, fi_hpf_ne, fl_hpf_ne, ar_hpa_ne, hpa_hpa, hpf_hpf, nI_1, two_ne, fokZ, implies_true, Nat.reduceEqDiff, rc_68, g_68_14, sf_68_14, fe_68_14, g_68_17, ga_73, gn_73, sa_73, ae_73, kl_0, kl_1, kl_2, kl_3, kl_4, kl_5, kl_6, kl_7, kl_8, kl_9, kl_10, kl_11, kl_12, jb_0_10, jb_1_10, jb_2_10, jb_3_10, jb_4_10, jb_5_10, jb_6_10, jb_7_10, jb_8_10, jb_9_10, hS, m_good, gd_len, hs1, h14, e73, l73, hI1.2.1, rgR, hI1.lr, m_no, decide_eq_false_iff_not, gn_71, jb_7_10, jb_8_10, jb_9_10, m_allGrapes hs1 hM1 (Or.inl rfl)]
  by_cases hp : 0 < n
  · simp only [hp, if_true] at hQ
    simp only [hp, oK_some, cont_int, cont_intS, cont_none, cont_noneS, cont_long, cont_longS, true_and, and_true, false_and, and_false, true_implies, false_implies, not_true_eq_false, not_false_eq_true, eq_self, or_true, true_or, Option.isSome_some, hpf_length, hpa_length, bI_eq0, fi_hpa, fl_hpa, ar_hpf, fi_hpf_ne, fl_hpf_ne, ar_hpa_ne, hpa_hpa, hpf_hpf, nI_1, two_ne, fokZ, implies_true, Nat.reduceEqDiff]
    exact hQ _ hg (gd_0 hS) (gd_11 hS)
  · simp only [hp, if_false] at hQ
    simp only [hp, oK_some, cont_int, cont_intS, cont_none, cont_noneS, cont_long, cont_longS, true_and, and_true, false_and, and_false, true_implies, false_implies, not_true_eq_false, not_false_eq_true, eq_self, or_true, true_or, Option.isSome_some, hpf_length, hpa_length, bI_eq0, fi_hpa, fl_hpa, ar_hpf, fi_hpf_ne, fl_hpf_ne, ar_hpa_ne, hpa_hpa, hpf_hpf, nI_1, two_ne, fokZ, implies_true, Nat.reduceEqDiff]
    exact mr_no hS hg (gd_0 hS) hQ
theorem M_weakest (hI : MIv H R st n nS nW nG nU nN) (hQ : MR H Q (if 0 < n then nI (forN (wkF st) (n - 1) 0) else -1) (if 0 < n then 0 else 1)) : Wp scr (d + 2) 241 0 [some (.ref 68), none, none] [] H Q := by
  have hS := hI.shp
  have hg := gd_fg hS
  have hI1 := hI.q hg
  have hs1 := hI1.shp
  have hM1 : Mn (ar (gd H) 71) n nS nW nG nU nN := by rw [hI1.2.1]; exact hI1.mn
  have h14 := hI1.2.2.2.2
  have e73 := hI1.2.2.1
  have rgR : ∀ j, R.getD j 0 = rg R j := fun _ => rfl
  have l73 := hI1.l
  obtain ⟨c2, c3, c4, c5, c6, c7, b2, b3, b4, b5, b6, b7⟩ := hI1.mn
  simp (maxDischargeDepth := 12) only [w241_0, w241_1, w241_4, w241_5, w241_8, w241_11, w241_12, w241_13, w241_16, w241_17, w241_18, w241_19, w241_20, w241_22, w241_23, w241_26, w241_27, w241_28, w241_31, w241_32, w241_35, w241_36, w241_37, w241_38, w241_41, w241_42, w241_43, w241_46, w241_47, w241_48, w241_51, w241_54, w241_55, oK_some, cont_int, cont_intS, cont_none, cont_noneS, cont_long, cont_longS, true_and, and_true, false_and, and_false, true_implies, false_implies, not_true_eq_false, not_false_eq_true, eq_self, or_true, true_or, Option.isSome_some, hpf_length, hpa_length, bI_eq0, fi_hpa, fl_hpa, ar_hpf, fi_hpf_ne, fl_hpf_ne, ar_hpa_ne, hpa_hpa, hpf_hpf, nI_1, two_ne, fokZ, implies_true, Nat.reduceEqDiff, rc_68, g_68_14, sf_68_14, fe_68_14, g_68_15, ga_71, gn_71, sa_71, ae_71, g_68_17, ga_73, gn_73, sa_73, ae_73, kl_0, kl_1, kl_2, kl_3, kl_4, kl_5, kl_6, kl_7, kl_8, kl_9, kl_10, kl_11, kl_12, jb_0_10, jb_1_10, jb_2_10, jb_3_10, jb_4_10, jb_5_10, jb_6_10, jb_7_10, jb_8_10, jb_9_10, jb_0_211, jb_1_211, jb_2_211, jb_3_211, jb_4_211, jb_5_211, jb_6_211, jb_7_211, jb_8_211, jb_9_211, jb_10_211, jb_11_211, jb_12_211, hS, m_good, gd_len, hs1, h14, e73, l73, hI1.2.1, rgR, hI1.lr, m_no, decide_eq_false_iff_not, gn_71, jb_7_10, jb_8_10, jb_9_10]
  by_cases hp : 0 < n
  · simp only [hp, if_true] at hQ
    simp only [hp, oK_some, cont_int, cont_intS, cont_none, cont_noneS, cont_long, cont_longS, true_and, and_true, false_and, and_false, true_implies, false_implies, not_true_eq_false, not_false_eq_true, eq_self, or_true, true_or, Option.isSome_some, hpf_length, hpa_length, bI_eq0, fi_hpa, fl_hpa, ar_hpf, fi_hpf_ne, fl_hpf_ne, ar_hpa_ne, hpa_hpa, hpf_hpf, nI_1, two_ne, fokZ, implies_true, Nat.reduceEqDiff]
    have key := down (P := fun i => Wp scr (d + 2) 241 21 [some (.ref 68), some (.int (nI (forN (wkF st) i 0))), some (.int (nI (i + 1)))] [] (gd H) Q) (n - 1) ?_ ?_
    · simpa [nI_0, forN, show nI 1 = (1 : Int32) from rfl] using key
    · rw [show n - 1 + 1 = n by omega, w241_21]
      simp (maxDischargeDepth := 12) only [w241_0, w241_1, w241_4, w241_5, w241_8, w241_11, w241_12, w241_13, w241_16, w241_17, w241_18, w241_19, w241_20, w241_22, w241_23, w241_26, w241_27, w241_28, w241_31, w241_32, w241_35, w241_36, w241_37, w241_38, w241_41, w241_42, w241_43, w241_46, w241_47, w241_48, w241_51, w241_54, w241_55, oK_some, cont_int, cont_intS, cont_none, cont_noneS, cont_long, cont_longS, true_and, and_true, false_and, and_false, true_implies, false_implies, not_true_eq_false, not_false_eq_true, eq_self, or_true, true_or, Option.isSome_some, hpf_length, hpa_length, bI_eq0, fi_hpa, fl_hpa, ar_hpf, fi_hpf_ne, fl_hpf_ne, ar_hpa_ne, hpa_hpa, hpf_hpf, nI_1, two_ne, fokZ, implies_true, Nat.reduceEqDiff, rc_68, g_68_14, sf_68_14, fe_68_14, g_68_15, ga_71, gn_71, sa_71, ae_71, g_68_17, ga_73, gn_73, sa_73, ae_73, kl_0, kl_1, kl_2, kl_3, kl_4, kl_5, kl_6, kl_7, kl_8, kl_9, kl_10, kl_11, kl_12, jb_0_10, jb_1_10, jb_2_10, jb_3_10, jb_4_10, jb_5_10, jb_6_10, jb_7_10, jb_8_10, jb_9_10, jb_0_211, jb_1_211, jb_2_211, jb_3_211, jb_4_211, jb_5_211, jb_6_211, jb_7_211, jb_8_211, jb_9_211, jb_10_211, jb_11_211, jb_12_211, hS, m_good, gd_len, hs1, h14, e73, l73, hI1.2.1, rgR, hI1.lr, m_no, decide_eq_false_iff_not, gn_71, jb_7_10, jb_8_10, jb_9_10, c2, nI_les]
      exact hQ _ hg (gd_0 hS) (gd_11 hS)
    · intro i hi hw
      have hb := wkF_le (xs := st) i
      rw [forN] at hw
      generalize forN (wkF st) i 0 = b at hw hb ⊢
      rw [w241_21]
      simp (maxDischargeDepth := 12) only [w241_0, w241_1, w241_4, w241_5, w241_8, w241_11, w241_12, w241_13, w241_16, w241_17, w241_18, w241_19, w241_20, w241_22, w241_23, w241_26, w241_27, w241_28, w241_31, w241_32, w241_35, w241_36, w241_37, w241_38, w241_41, w241_42, w241_43, w241_46, w241_47, w241_48, w241_51, w241_54, w241_55, oK_some, cont_int, cont_intS, cont_none, cont_noneS, cont_long, cont_longS, true_and, and_true, false_and, and_false, true_implies, false_implies, not_true_eq_false, not_false_eq_true, eq_self, or_true, true_or, Option.isSome_some, hpf_length, hpa_length, bI_eq0, fi_hpa, fl_hpa, ar_hpf, fi_hpf_ne, fl_hpf_ne, ar_hpa_ne, hpa_hpa, hpf_hpf, nI_1, two_ne, fokZ, implies_true, Nat.reduceEqDiff, rc_68, g_68_14, sf_68_14, fe_68_14, g_68_15, ga_71, gn_71, sa_71, ae_71, g_68_17, ga_73, gn_73, sa_73, ae_73, kl_0, kl_1, kl_2, kl_3, kl_4, kl_5, kl_6, kl_7, kl_8, kl_9, kl_10, kl_11, kl_12, jb_0_10, jb_1_10, jb_2_10, jb_3_10, jb_4_10, jb_5_10, jb_6_10, jb_7_10, jb_8_10, jb_9_10, jb_0_211, jb_1_211, jb_2_211, jb_3_211, jb_4_211, jb_5_211, jb_6_211, jb_7_211, jb_8_211, jb_9_211, jb_10_211, jb_11_211, jb_12_211, hS, m_good, gd_len, hs1, h14, e73, l73, hI1.2.1, rgR, hI1.lr, m_no, decide_eq_false_iff_not, gn_71, jb_7_10, jb_8_10, jb_9_10, c2, nI_lef (by omega : i + 1 < n) (by omega : n < 2147483648), inb_nI (i := i + 1) (by omega), decide_eq_true (by omega : i + 1 < 10), nI_clamp (n := i + 1) (by omega), inb_nI (i := b) (by omega), decide_eq_true (by omega : b < 10), nI_clamp (n := b) (by omega)]
      unfold wkF at hw
      generalize st.getD (i + 1) 0 = x at hw ⊢
      generalize st.getD b 0 = y at hw ⊢
      by_cases hc : x < y
      · have h3 : ¬ y ≤ x := by rw [Int32.not_le]; exact hc
        simp only [hc, if_true] at hw
        simp only [h3, oK_some, cont_int, cont_intS, cont_none, cont_noneS, cont_long, cont_longS, true_and, and_true, false_and, and_false, true_implies, false_implies, not_true_eq_false, not_false_eq_true, eq_self, or_true, true_or, Option.isSome_some, hpf_length, hpa_length, bI_eq0, fi_hpa, fl_hpa, ar_hpf, fi_hpf_ne, fl_hpf_ne, ar_hpa_ne, hpa_hpa, hpf_hpf, nI_1, two_ne, fokZ, implies_true, Nat.reduceEqDiff]
        exact hw
      · have h3 : y ≤ x := by rw [← Int32.not_lt]; exact hc
        simp only [hc, if_false] at hw
        simp only [h3, oK_some, cont_int, cont_intS, cont_none, cont_noneS, cont_long, cont_longS, true_and, and_true, false_and, and_false, true_implies, false_implies, not_true_eq_false, not_false_eq_true, eq_self, or_true, true_or, Option.isSome_some, hpf_length, hpa_length, bI_eq0, fi_hpa, fl_hpa, ar_hpf, fi_hpf_ne, fl_hpf_ne, ar_hpa_ne, hpa_hpa, hpf_hpf, nI_1, two_ne, fokZ, implies_true, Nat.reduceEqDiff]
        exact hw
  · simp only [hp, if_false] at hQ
    simp only [hp, oK_some, cont_int, cont_intS, cont_none, cont_noneS, cont_long, cont_longS, true_and, and_true, false_and, and_false, true_implies, false_implies, not_true_eq_false, not_false_eq_true, eq_self, or_true, true_or, Option.isSome_some, hpf_length, hpa_length, bI_eq0, fi_hpa, fl_hpa, ar_hpf, fi_hpf_ne, fl_hpf_ne, ar_hpa_ne, hpa_hpa, hpf_hpf, nI_1, two_ne, fokZ, implies_true, Nat.reduceEqDiff]
    exact mr_no hS hg (gd_0 hS) hQ
theorem m_costOf {s : Int32} (hI1 : MIv H R st n nS nW nG nU nN) : Wp scr (d + 1) 242 0 [some (.ref 68), some (.int s), none, none] [] H Q ↔ Q (some (.int (forN (cosF R s 94 4) nG 0))) H := by
  refine Wp_iff ?_
  generalize hQ : (fun (r : Option Value) (H' : List AC) => r = some (.int (forN (cosF R s 94 4) nG 0)) ∧ H' = H) = Q1
  have hS := hI1.shp
  have c5 := hI1.mn.2.2.2.1
  have b5 : nG ≤ 6 := hI1.mn.2.2.2.2.2.2.2.2.2.1
  simp only [w242_0, w242_1, w242_2, w242_3]
  have key := down (P := fun i => Wp scr (d + 1) 242 4 [some (.ref 68), some (.int s), some (.int (forN (cosF R s 94 4) i 0)), some (.int (nI i))] [] H Q1) nG ?_ ?_
  · simpa [nI_0, forN] using key
  · rw [w242_4]
    simp (maxDischargeDepth := 12) only [w242_0, w242_1, w242_2, w242_3, w242_5, w242_6, w242_9, w242_10, w242_11, w242_14, w242_15, w242_16, w242_17, w242_20, w242_23, w242_24, w242_27, w242_29, w242_30, w242_31, w242_32, w242_33, w242_34, w242_35, w242_36, w242_39, w242_40, w242_41, w242_42, w242_45, w242_48, w242_49, oK_some, cont_int, cont_intS, cont_none, cont_noneS, cont_long, cont_longS, true_and, and_true, false_and, and_false, true_implies, false_implies, not_true_eq_false, not_false_eq_true, eq_self, or_true, true_or, Option.isSome_some, hpf_length, hpa_length, bI_eq0, fi_hpa, fl_hpa, ar_hpf, fi_hpf_ne, fl_hpf_ne, ar_hpa_ne, hpa_hpa, hpf_hpf, nI_1, two_ne, fokZ, implies_true, Nat.reduceEqDiff, g_68_15, ga_71, gn_71, sa_71, ae_71, kl_0, kl_1, kl_2, kl_3, kl_4, kl_5, kl_6, kl_7, kl_8, kl_9, kl_10, kl_11, kl_12, jb_0_211, jb_1_211, jb_2_211, jb_3_211, jb_4_211, jb_5_211, jb_6_211, jb_7_211, jb_8_211, jb_9_211, jb_10_211, jb_11_211, jb_12_211, hS, hI1.r, c5, nI_les]
    rw [← hQ]
    exact ⟨rfl, rfl⟩
  · intro i hi hw
    rw [forN] at hw
    generalize forN (cosF R s 94 4) i 0 = acc at hw ⊢
    rw [w242_4]
    simp (maxDischargeDepth := 12) only [w242_0, w242_1, w242_2, w242_3, w242_5, w242_6, w242_9, w242_10, w242_11, w242_14, w242_15, w242_16, w242_17, w242_20, w242_23, w242_24, w242_27, w242_29, w242_30, w242_31, w242_32, w242_33, w242_34, w242_35, w242_36, w242_39, w242_40, w242_41, w242_42, w242_45, w242_48, w242_49, oK_some, cont_int, cont_intS, cont_none, cont_noneS, cont_long, cont_longS, true_and, and_true, false_and, and_false, true_implies, false_implies, not_true_eq_false, not_false_eq_true, eq_self, or_true, true_or, Option.isSome_some, hpf_length, hpa_length, bI_eq0, fi_hpa, fl_hpa, ar_hpf, fi_hpf_ne, fl_hpf_ne, ar_hpa_ne, hpa_hpa, hpf_hpf, nI_1, two_ne, fokZ, implies_true, Nat.reduceEqDiff, g_68_15, ga_71, gn_71, sa_71, ae_71, kl_0, kl_1, kl_2, kl_3, kl_4, kl_5, kl_6, kl_7, kl_8, kl_9, kl_10, kl_11, kl_12, jb_0_211, jb_1_211, jb_2_211, jb_3_211, jb_4_211, jb_5_211, jb_6_211, jb_7_211, jb_8_211, jb_9_211, jb_10_211, jb_11_211, jb_12_211, hS, hI1.r, c5, nI_lef hi (by omega : nG < 2147483648), m_hasBit, ixm 94 4 i (v := 94) (w := 4) rfl rfl, ixa (94 + 4 * i) 2 (v := 2) rfl, inb_nI (i := 94 + 4 * i + 2) (by omega), decide_eq_true (by omega : 94 + 4 * i + 2 < 211), nI_clamp (n := 94 + 4 * i + 2) (by omega)]
    unfold cosF at hw
    cases hb' : hb s (nI i)
    · simp only [hb', Bool.false_eq_true, if_false] at hw
      simp only [hb', oK_some, cont_int, cont_intS, cont_none, cont_noneS, cont_long, cont_longS, true_and, and_true, false_and, and_false, true_implies, false_implies, not_true_eq_false, not_false_eq_true, eq_self, or_true, true_or, Option.isSome_some, hpf_length, hpa_length, bI_eq0, fi_hpa, fl_hpa, ar_hpf, fi_hpf_ne, fl_hpf_ne, ar_hpa_ne, hpa_hpa, hpf_hpf, nI_1, two_ne, fokZ, implies_true, Nat.reduceEqDiff]
      exact hw
    · simp only [hb', if_true] at hw
      simp only [hb', Bool.true_eq_false, oK_some, cont_int, cont_intS, cont_none, cont_noneS, cont_long, cont_longS, true_and, and_true, false_and, and_false, true_implies, false_implies, not_true_eq_false, not_false_eq_true, eq_self, or_true, true_or, Option.isSome_some, hpf_length, hpa_length, bI_eq0, fi_hpa, fl_hpa, ar_hpf, fi_hpf_ne, fl_hpf_ne, ar_hpa_ne, hpa_hpa, hpf_hpf, nI_1, two_ne, fokZ, implies_true, Nat.reduceEqDiff]
      exact hw
theorem m_costOfWalls {s : Int32} (hI1 : MIv H R st n nS nW nG nU nN) : Wp scr (d + 1) 243 0 [some (.ref 68), some (.int s), none, none] [] H Q ↔ Q (some (.int (forN (cosF R s 79 3) nW 0))) H := by
  refine Wp_iff ?_
  generalize hQ : (fun (r : Option Value) (H' : List AC) => r = some (.int (forN (cosF R s 79 3) nW 0)) ∧ H' = H) = Q1
  have hS := hI1.shp
  have c4 := hI1.mn.2.2.1
  have b4 : nW ≤ 5 := hI1.mn.2.2.2.2.2.2.2.2.1
  simp only [w243_0, w243_1, w243_2, w243_3]
  have key := down (P := fun i => Wp scr (d + 1) 243 4 [some (.ref 68), some (.int s), some (.int (forN (cosF R s 79 3) i 0)), some (.int (nI i))] [] H Q1) nW ?_ ?_
  · simpa [nI_0, forN] using key
  · rw [w243_4]
    simp (maxDischargeDepth := 12) only [w243_0, w243_1, w243_2, w243_3, w243_5, w243_6, w243_9, w243_10, w243_11, w243_14, w243_15, w243_16, w243_17, w243_20, w243_23, w243_24, w243_27, w243_29, w243_30, w243_31, w243_32, w243_33, w243_34, w243_35, w243_36, w243_39, w243_40, w243_41, w243_42, w243_45, w243_48, w243_49, oK_some, cont_int, cont_intS, cont_none, cont_noneS, cont_long, cont_longS, true_and, and_true, false_and, and_false, true_implies, false_implies, not_true_eq_false, not_false_eq_true, eq_self, or_true, true_or, Option.isSome_some, hpf_length, hpa_length, bI_eq0, fi_hpa, fl_hpa, ar_hpf, fi_hpf_ne, fl_hpf_ne, ar_hpa_ne, hpa_hpa, hpf_hpf, nI_1, two_ne, fokZ, implies_true, Nat.reduceEqDiff, g_68_15, ga_71, gn_71, sa_71, ae_71, kl_0, kl_1, kl_2, kl_3, kl_4, kl_5, kl_6, kl_7, kl_8, kl_9, kl_10, kl_11, kl_12, jb_0_211, jb_1_211, jb_2_211, jb_3_211, jb_4_211, jb_5_211, jb_6_211, jb_7_211, jb_8_211, jb_9_211, jb_10_211, jb_11_211, jb_12_211, hS, hI1.r, c4, nI_les]
    rw [← hQ]
    exact ⟨rfl, rfl⟩
  · intro i hi hw
    rw [forN] at hw
    generalize forN (cosF R s 79 3) i 0 = acc at hw ⊢
    rw [w243_4]
    simp (maxDischargeDepth := 12) only [w243_0, w243_1, w243_2, w243_3, w243_5, w243_6, w243_9, w243_10, w243_11, w243_14, w243_15, w243_16, w243_17, w243_20, w243_23, w243_24, w243_27, w243_29, w243_30, w243_31, w243_32, w243_33, w243_34, w243_35, w243_36, w243_39, w243_40, w243_41, w243_42, w243_45, w243_48, w243_49, oK_some, cont_int, cont_intS, cont_none, cont_noneS, cont_long, cont_longS, true_and, and_true, false_and, and_false, true_implies, false_implies, not_true_eq_false, not_false_eq_true, eq_self, or_true, true_or, Option.isSome_some, hpf_length, hpa_length, bI_eq0, fi_hpa, fl_hpa, ar_hpf, fi_hpf_ne, fl_hpf_ne, ar_hpa_ne, hpa_hpa, hpf_hpf, nI_1, two_ne, fokZ, implies_true, Nat.reduceEqDiff, g_68_15, ga_71, gn_71, sa_71, ae_71, kl_0, kl_1, kl_2, kl_3, kl_4, kl_5, kl_6, kl_7, kl_8, kl_9, kl_10, kl_11, kl_12, jb_0_211, jb_1_211, jb_2_211, jb_3_211, jb_4_211, jb_5_211, jb_6_211, jb_7_211, jb_8_211, jb_9_211, jb_10_211, jb_11_211, jb_12_211, hS, hI1.r, c4, nI_lef hi (by omega : nW < 2147483648), m_hasBit, ixm 79 3 i (v := 79) (w := 3) rfl rfl, ixa (79 + 3 * i) 2 (v := 2) rfl, inb_nI (i := 79 + 3 * i + 2) (by omega), decide_eq_true (by omega : 79 + 3 * i + 2 < 211), nI_clamp (n := 79 + 3 * i + 2) (by omega)]
    unfold cosF at hw
    cases hb' : hb s (nI i)
    · simp only [hb', Bool.false_eq_true, if_false] at hw
      simp only [hb', oK_some, cont_int, cont_intS, cont_none, cont_noneS, cont_long, cont_longS, true_and, and_true, false_and, and_false, true_implies, false_implies, not_true_eq_false, not_false_eq_true, eq_self, or_true, true_or, Option.isSome_some, hpf_length, hpa_length, bI_eq0, fi_hpa, fl_hpa, ar_hpf, fi_hpf_ne, fl_hpf_ne, ar_hpa_ne, hpa_hpa, hpf_hpf, nI_1, two_ne, fokZ, implies_true, Nat.reduceEqDiff]
      exact hw
    · simp only [hb', if_true] at hw
      simp only [hb', Bool.true_eq_false, oK_some, cont_int, cont_intS, cont_none, cont_noneS, cont_long, cont_longS, true_and, and_true, false_and, and_false, true_implies, false_implies, not_true_eq_false, not_false_eq_true, eq_self, or_true, true_or, Option.isSome_some, hpf_length, hpa_length, bI_eq0, fi_hpa, fl_hpa, ar_hpf, fi_hpf_ne, fl_hpf_ne, ar_hpa_ne, hpa_hpa, hpf_hpf, nI_1, two_ne, fokZ, implies_true, Nat.reduceEqDiff]
      exact hw
theorem M_spent (hI : MIv H R st n nS nW nG nU nN) (hQ : MR H Q (if 0 < n then forN (cosF R (st.getD 7 0) 94 4) nG 0 + forN (cosF R (st.getD 8 0) 79 3) nW 0 else -1) (if 0 < n then 0 else 1)) : Wp scr (d + 2) 244 0 [some (.ref 68)] [] H Q := by
  have hS := hI.shp
  have hg := gd_fg hS
  have hI1 := hI.q hg
  have hs1 := hI1.shp
  have hM1 : Mn (ar (gd H) 71) n nS nW nG nU nN := by rw [hI1.2.1]; exact hI1.mn
  have h14 := hI1.2.2.2.2
  have e73 := hI1.2.2.1
  have rgR : ∀ j, R.getD j 0 = rg R j := fun _ => rfl
  have l73 := hI1.l
  obtain ⟨c2, c3, c4, c5, c6, c7, b2, b3, b4, b5, b6, b7⟩ := hI1.mn
  simp (maxDischargeDepth := 12) only [w244_0, w244_1, w244_4, w244_5, w244_8, w244_11, w244_12, w244_13, w244_16, w244_18, w244_19, w244_22, w244_23, w244_24, w244_27, w244_29, w244_30, w244_33, w244_34, w244_37, w244_38, w244_39, w244_42, oK_some, cont_int, cont_intS, cont_none, cont_noneS, cont_long, cont_longS, true_and, and_true, false_and, and_false, true_implies, false_implies, not_true_eq_false, not_false_eq_true, eq_self, or_true, true_or, Option.isSome_some, hpf_length, hpa_length, bI_eq0, fi_hpa, fl_hpa, ar_hpf, fi_hpf_ne, fl_hpf_ne, ar_hpa_ne, hpa_hpa, hpf_hpf, nI_1, two_ne, fokZ, implies_true, Nat.reduceEqDiff, rc_68, g_68_14, sf_68_14, fe_68_14, g_68_17, ga_73, gn_73, sa_73, ae_73, kl_0, kl_1, kl_2, kl_3, kl_4, kl_5, kl_6, kl_7, kl_8, kl_9, kl_10, kl_11, kl_12, jb_0_10, jb_1_10, jb_2_10, jb_3_10, jb_4_10, jb_5_10, jb_6_10, jb_7_10, jb_8_10, jb_9_10, hS, m_good, gd_len, hs1, h14, e73, l73, hI1.2.1, rgR, hI1.lr, m_no, decide_eq_false_iff_not, gn_71, jb_7_10, jb_8_10, jb_9_10, m_costOf hI1, m_costOfWalls hI1]
  by_cases hp : 0 < n
  · simp only [hp, if_true] at hQ
    simp only [hp, oK_some, cont_int, cont_intS, cont_none, cont_noneS, cont_long, cont_longS, true_and, and_true, false_and, and_false, true_implies, false_implies, not_true_eq_false, not_false_eq_true, eq_self, or_true, true_or, Option.isSome_some, hpf_length, hpa_length, bI_eq0, fi_hpa, fl_hpa, ar_hpf, fi_hpf_ne, fl_hpf_ne, ar_hpa_ne, hpa_hpa, hpf_hpf, nI_1, two_ne, fokZ, implies_true, Nat.reduceEqDiff]
    exact hQ _ hg (gd_0 hS) (gd_11 hS)
  · simp only [hp, if_false] at hQ
    simp only [hp, oK_some, cont_int, cont_intS, cont_none, cont_noneS, cont_long, cont_longS, true_and, and_true, false_and, and_false, true_implies, false_implies, not_true_eq_false, not_false_eq_true, eq_self, or_true, true_or, Option.isSome_some, hpf_length, hpa_length, bI_eq0, fi_hpa, fl_hpa, ar_hpf, fi_hpf_ne, fl_hpf_ne, ar_hpa_ne, hpa_hpa, hpf_hpf, nI_1, two_ne, fokZ, implies_true, Nat.reduceEqDiff]
    exact mr_no hS hg (gd_0 hS) hQ
theorem m_sightOf {k : Nat} {sn : Bool} (hI1 : MIv H R st n nS nW nG nU nN) (hk : k < 7) : Wp scr (d + 3) 235 0 [some (.ref 68), some (.int (nI k)), some (.int (bI sn)), none, none] [] H Q ↔ Q (some (.int (sgM R n nW (st.getD 8 0) k sn))) H := by
  refine Wp_iff ?_
  generalize hQ : (fun (r : Option Value) (H' : List AC) => r = some (.int (sgM R n nW (st.getD 8 0) k sn)) ∧ H' = H) = Q1
  have hS := hI1.shp
  have e73 := hI1.2.2.1
  have l73 := hI1.l
  obtain ⟨c2, c3, c4, c5, c6, c7, b2, b3, b4, b5, b6, b7⟩ := hI1.mn
  have c4' : rg (ar H 71) 4 = nI nW := by rw [hI1.2.1]; exact c4
  simp only [w235_0, w235_1, w235_2, w235_3]
  have key := down (P := fun i => Wp scr (d + 3) 235 5 [some (.ref 68), some (.int (nI k)), some (.int (bI sn)), some (.int (forN (sgF R nW (st.getD 8 0) k sn) i 0)), some (.int (nI i))] [] H Q1) n ?_ ?_
  · simpa [nI_0, forN] using key
  · rw [w235_5]
    simp (maxDischargeDepth := 12) only [w235_0, w235_1, w235_2, w235_3, w235_7, w235_8, w235_11, w235_12, w235_13, w235_16, w235_17, w235_19, w235_20, w235_23, w235_24, w235_27, w235_28, w235_29, w235_32, w235_34, w235_35, w235_37, w235_38, w235_41, w235_44, w235_47, w235_48, w235_49, w235_52, w235_54, w235_55, w235_56, w235_58, w235_61, w235_64, w235_65, w235_67, w235_68, w235_71, w235_72, w235_73, w235_74, w235_77, w235_80, w235_81, oK_some, cont_int, cont_intS, cont_none, cont_noneS, cont_long, cont_longS, true_and, and_true, false_and, and_false, true_implies, false_implies, not_true_eq_false, not_false_eq_true, eq_self, or_true, true_or, Option.isSome_some, hpf_length, hpa_length, bI_eq0, fi_hpa, fl_hpa, ar_hpf, fi_hpf_ne, fl_hpf_ne, ar_hpa_ne, hpa_hpa, hpf_hpf, nI_1, two_ne, fokZ, implies_true, Nat.reduceEqDiff, g_68_15, ga_71, gn_71, sa_71, ae_71, g_68_17, ga_73, gn_73, sa_73, ae_73, rc_68, kl_0, kl_1, kl_2, kl_3, kl_4, kl_5, kl_6, kl_7, kl_8, kl_9, kl_10, kl_11, kl_12, jb_0_10, jb_1_10, jb_2_10, jb_3_10, jb_4_10, jb_5_10, jb_6_10, jb_7_10, jb_8_10, jb_9_10, jb_0_211, jb_1_211, jb_2_211, jb_3_211, jb_4_211, jb_5_211, jb_6_211, jb_7_211, jb_8_211, jb_9_211, jb_10_211, jb_11_211, jb_12_211, hS, hI1.r, c2, nI_les]
    rw [← hQ]
    exact ⟨rfl, rfl⟩
  · intro i hi hw
    rw [forN] at hw
    generalize forN (sgF R nW (st.getD 8 0) k sn) i 0 = acc at hw ⊢
    have eik : (nI i = nI k) = (i = k) := propext (nI_eq (by omega) (by omega))
    rw [w235_5]
    have rgR : ∀ j, R.getD j 0 = rg R j := fun _ => rfl
    simp (maxDischargeDepth := 12) only [w235_0, w235_1, w235_2, w235_3, w235_7, w235_8, w235_11, w235_12, w235_13, w235_16, w235_17, w235_19, w235_20, w235_23, w235_24, w235_27, w235_28, w235_29, w235_32, w235_34, w235_35, w235_37, w235_38, w235_41, w235_44, w235_47, w235_48, w235_49, w235_52, w235_54, w235_55, w235_56, w235_58, w235_61, w235_64, w235_65, w235_67, w235_68, w235_71, w235_72, w235_73, w235_74, w235_77, w235_80, w235_81, oK_some, cont_int, cont_intS, cont_none, cont_noneS, cont_long, cont_longS, true_and, and_true, false_and, and_false, true_implies, false_implies, not_true_eq_false, not_false_eq_true, eq_self, or_true, true_or, Option.isSome_some, hpf_length, hpa_length, bI_eq0, fi_hpa, fl_hpa, ar_hpf, fi_hpf_ne, fl_hpf_ne, ar_hpa_ne, hpa_hpa, hpf_hpf, nI_1, two_ne, fokZ, implies_true, Nat.reduceEqDiff, g_68_15, ga_71, gn_71, sa_71, ae_71, g_68_17, ga_73, gn_73, sa_73, ae_73, rc_68, kl_0, kl_1, kl_2, kl_3, kl_4, kl_5, kl_6, kl_7, kl_8, kl_9, kl_10, kl_11, kl_12, jb_0_10, jb_1_10, jb_2_10, jb_3_10, jb_4_10, jb_5_10, jb_6_10, jb_7_10, jb_8_10, jb_9_10, jb_0_211, jb_1_211, jb_2_211, jb_3_211, jb_4_211, jb_5_211, jb_6_211, jb_7_211, jb_8_211, jb_9_211, jb_10_211, jb_11_211, jb_12_211, hS, rgR, hI1.lr, c2, nI_lef hi (by omega : n < 2147483648), eik, e73, l73, jb_8_10, m_doesSee hS c4' b4 hk (by omega : i < 7), m_doesSee hS c4' b4 (by omega : i < 7) hk, hI1.2.1]
    unfold sgF at hw
    by_cases h0 : i = k
    · simp only [h0, not_true_eq_false, false_and, if_false, Int32.or_zero] at hw
      simp only [h0, oK_some, cont_int, cont_intS, cont_none, cont_noneS, cont_long, cont_longS, true_and, and_true, false_and, and_false, true_implies, false_implies, not_true_eq_false, not_false_eq_true, eq_self, or_true, true_or, Option.isSome_some, hpf_length, hpa_length, bI_eq0, fi_hpa, fl_hpa, ar_hpf, fi_hpf_ne, fl_hpf_ne, ar_hpa_ne, hpa_hpa, hpf_hpf, nI_1, two_ne, fokZ, implies_true, Nat.reduceEqDiff, Int32.or_zero]
      exact hw
    · cases sn
      · cases h1 : dSee R nW (st.getD 8 0) k i
        · simp only [h0, h1, Bool.false_eq_true, if_false, and_false, Int32.or_zero] at hw
          simp only [h0, h1, oK_some, cont_int, cont_intS, cont_none, cont_noneS, cont_long, cont_longS, true_and, and_true, false_and, and_false, true_implies, false_implies, not_true_eq_false, not_false_eq_true, eq_self, or_true, true_or, Option.isSome_some, hpf_length, hpa_length, bI_eq0, fi_hpa, fl_hpa, ar_hpf, fi_hpf_ne, fl_hpf_ne, ar_hpa_ne, hpa_hpa, hpf_hpf, nI_1, two_ne, fokZ, implies_true, Nat.reduceEqDiff, Int32.or_zero, Bool.true_eq_false]
          exact hw
        · simp only [h0, h1, Bool.false_eq_true, if_false, not_false_eq_true, and_self, if_true] at hw
          simp only [h0, h1, oK_some, cont_int, cont_intS, cont_none, cont_noneS, cont_long, cont_longS, true_and, and_true, false_and, and_false, true_implies, false_implies, not_true_eq_false, not_false_eq_true, eq_self, or_true, true_or, Option.isSome_some, hpf_length, hpa_length, bI_eq0, fi_hpa, fl_hpa, ar_hpf, fi_hpf_ne, fl_hpf_ne, ar_hpa_ne, hpa_hpa, hpf_hpf, nI_1, two_ne, fokZ, implies_true, Nat.reduceEqDiff, Bool.true_eq_false]
          exact hw
      · cases h1 : dSee R nW (st.getD 8 0) i k
        · simp only [h0, h1, Bool.false_eq_true, if_false, if_true, and_false, Int32.or_zero] at hw
          simp only [h0, h1, oK_some, cont_int, cont_intS, cont_none, cont_noneS, cont_long, cont_longS, true_and, and_true, false_and, and_false, true_implies, false_implies, not_true_eq_false, not_false_eq_true, eq_self, or_true, true_or, Option.isSome_some, hpf_length, hpa_length, bI_eq0, fi_hpa, fl_hpa, ar_hpf, fi_hpf_ne, fl_hpf_ne, ar_hpa_ne, hpa_hpa, hpf_hpf, nI_1, two_ne, fokZ, implies_true, Nat.reduceEqDiff, Int32.or_zero, Bool.true_eq_false]
          exact hw
        · simp only [h0, h1, Bool.false_eq_true, if_false, not_false_eq_true, and_self, if_true] at hw
          simp only [h0, h1, oK_some, cont_int, cont_intS, cont_none, cont_noneS, cont_long, cont_longS, true_and, and_true, false_and, and_false, true_implies, false_implies, not_true_eq_false, not_false_eq_true, eq_self, or_true, true_or, Option.isSome_some, hpf_length, hpa_length, bI_eq0, fi_hpa, fl_hpa, ar_hpf, fi_hpf_ne, fl_hpf_ne, ar_hpa_ne, hpa_hpa, hpf_hpf, nI_1, two_ne, fokZ, implies_true, Nat.reduceEqDiff, Bool.true_eq_false]
          exact hw
end MODEL6
