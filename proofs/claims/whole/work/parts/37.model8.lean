/-! ===== the Model: first, worstDay, still, harvest, reach, row, sign, wall ===== -/
/-- the first of the days on which one doubts, its first row -/
def fst2 (p : Nat → Nat → Bool) (N n : Nat) : Int32 := match (List.range N).find? (fun i => exN (p i) n) with
  | some i => fnd (p i) n 0
  | none => -2
theorem fst2_hit {p : Nat → Nat → Bool} {N n i k : Nat} (hi : i < N) (hk : k < n) (hp : p i k = true) (hb : ∀ j, j < k → p i j = false) (ho : ∀ j, j < i → ∀ q, q < n → p j q = false) : fst2 p N n = nI k := by
  unfold fst2
  have : (List.range N).find? (fun i => exN (p i) n) = some i := by
    rw [List.find?_eq_some_iff_getElem]
    refine ⟨exN_t hk hp, i, by simpa using hi, by simp, fun j hj => ?_⟩
    simp only [List.getElem_range]
    rw [exN_f (fun q hq => ho j hj q hq)]
    rfl
  rw [this]
  exact fnd_hit hk hp hb
theorem fst2_miss {p : Nat → Nat → Bool} {N n : Nat} (ho : ∀ j, j < N → ∀ q, q < n → p j q = false) : fst2 p N n = -2 := by
  unfold fst2
  have : (List.range N).find? (fun i => exN (p i) n) = none := by
    rw [List.find?_eq_none]
    intro x hx
    rw [exN_f (fun q hq => ho x (List.mem_range.mp hx) q hq)]
    decide
  rw [this]
theorem exN_congr {p q : Nat → Bool} {n : Nat} (h : ∀ i, i < n → p i = q i) : exN p n = exN q n := by
  cases hq : exN q n
  · refine exN_f (fun k hk => ?_)
    rw [h k hk]
    have := List.any_eq_false.mp hq k (List.mem_range.mpr hk)
    simpa using this
  · obtain ⟨k, hk, hp⟩ := List.any_eq_true.mp hq
    have hk' := List.mem_range.mp hk
    exact exN_t hk' (by rw [h k hk']; exact hp)
theorem fst2_congr {p q : Nat → Nat → Bool} {N n : Nat} (h : ∀ i, i < N → ∀ k, k < n → p i k = q i k) : fst2 p N n = fst2 q N n := by
  unfold fst2
  have e := find_congr (p := fun i => exN (p i) n) (q := fun i => exN (q i) n) (n := N) (fun i hi => exN_congr (h i hi))
  rw [e]
  cases hf : (List.range N).find? (fun i => exN (q i) n) with
  | none => rfl
  | some i =>
    have hi : i < N := List.mem_range.mp (List.mem_of_find?_eq_some hf)
    exact fnd_congr (h i hi)
/-- the first day with the most -/
def wrF (c : Nat → Int32) (i : Nat) (p : Int32 × Int32) : Int32 × Int32 := if p.2 < c i then (nI i, c i) else p
theorem wrF_congr {c c' : Nat → Int32} {p : Int32 × Int32} (n : Nat) (h : ∀ i, i < n → c i = c' i) : forN (wrF c) n p = forN (wrF c') n p := forN_congr n p (fun i hi x => by simp only [wrF, h i hi])
/-- the sum over days of what is borne -/
def hvF (R : List Int32) (n : Nat) (D : Nat → List Int32) (i : Nat) (acc : Int32) : Int32 := acc + forN (allG R (D (i + 1))) n 0
section MODEL8
variable {scr : List Int32} {d n nS nW nG nU nN w : Nat} {H : List AC} {R st : List Int32} {Q : Option Value → List AC → Prop}
theorem M_first (hI : MIv H R st n nS nW nG nU nN) (hQ : MR H Q (if 0 < n then fst2 (fun i k => decide ((daysM R (allU nU) n nW nG nU i st).getD k 0 < 10)) 41 n else -1) (if 0 < n then 0 else 1)) : Wp scr (d + 6) 250 0 [some (.ref 68), none, none] [] H Q := by
  have hS := hI.shp
  have hg := gd_fg hS
  have hI1 := hI.q hg
  have hs1 := hI1.shp
  have hM1 : Mn (ar (gd H) 71) n nS nW nG nU nN := by rw [hI1.2.1]; exact hI1.mn
  have h14 := hI1.2.2.2.2
  have e73 := hI1.2.2.1
  have rgR : ∀ j, R.getD j 0 = rg R j := fun _ => rfl
  have l73 := hI1.l
  obtain ⟨c2, c3, c4, c5, c6, c7, b2, b3, b4, b5, b6, b7⟩ := hI1.mn
  simp (maxDischargeDepth := 12) only [w250_0, w250_1, w250_4, w250_5, w250_8, w250_11, w250_12, w250_13, w250_16, w250_17, w250_18, w250_21, w250_22, w250_24, w250_26, w250_29, w250_30, w250_32, w250_33, w250_36, w250_37, w250_38, w250_41, w250_42, w250_45, w250_46, w250_49, w250_52, w250_53, w250_54, w250_57, w250_60, w250_61, w250_62, w250_65, w250_68, w250_71, w250_74, w250_76, oK_some, cont_int, cont_intS, cont_none, cont_noneS, cont_long, cont_longS, true_and, and_true, false_and, and_false, true_implies, false_implies, not_true_eq_false, not_false_eq_true, eq_self, or_true, true_or, Option.isSome_some, hpf_length, hpa_length, bI_eq0, fi_hpa, fl_hpa, ar_hpf, fi_hpf_ne, fl_hpf_ne, ar_hpa_ne, hpa_hpa, hpf_hpf, nI_1, two_ne, fokZ, implies_true, Nat.reduceEqDiff, rc_68, g_68_14, sf_68_14, fe_68_14, g_68_15, ga_71, gn_71, sa_71, ae_71, g_68_24, ga_77, gn_77, sa_77, ae_77, kl_0, kl_1, kl_2, kl_3, kl_4, kl_5, kl_6, kl_7, kl_8, kl_9, kl_10, kl_11, kl_12, jb_0_10, jb_1_10, jb_2_10, jb_3_10, jb_4_10, jb_5_10, jb_6_10, jb_7_10, jb_8_10, jb_9_10, jb_0_211, jb_1_211, jb_2_211, jb_3_211, jb_4_211, jb_5_211, jb_6_211, jb_7_211, jb_8_211, jb_9_211, jb_10_211, jb_11_211, jb_12_211, hS, m_good, gd_len, hs1, h14, e73, l73, hI1.2.1, rgR, hI1.lr, m_no, decide_eq_false_iff_not, gn_71, jb_7_10, jb_8_10, jb_9_10]
  by_cases hp : 0 < n
  · simp only [hp, if_true] at hQ
    simp only [hp, oK_some, cont_int, cont_intS, cont_none, cont_noneS, cont_long, cont_longS, true_and, and_true, false_and, and_false, true_implies, false_implies, not_true_eq_false, not_false_eq_true, eq_self, or_true, true_or, Option.isSome_some, hpf_length, hpa_length, bI_eq0, fi_hpa, fl_hpa, ar_hpf, fi_hpf_ne, fl_hpf_ne, ar_hpa_ne, hpa_hpa, hpf_hpf, nI_1, two_ne, fokZ, implies_true, Nat.reduceEqDiff]
    generalize hpd : (fun i k => decide ((daysM R (allU nU) n nW nG nU i st).getD k 0 < 10)) = p at hQ
    have hpi : ∀ i k, p i k = decide ((daysM R (allU nU) n nW nG nU i st).getD k 0 < 10) := fun i k => by rw [← hpd]
    refine m_begin' hI1 (fun H1 hF1 a1 f1 => ?_)
    simp (maxDischargeDepth := 12) only [w250_0, w250_1, w250_4, w250_5, w250_8, w250_11, w250_12, w250_13, w250_16, w250_17, w250_18, w250_21, w250_22, w250_24, w250_26, w250_29, w250_30, w250_32, w250_33, w250_36, w250_37, w250_38, w250_41, w250_42, w250_45, w250_46, w250_49, w250_52, w250_53, w250_54, w250_57, w250_60, w250_61, w250_62, w250_65, w250_68, w250_71, w250_74, w250_76, oK_some, cont_int, cont_intS, cont_none, cont_noneS, cont_long, cont_longS, true_and, and_true, false_and, and_false, true_implies, false_implies, not_true_eq_false, not_false_eq_true, eq_self, or_true, true_or, Option.isSome_some, hpf_length, hpa_length, bI_eq0, fi_hpa, fl_hpa, ar_hpf, fi_hpf_ne, fl_hpf_ne, ar_hpa_ne, hpa_hpa, hpf_hpf, nI_1, two_ne, fokZ, implies_true, Nat.reduceEqDiff, rc_68, g_68_14, sf_68_14, fe_68_14, g_68_15, ga_71, gn_71, sa_71, ae_71, g_68_24, ga_77, gn_77, sa_77, ae_77, kl_0, kl_1, kl_2, kl_3, kl_4, kl_5, kl_6, kl_7, kl_8, kl_9, kl_10, kl_11, kl_12, jb_0_10, jb_1_10, jb_2_10, jb_3_10, jb_4_10, jb_5_10, jb_6_10, jb_7_10, jb_8_10, jb_9_10, jb_0_211, jb_1_211, jb_2_211, jb_3_211, jb_4_211, jb_5_211, jb_6_211, jb_7_211, jb_8_211, jb_9_211, jb_10_211, jb_11_211, jb_12_211, hF1.len]
    have key := down (P := fun i => (∀ j, j < i → ∀ q, q < n → p j q = false) → ∀ H2, ∀ o2 : Option Value, Fg [76, 77] [(68, 22)] (gd H) H2 → fi H2 68 22 = allU nU → ar H2 77 = daysM R (allU nU) n nW nG nU i st → Wp scr (d + 6) 250 23 [some (.ref 68), some (.int (nI i)), o2] [] H2 Q) 41 ?_ ?_
    · exact key (fun j hj => absurd hj (Nat.not_lt_zero _)) H1 none (hF1.mono (by decide) (by decide)) f1 a1
    · intro hno H2 o2 hF2 _ a2
      rw [w250_23]
      simp (maxDischargeDepth := 12) only [w250_0, w250_1, w250_4, w250_5, w250_8, w250_11, w250_12, w250_13, w250_16, w250_17, w250_18, w250_21, w250_22, w250_24, w250_26, w250_29, w250_30, w250_32, w250_33, w250_36, w250_37, w250_38, w250_41, w250_42, w250_45, w250_46, w250_49, w250_52, w250_53, w250_54, w250_57, w250_60, w250_61, w250_62, w250_65, w250_68, w250_71, w250_74, w250_76, oK_some, cont_int, cont_intS, cont_none, cont_noneS, cont_long, cont_longS, true_and, and_true, false_and, and_false, true_implies, false_implies, not_true_eq_false, not_false_eq_true, eq_self, or_true, true_or, Option.isSome_some, hpf_length, hpa_length, bI_eq0, fi_hpa, fl_hpa, ar_hpf, fi_hpf_ne, fl_hpf_ne, ar_hpa_ne, hpa_hpa, hpf_hpf, nI_1, two_ne, fokZ, implies_true, Nat.reduceEqDiff, rc_68, g_68_14, sf_68_14, fe_68_14, g_68_15, ga_71, gn_71, sa_71, ae_71, g_68_24, ga_77, gn_77, sa_77, ae_77, kl_0, kl_1, kl_2, kl_3, kl_4, kl_5, kl_6, kl_7, kl_8, kl_9, kl_10, kl_11, kl_12, jb_0_10, jb_1_10, jb_2_10, jb_3_10, jb_4_10, jb_5_10, jb_6_10, jb_7_10, jb_8_10, jb_9_10, jb_0_211, jb_1_211, jb_2_211, jb_3_211, jb_4_211, jb_5_211, jb_6_211, jb_7_211, jb_8_211, jb_9_211, jb_10_211, jb_11_211, jb_12_211, l40t]
      rw [fst2_miss hno] at hQ
      exact mr_ok hS hF2 (by decide) (by decide) (by decide) (by decide) (by decide) hQ
    · intro i hi hw hno H2 o2 hF2 f2 a2
      have hI2 := hI1.of hF2 (by decide) (by decide) (by decide) (by decide)
      have hs2 := hF2.shp
      rw [w250_23]
      simp (maxDischargeDepth := 12) only [w250_0, w250_1, w250_4, w250_5, w250_8, w250_11, w250_12, w250_13, w250_16, w250_17, w250_18, w250_21, w250_22, w250_24, w250_26, w250_29, w250_30, w250_32, w250_33, w250_36, w250_37, w250_38, w250_41, w250_42, w250_45, w250_46, w250_49, w250_52, w250_53, w250_54, w250_57, w250_60, w250_61, w250_62, w250_65, w250_68, w250_71, w250_74, w250_76, oK_some, cont_int, cont_intS, cont_none, cont_noneS, cont_long, cont_longS, true_and, and_true, false_and, and_false, true_implies, false_implies, not_true_eq_false, not_false_eq_true, eq_self, or_true, true_or, Option.isSome_some, hpf_length, hpa_length, bI_eq0, fi_hpa, fl_hpa, ar_hpf, fi_hpf_ne, fl_hpf_ne, ar_hpa_ne, hpa_hpa, hpf_hpf, nI_1, two_ne, fokZ, implies_true, Nat.reduceEqDiff, rc_68, g_68_14, sf_68_14, fe_68_14, g_68_15, ga_71, gn_71, sa_71, ae_71, g_68_24, ga_77, gn_77, sa_77, ae_77, kl_0, kl_1, kl_2, kl_3, kl_4, kl_5, kl_6, kl_7, kl_8, kl_9, kl_10, kl_11, kl_12, jb_0_10, jb_1_10, jb_2_10, jb_3_10, jb_4_10, jb_5_10, jb_6_10, jb_7_10, jb_8_10, jb_9_10, jb_0_211, jb_1_211, jb_2_211, jb_3_211, jb_4_211, jb_5_211, jb_6_211, jb_7_211, jb_8_211, jb_9_211, jb_10_211, jb_11_211, jb_12_211, l40f hi]
      have key2 := down (P := fun k => (∀ j, j < k → p i j = false) → Wp scr (d + 6) 250 31 [some (.ref 68), some (.int (nI i)), some (.int (nI k))] [] H2 Q) n ?_ ?_
      · exact key2 (fun j hj => absurd hj (Nat.not_lt_zero _))
      · intro hnk
        rw [w250_31]
        simp (maxDischargeDepth := 12) only [w250_0, w250_1, w250_4, w250_5, w250_8, w250_11, w250_12, w250_13, w250_16, w250_17, w250_18, w250_21, w250_22, w250_24, w250_26, w250_29, w250_30, w250_32, w250_33, w250_36, w250_37, w250_38, w250_41, w250_42, w250_45, w250_46, w250_49, w250_52, w250_53, w250_54, w250_57, w250_60, w250_61, w250_62, w250_65, w250_68, w250_71, w250_74, w250_76, oK_some, cont_int, cont_intS, cont_none, cont_noneS, cont_long, cont_longS, true_and, and_true, false_and, and_false, true_implies, false_implies, not_true_eq_false, not_false_eq_true, eq_self, or_true, true_or, Option.isSome_some, hpf_length, hpa_length, bI_eq0, fi_hpa, fl_hpa, ar_hpf, fi_hpf_ne, fl_hpf_ne, ar_hpa_ne, hpa_hpa, hpf_hpf, nI_1, two_ne, fokZ, implies_true, Nat.reduceEqDiff, rc_68, g_68_14, sf_68_14, fe_68_14, g_68_15, ga_71, gn_71, sa_71, ae_71, g_68_24, ga_77, gn_77, sa_77, ae_77, kl_0, kl_1, kl_2, kl_3, kl_4, kl_5, kl_6, kl_7, kl_8, kl_9, kl_10, kl_11, kl_12, jb_0_10, jb_1_10, jb_2_10, jb_3_10, jb_4_10, jb_5_10, jb_6_10, jb_7_10, jb_8_10, jb_9_10, jb_0_211, jb_1_211, jb_2_211, jb_3_211, jb_4_211, jb_5_211, jb_6_211, jb_7_211, jb_8_211, jb_9_211, jb_10_211, jb_11_211, jb_12_211, hs2, hI2.r, c2, nI_les]
        refine m_dayT hI2 (fun H3 hF3 a3 => ?_)
        simp (maxDischargeDepth := 12) only [w250_0, w250_1, w250_4, w250_5, w250_8, w250_11, w250_12, w250_13, w250_16, w250_17, w250_18, w250_21, w250_22, w250_24, w250_26, w250_29, w250_30, w250_32, w250_33, w250_36, w250_37, w250_38, w250_41, w250_42, w250_45, w250_46, w250_49, w250_52, w250_53, w250_54, w250_57, w250_60, w250_61, w250_62, w250_65, w250_68, w250_71, w250_74, w250_76, oK_some, cont_int, cont_intS, cont_none, cont_noneS, cont_long, cont_longS, true_and, and_true, false_and, and_false, true_implies, false_implies, not_true_eq_false, not_false_eq_true, eq_self, or_true, true_or, Option.isSome_some, hpf_length, hpa_length, bI_eq0, fi_hpa, fl_hpa, ar_hpf, fi_hpf_ne, fl_hpf_ne, ar_hpa_ne, hpa_hpa, hpf_hpf, nI_1, two_ne, fokZ, implies_true, Nat.reduceEqDiff, rc_68, g_68_14, sf_68_14, fe_68_14, g_68_15, ga_71, gn_71, sa_71, ae_71, g_68_24, ga_77, gn_77, sa_77, ae_77, kl_0, kl_1, kl_2, kl_3, kl_4, kl_5, kl_6, kl_7, kl_8, kl_9, kl_10, kl_11, kl_12, jb_0_10, jb_1_10, jb_2_10, jb_3_10, jb_4_10, jb_5_10, jb_6_10, jb_7_10, jb_8_10, jb_9_10, jb_0_211, jb_1_211, jb_2_211, jb_3_211, jb_4_211, jb_5_211, jb_6_211, jb_7_211, jb_8_211, jb_9_211, jb_10_211, jb_11_211, jb_12_211, hF3.len]
        refine hw (fun j hj => ?_) H3 _ (hF2.trans (hF3.mono (by decide) (by decide))) (by rw [hF3.int (by decide) (by decide), f2]) (by rw [a3, f2, a2]; rfl)
        rcases Nat.lt_or_ge j i with q | q
        · exact hno j q
        · rw [show j = i by omega]; exact hnk
      · intro k hk hw2 hnk
        rw [w250_31]
        simp (maxDischargeDepth := 12) only [w250_0, w250_1, w250_4, w250_5, w250_8, w250_11, w250_12, w250_13, w250_16, w250_17, w250_18, w250_21, w250_22, w250_24, w250_26, w250_29, w250_30, w250_32, w250_33, w250_36, w250_37, w250_38, w250_41, w250_42, w250_45, w250_46, w250_49, w250_52, w250_53, w250_54, w250_57, w250_60, w250_61, w250_62, w250_65, w250_68, w250_71, w250_74, w250_76, oK_some, cont_int, cont_intS, cont_none, cont_noneS, cont_long, cont_longS, true_and, and_true, false_and, and_false, true_implies, false_implies, not_true_eq_false, not_false_eq_true, eq_self, or_true, true_or, Option.isSome_some, hpf_length, hpa_length, bI_eq0, fi_hpa, fl_hpa, ar_hpf, fi_hpf_ne, fl_hpf_ne, ar_hpa_ne, hpa_hpa, hpf_hpf, nI_1, two_ne, fokZ, implies_true, Nat.reduceEqDiff, rc_68, g_68_14, sf_68_14, fe_68_14, g_68_15, ga_71, gn_71, sa_71, ae_71, g_68_24, ga_77, gn_77, sa_77, ae_77, kl_0, kl_1, kl_2, kl_3, kl_4, kl_5, kl_6, kl_7, kl_8, kl_9, kl_10, kl_11, kl_12, jb_0_10, jb_1_10, jb_2_10, jb_3_10, jb_4_10, jb_5_10, jb_6_10, jb_7_10, jb_8_10, jb_9_10, jb_0_211, jb_1_211, jb_2_211, jb_3_211, jb_4_211, jb_5_211, jb_6_211, jb_7_211, jb_8_211, jb_9_211, jb_10_211, jb_11_211, jb_12_211, hs2, hI2.r, c2, nI_lef hk (by omega : n < 2147483648), m_doubts (ga_77 hs2) (gn_77 hs2) (by omega : k < 10), a2, ← hpi]
        cases hpv : p i k
        · simp only [hpv, oK_some, cont_int, cont_intS, cont_none, cont_noneS, cont_long, cont_longS, true_and, and_true, false_and, and_false, true_implies, false_implies, not_true_eq_false, not_false_eq_true, eq_self, or_true, true_or, Option.isSome_some, hpf_length, hpa_length, bI_eq0, fi_hpa, fl_hpa, ar_hpf, fi_hpf_ne, fl_hpf_ne, ar_hpa_ne, hpa_hpa, hpf_hpf, nI_1, two_ne, fokZ, implies_true, Nat.reduceEqDiff]
          refine hw2 (fun j hj => ?_)
          rcases Nat.lt_or_ge j k with q | q
          · exact hnk j q
          · rw [show j = k by omega]; exact hpv
        · simp only [hpv, oK_some, cont_int, cont_intS, cont_none, cont_noneS, cont_long, cont_longS, true_and, and_true, false_and, and_false, true_implies, false_implies, not_true_eq_false, not_false_eq_true, eq_self, or_true, true_or, Option.isSome_some, hpf_length, hpa_length, bI_eq0, fi_hpa, fl_hpa, ar_hpf, fi_hpf_ne, fl_hpf_ne, ar_hpa_ne, hpa_hpa, hpf_hpf, nI_1, two_ne, fokZ, implies_true, Nat.reduceEqDiff, Bool.true_eq_false]
          rw [fst2_hit hi hk hpv hnk hno] at hQ
          exact mr_ok hS hF2 (by decide) (by decide) (by decide) (by decide) (by decide) hQ
  · simp only [hp, if_false] at hQ
    simp only [hp, oK_some, cont_int, cont_intS, cont_none, cont_noneS, cont_long, cont_longS, true_and, and_true, false_and, and_false, true_implies, false_implies, not_true_eq_false, not_false_eq_true, eq_self, or_true, true_or, Option.isSome_some, hpf_length, hpa_length, bI_eq0, fi_hpa, fl_hpa, ar_hpf, fi_hpf_ne, fl_hpf_ne, ar_hpa_ne, hpa_hpa, hpf_hpf, nI_1, two_ne, fokZ, implies_true, Nat.reduceEqDiff]
    exact mr_no hS hg (gd_0 hS) hQ
theorem M_worstDay (hI : MIv H R st n nS nW nG nU nN) (hQ : MR H Q (if 0 < n then (forN (wrF (fun i => ones (dbt n (daysM R (allU nU) n nW nG nU i st)))) 41 (0, -1)).1 else -1) (if 0 < n then 0 else 1)) : Wp scr (d + 6) 251 0 [some (.ref 68), none, none, none, none] [] H Q := by
  have hS := hI.shp
  have hg := gd_fg hS
  have hI1 := hI.q hg
  have hs1 := hI1.shp
  have hM1 : Mn (ar (gd H) 71) n nS nW nG nU nN := by rw [hI1.2.1]; exact hI1.mn
  have h14 := hI1.2.2.2.2
  have e73 := hI1.2.2.1
  have rgR : ∀ j, R.getD j 0 = rg R j := fun _ => rfl
  have l73 := hI1.l
  obtain ⟨c2, c3, c4, c5, c6, c7, b2, b3, b4, b5, b6, b7⟩ := hI1.mn
  simp (maxDischargeDepth := 12) only [w251_0, w251_1, w251_4, w251_5, w251_8, w251_11, w251_12, w251_13, w251_16, w251_17, w251_18, w251_21, w251_22, w251_23, w251_24, w251_25, w251_26, w251_28, w251_30, w251_33, w251_34, w251_35, w251_38, w251_41, w251_44, w251_46, w251_48, w251_49, w251_52, w251_53, w251_54, w251_56, w251_57, w251_58, w251_59, w251_62, w251_65, w251_68, w251_71, w251_72, oK_some, cont_int, cont_intS, cont_none, cont_noneS, cont_long, cont_longS, true_and, and_true, false_and, and_false, true_implies, false_implies, not_true_eq_false, not_false_eq_true, eq_self, or_true, true_or, Option.isSome_some, hpf_length, hpa_length, bI_eq0, fi_hpa, fl_hpa, ar_hpf, fi_hpf_ne, fl_hpf_ne, ar_hpa_ne, hpa_hpa, hpf_hpf, nI_1, two_ne, fokZ, implies_true, Nat.reduceEqDiff, rc_68, g_68_14, sf_68_14, fe_68_14, g_68_24, ga_77, gn_77, sa_77, ae_77, kl_0, kl_1, kl_2, kl_3, kl_4, kl_5, kl_6, kl_7, kl_8, kl_9, kl_10, kl_11, kl_12, jb_0_10, jb_1_10, jb_2_10, jb_3_10, jb_4_10, jb_5_10, jb_6_10, jb_7_10, jb_8_10, jb_9_10, hS, m_good, gd_len, hs1, h14, e73, l73, hI1.2.1, rgR, hI1.lr, m_no, decide_eq_false_iff_not, gn_71, jb_7_10, jb_8_10, jb_9_10]
  by_cases hp : 0 < n
  · simp only [hp, if_true] at hQ
    simp only [hp, oK_some, cont_int, cont_intS, cont_none, cont_noneS, cont_long, cont_longS, true_and, and_true, false_and, and_false, true_implies, false_implies, not_true_eq_false, not_false_eq_true, eq_self, or_true, true_or, Option.isSome_some, hpf_length, hpa_length, bI_eq0, fi_hpa, fl_hpa, ar_hpf, fi_hpf_ne, fl_hpf_ne, ar_hpa_ne, hpa_hpa, hpf_hpf, nI_1, two_ne, fokZ, implies_true, Nat.reduceEqDiff]
    generalize hcd : (fun i => ones (dbt n (daysM R (allU nU) n nW nG nU i st))) = c at hQ
    have hci : ∀ i, ones (dbt n (daysM R (allU nU) n nW nG nU i st)) = c i := fun i => by rw [← hcd]
    refine m_begin' hI1 (fun H1 hF1 a1 f1 => ?_)
    simp (maxDischargeDepth := 12) only [w251_0, w251_1, w251_4, w251_5, w251_8, w251_11, w251_12, w251_13, w251_16, w251_17, w251_18, w251_21, w251_22, w251_23, w251_24, w251_25, w251_26, w251_28, w251_30, w251_33, w251_34, w251_35, w251_38, w251_41, w251_44, w251_46, w251_48, w251_49, w251_52, w251_53, w251_54, w251_56, w251_57, w251_58, w251_59, w251_62, w251_65, w251_68, w251_71, w251_72, oK_some, cont_int, cont_intS, cont_none, cont_noneS, cont_long, cont_longS, true_and, and_true, false_and, and_false, true_implies, false_implies, not_true_eq_false, not_false_eq_true, eq_self, or_true, true_or, Option.isSome_some, hpf_length, hpa_length, bI_eq0, fi_hpa, fl_hpa, ar_hpf, fi_hpf_ne, fl_hpf_ne, ar_hpa_ne, hpa_hpa, hpf_hpf, nI_1, two_ne, fokZ, implies_true, Nat.reduceEqDiff, rc_68, g_68_14, sf_68_14, fe_68_14, g_68_24, ga_77, gn_77, sa_77, ae_77, kl_0, kl_1, kl_2, kl_3, kl_4, kl_5, kl_6, kl_7, kl_8, kl_9, kl_10, kl_11, kl_12, jb_0_10, jb_1_10, jb_2_10, jb_3_10, jb_4_10, jb_5_10, jb_6_10, jb_7_10, jb_8_10, jb_9_10, hF1.len]
    have key := down (P := fun i => ∀ H2, ∀ o4 : Option Value, Fg [76, 77] [(68, 22)] (gd H) H2 → fi H2 68 22 = allU nU → ar H2 77 = daysM R (allU nU) n nW nG nU i st → Wp scr (d + 6) 251 27 [some (.ref 68), some (.int (forN (wrF c) i (0, -1)).1), some (.int (forN (wrF c) i (0, -1)).2), some (.int (nI i)), o4] [] H2 Q) 41 ?_ ?_
    · exact key H1 none (hF1.mono (by decide) (by decide)) f1 a1
    · intro H2 o2 hF2 _ a2
      rw [w251_27]
      simp (maxDischargeDepth := 12) only [w251_0, w251_1, w251_4, w251_5, w251_8, w251_11, w251_12, w251_13, w251_16, w251_17, w251_18, w251_21, w251_22, w251_23, w251_24, w251_25, w251_26, w251_28, w251_30, w251_33, w251_34, w251_35, w251_38, w251_41, w251_44, w251_46, w251_48, w251_49, w251_52, w251_53, w251_54, w251_56, w251_57, w251_58, w251_59, w251_62, w251_65, w251_68, w251_71, w251_72, oK_some, cont_int, cont_intS, cont_none, cont_noneS, cont_long, cont_longS, true_and, and_true, false_and, and_false, true_implies, false_implies, not_true_eq_false, not_false_eq_true, eq_self, or_true, true_or, Option.isSome_some, hpf_length, hpa_length, bI_eq0, fi_hpa, fl_hpa, ar_hpf, fi_hpf_ne, fl_hpf_ne, ar_hpa_ne, hpa_hpa, hpf_hpf, nI_1, two_ne, fokZ, implies_true, Nat.reduceEqDiff, rc_68, g_68_14, sf_68_14, fe_68_14, g_68_24, ga_77, gn_77, sa_77, ae_77, kl_0, kl_1, kl_2, kl_3, kl_4, kl_5, kl_6, kl_7, kl_8, kl_9, kl_10, kl_11, kl_12, jb_0_10, jb_1_10, jb_2_10, jb_3_10, jb_4_10, jb_5_10, jb_6_10, jb_7_10, jb_8_10, jb_9_10, l40t]
      exact mr_ok hS hF2 (by decide) (by decide) (by decide) (by decide) (by decide) hQ
    · intro i hi hw H2 o2 hF2 f2 a2
      have hI2 := hI1.of hF2 (by decide) (by decide) (by decide) (by decide)
      have hs2 := hF2.shp
      rw [forN_succ] at hw
      generalize forN (wrF c) i (0, -1) = p at hw ⊢
      obtain ⟨p1, p2⟩ := p
      rw [w251_27]
      simp (maxDischargeDepth := 12) only [w251_0, w251_1, w251_4, w251_5, w251_8, w251_11, w251_12, w251_13, w251_16, w251_17, w251_18, w251_21, w251_22, w251_23, w251_24, w251_25, w251_26, w251_28, w251_30, w251_33, w251_34, w251_35, w251_38, w251_41, w251_44, w251_46, w251_48, w251_49, w251_52, w251_53, w251_54, w251_56, w251_57, w251_58, w251_59, w251_62, w251_65, w251_68, w251_71, w251_72, oK_some, cont_int, cont_intS, cont_none, cont_noneS, cont_long, cont_longS, true_and, and_true, false_and, and_false, true_implies, false_implies, not_true_eq_false, not_false_eq_true, eq_self, or_true, true_or, Option.isSome_some, hpf_length, hpa_length, bI_eq0, fi_hpa, fl_hpa, ar_hpf, fi_hpf_ne, fl_hpf_ne, ar_hpa_ne, hpa_hpa, hpf_hpf, nI_1, two_ne, fokZ, implies_true, Nat.reduceEqDiff, rc_68, g_68_14, sf_68_14, fe_68_14, g_68_24, ga_77, gn_77, sa_77, ae_77, kl_0, kl_1, kl_2, kl_3, kl_4, kl_5, kl_6, kl_7, kl_8, kl_9, kl_10, kl_11, kl_12, jb_0_10, jb_1_10, jb_2_10, jb_3_10, jb_4_10, jb_5_10, jb_6_10, jb_7_10, jb_8_10, jb_9_10, hs2, l40f hi, m_dbtT hI2, m_ones, a2, hci]
      unfold wrF at hw
      by_cases hc : p2 < c i
      · have h3 : ¬ c i ≤ p2 := by rw [Int32.not_le]; exact hc
        simp only [hc, if_true] at hw
        simp only [h3, oK_some, cont_int, cont_intS, cont_none, cont_noneS, cont_long, cont_longS, true_and, and_true, false_and, and_false, true_implies, false_implies, not_true_eq_false, not_false_eq_true, eq_self, or_true, true_or, Option.isSome_some, hpf_length, hpa_length, bI_eq0, fi_hpa, fl_hpa, ar_hpf, fi_hpf_ne, fl_hpf_ne, ar_hpa_ne, hpa_hpa, hpf_hpf, nI_1, two_ne, fokZ, implies_true, Nat.reduceEqDiff]
        refine m_dayT hI2 (fun H3 hF3 a3 => ?_)
        simp (maxDischargeDepth := 12) only [w251_0, w251_1, w251_4, w251_5, w251_8, w251_11, w251_12, w251_13, w251_16, w251_17, w251_18, w251_21, w251_22, w251_23, w251_24, w251_25, w251_26, w251_28, w251_30, w251_33, w251_34, w251_35, w251_38, w251_41, w251_44, w251_46, w251_48, w251_49, w251_52, w251_53, w251_54, w251_56, w251_57, w251_58, w251_59, w251_62, w251_65, w251_68, w251_71, w251_72, oK_some, cont_int, cont_intS, cont_none, cont_noneS, cont_long, cont_longS, true_and, and_true, false_and, and_false, true_implies, false_implies, not_true_eq_false, not_false_eq_true, eq_self, or_true, true_or, Option.isSome_some, hpf_length, hpa_length, bI_eq0, fi_hpa, fl_hpa, ar_hpf, fi_hpf_ne, fl_hpf_ne, ar_hpa_ne, hpa_hpa, hpf_hpf, nI_1, two_ne, fokZ, implies_true, Nat.reduceEqDiff, rc_68, g_68_14, sf_68_14, fe_68_14, g_68_24, ga_77, gn_77, sa_77, ae_77, kl_0, kl_1, kl_2, kl_3, kl_4, kl_5, kl_6, kl_7, kl_8, kl_9, kl_10, kl_11, kl_12, jb_0_10, jb_1_10, jb_2_10, jb_3_10, jb_4_10, jb_5_10, jb_6_10, jb_7_10, jb_8_10, jb_9_10, hF3.len]
        exact hw H3 _ (hF2.trans (hF3.mono (by decide) (by decide))) (by rw [hF3.int (by decide) (by decide), f2]) (by rw [a3, f2, a2]; rfl)
      · have h3 : c i ≤ p2 := by rw [← Int32.not_lt]; exact hc
        simp only [hc, if_false] at hw
        simp only [h3, oK_some, cont_int, cont_intS, cont_none, cont_noneS, cont_long, cont_longS, true_and, and_true, false_and, and_false, true_implies, false_implies, not_true_eq_false, not_false_eq_true, eq_self, or_true, true_or, Option.isSome_some, hpf_length, hpa_length, bI_eq0, fi_hpa, fl_hpa, ar_hpf, fi_hpf_ne, fl_hpf_ne, ar_hpa_ne, hpa_hpa, hpf_hpf, nI_1, two_ne, fokZ, implies_true, Nat.reduceEqDiff]
        refine m_dayT hI2 (fun H3 hF3 a3 => ?_)
        simp (maxDischargeDepth := 12) only [w251_0, w251_1, w251_4, w251_5, w251_8, w251_11, w251_12, w251_13, w251_16, w251_17, w251_18, w251_21, w251_22, w251_23, w251_24, w251_25, w251_26, w251_28, w251_30, w251_33, w251_34, w251_35, w251_38, w251_41, w251_44, w251_46, w251_48, w251_49, w251_52, w251_53, w251_54, w251_56, w251_57, w251_58, w251_59, w251_62, w251_65, w251_68, w251_71, w251_72, oK_some, cont_int, cont_intS, cont_none, cont_noneS, cont_long, cont_longS, true_and, and_true, false_and, and_false, true_implies, false_implies, not_true_eq_false, not_false_eq_true, eq_self, or_true, true_or, Option.isSome_some, hpf_length, hpa_length, bI_eq0, fi_hpa, fl_hpa, ar_hpf, fi_hpf_ne, fl_hpf_ne, ar_hpa_ne, hpa_hpa, hpf_hpf, nI_1, two_ne, fokZ, implies_true, Nat.reduceEqDiff, rc_68, g_68_14, sf_68_14, fe_68_14, g_68_24, ga_77, gn_77, sa_77, ae_77, kl_0, kl_1, kl_2, kl_3, kl_4, kl_5, kl_6, kl_7, kl_8, kl_9, kl_10, kl_11, kl_12, jb_0_10, jb_1_10, jb_2_10, jb_3_10, jb_4_10, jb_5_10, jb_6_10, jb_7_10, jb_8_10, jb_9_10, hF3.len]
        exact hw H3 _ (hF2.trans (hF3.mono (by decide) (by decide))) (by rw [hF3.int (by decide) (by decide), f2]) (by rw [a3, f2, a2]; rfl)
  · simp only [hp, if_false] at hQ
    simp only [hp, oK_some, cont_int, cont_intS, cont_none, cont_noneS, cont_long, cont_longS, true_and, and_true, false_and, and_false, true_implies, false_implies, not_true_eq_false, not_false_eq_true, eq_self, or_true, true_or, Option.isSome_some, hpf_length, hpa_length, bI_eq0, fi_hpa, fl_hpa, ar_hpf, fi_hpf_ne, fl_hpf_ne, ar_hpa_ne, hpa_hpa, hpf_hpf, nI_1, two_ne, fokZ, implies_true, Nat.reduceEqDiff]
    exact mr_no hS hg (gd_0 hS) hQ
theorem m_harvestBy {s : Int32} {m : Nat} (hI : MIv H R st n nS nW nG nU nN) (hm : m < 100000) (hQ : ∀ H', Fg [76, 77] [(68, 22)] H H' → Q (some (.int (forN (hvF R n (fun i => daysM R (allU nU) n nW nG nU i (wOr st s 0))) m 0))) H') : Wp scr (d + 5) 253 0 [some (.ref 68), some (.int s), some (.int (nI m)), none, none] [] H Q := by
  generalize hD : (fun i => daysM R (allU nU) n nW nG nU i (wOr st s 0)) = D at hQ
  have hDi : ∀ i, D i = daysM R (allU nU) n nW nG nU i (wOr st s 0) := fun i => by rw [← hD]
  have e7 : st.set 7 (st.getD 7 0 ||| s) = wOr st s 0 := by
    apply ext_getD
    · rw [wOr_len, List.length_set]
    · intro j hj
      unfold wOr
      rw [getD_set, getD_set, getD_set, List.length_set, Int32.or_zero, hI.l]
      by_cases h8 : 8 = j
      · subst h8; simp
      · simp [h8]
  simp only [w253_0, w253_1, rc_68 hI.shp, true_and]
  refine m_begin' hI (fun H1 hF1 a1 f1 => ?_)
  have hs1 := hF1.shp
  have hs2 : Shp (hpa H1 77 (wOr st s 0)) := sa_77 hs1 (by rw [wOr_len, hI.l])
  simp (maxDischargeDepth := 12) only [w253_0, w253_1, w253_4, w253_5, w253_8, w253_10, w253_11, w253_12, w253_13, w253_14, w253_15, w253_16, w253_17, w253_18, w253_22, w253_23, w253_26, w253_27, w253_28, w253_31, w253_34, w253_35, w253_36, w253_37, w253_40, w253_43, w253_44, w253_45, w253_48, w253_51, w253_52, oK_some, cont_int, cont_intS, cont_none, cont_noneS, cont_long, cont_longS, true_and, and_true, false_and, and_false, true_implies, false_implies, not_true_eq_false, not_false_eq_true, eq_self, or_true, true_or, Option.isSome_some, hpf_length, hpa_length, bI_eq0, fi_hpa, fl_hpa, ar_hpf, fi_hpf_ne, fl_hpf_ne, ar_hpa_ne, hpa_hpa, hpf_hpf, nI_1, two_ne, fokZ, implies_true, Nat.reduceEqDiff, rc_68, g_68_24, ga_77, gn_77, sa_77, ae_77, kl_0, kl_1, kl_2, kl_3, kl_4, kl_5, kl_6, kl_7, kl_8, kl_9, kl_10, kl_11, kl_12, jb_0_10, jb_1_10, jb_2_10, jb_3_10, jb_4_10, jb_5_10, jb_6_10, jb_7_10, jb_8_10, jb_9_10, jb_0_10, jb_1_10, jb_2_10, jb_3_10, jb_4_10, jb_5_10, jb_6_10, jb_7_10, jb_8_10, jb_9_10, hs1, a1, hF1.len, hI.l, e7]
  have F2 : Fg [76, 77] [(68, 22)] H (hpa H1 77 (wOr st s 0)) := hF1.tr (fg_hpa (F := []) (S := [77]) hs1 (by rw [gn_77 hs1, wOr_len, hI.l]) (by decide)) (by decide) (by decide) (by decide) (by decide)
  have key := down (P := fun i => ∀ H2, Fg [76, 77] [(68, 22)] H H2 → fi H2 68 22 = allU nU → ar H2 77 = D i → Wp scr (d + 5) 253 20 [some (.ref 68), some (.int s), some (.int (nI m)), some (.int (forN (hvF R n D) i 0)), some (.int (nI i))] [] H2 Q) m ?_ ?_
  · exact key _ F2 (by rw [fi_hpa, f1]) (by rw [ae_77 hs1, hDi]; rfl)
  · intro H2 hF2 _ a2
    rw [w253_20]
    simp (maxDischargeDepth := 12) only [w253_0, w253_1, w253_4, w253_5, w253_8, w253_10, w253_11, w253_12, w253_13, w253_14, w253_15, w253_16, w253_17, w253_18, w253_22, w253_23, w253_26, w253_27, w253_28, w253_31, w253_34, w253_35, w253_36, w253_37, w253_40, w253_43, w253_44, w253_45, w253_48, w253_51, w253_52, oK_some, cont_int, cont_intS, cont_none, cont_noneS, cont_long, cont_longS, true_and, and_true, false_and, and_false, true_implies, false_implies, not_true_eq_false, not_false_eq_true, eq_self, or_true, true_or, Option.isSome_some, hpf_length, hpa_length, bI_eq0, fi_hpa, fl_hpa, ar_hpf, fi_hpf_ne, fl_hpf_ne, ar_hpa_ne, hpa_hpa, hpf_hpf, nI_1, two_ne, fokZ, implies_true, Nat.reduceEqDiff, rc_68, g_68_24, ga_77, gn_77, sa_77, ae_77, kl_0, kl_1, kl_2, kl_3, kl_4, kl_5, kl_6, kl_7, kl_8, kl_9, kl_10, kl_11, kl_12, jb_0_10, jb_1_10, jb_2_10, jb_3_10, jb_4_10, jb_5_10, jb_6_10, jb_7_10, jb_8_10, jb_9_10, nI_les]
    exact hQ _ hF2
  · intro i hi hw H2 hF2 f2 a2
    have hI2 := hI.of hF2 (by decide) (by decide) (by decide) (by decide)
    have hs3 := hF2.shp
    rw [forN_succ] at hw
    generalize forN (hvF R n D) i 0 = acc at hw ⊢
    rw [w253_20]
    simp (maxDischargeDepth := 12) only [w253_0, w253_1, w253_4, w253_5, w253_8, w253_10, w253_11, w253_12, w253_13, w253_14, w253_15, w253_16, w253_17, w253_18, w253_22, w253_23, w253_26, w253_27, w253_28, w253_31, w253_34, w253_35, w253_36, w253_37, w253_40, w253_43, w253_44, w253_45, w253_48, w253_51, w253_52, oK_some, cont_int, cont_intS, cont_none, cont_noneS, cont_long, cont_longS, true_and, and_true, false_and, and_false, true_implies, false_implies, not_true_eq_false, not_false_eq_true, eq_self, or_true, true_or, Option.isSome_some, hpf_length, hpa_length, bI_eq0, fi_hpa, fl_hpa, ar_hpf, fi_hpf_ne, fl_hpf_ne, ar_hpa_ne, hpa_hpa, hpf_hpf, nI_1, two_ne, fokZ, implies_true, Nat.reduceEqDiff, rc_68, g_68_24, ga_77, gn_77, sa_77, ae_77, kl_0, kl_1, kl_2, kl_3, kl_4, kl_5, kl_6, kl_7, kl_8, kl_9, kl_10, kl_11, kl_12, jb_0_10, jb_1_10, jb_2_10, jb_3_10, jb_4_10, jb_5_10, jb_6_10, jb_7_10, jb_8_10, jb_9_10, hs3, nI_lef hi (by omega : m < 2147483648)]
    refine m_dayT hI2 (fun H3 hF3 a3 => ?_)
    have hI3 := hI2.of hF3 (by decide) (by decide) (by decide) (by decide)
    have a3' : ar H3 77 = D (i + 1) := by rw [a3, f2, a2, hDi, hDi]; rfl
    have hs4 := hF3.shp
    simp (maxDischargeDepth := 12) only [w253_0, w253_1, w253_4, w253_5, w253_8, w253_10, w253_11, w253_12, w253_13, w253_14, w253_15, w253_16, w253_17, w253_18, w253_22, w253_23, w253_26, w253_27, w253_28, w253_31, w253_34, w253_35, w253_36, w253_37, w253_40, w253_43, w253_44, w253_45, w253_48, w253_51, w253_52, oK_some, cont_int, cont_intS, cont_none, cont_noneS, cont_long, cont_longS, true_and, and_true, false_and, and_false, true_implies, false_implies, not_true_eq_false, not_false_eq_true, eq_self, or_true, true_or, Option.isSome_some, hpf_length, hpa_length, bI_eq0, fi_hpa, fl_hpa, ar_hpf, fi_hpf_ne, fl_hpf_ne, ar_hpa_ne, hpa_hpa, hpf_hpf, nI_1, two_ne, fokZ, implies_true, Nat.reduceEqDiff, rc_68, g_68_24, ga_77, gn_77, sa_77, ae_77, kl_0, kl_1, kl_2, kl_3, kl_4, kl_5, kl_6, kl_7, kl_8, kl_9, kl_10, kl_11, kl_12, jb_0_10, jb_1_10, jb_2_10, jb_3_10, jb_4_10, jb_5_10, jb_6_10, jb_7_10, jb_8_10, jb_9_10, hF3.len, hs4, m_allGrapes hs4 (by rw [hI3.2.1]; exact hI3.mn) (Or.inr rfl), a3', hI3.2.1]
    exact hw H3 (hF2.trans (hF3.mono (by decide) (by decide))) (by rw [hF3.int (by decide) (by decide), f2]) a3'
theorem M_harvest {m : Int32} (hI : MIv H R st n nS nW nG nU nN) (hQ : MR H Q (if whyF (decide (0 < n)) m 40 = 0 then forN (hvF R n (fun i => daysM R (allU nU) n nW nG nU i st)) m.toNatClampNeg 0 else -1) (whyF (decide (0 < n)) m 40)) : Wp scr (d + 6) 254 0 [some (.ref 68), some (.int m), none] [] H Q := by
  have hS := hI.shp
  have hg := gd_fg hS
  have hI1 := hI.q hg
  have hs1 := hI1.shp
  have hM1 : Mn (ar (gd H) 71) n nS nW nG nU nN := by rw [hI1.2.1]; exact hI1.mn
  have h14 := hI1.2.2.2.2
  have e73 := hI1.2.2.1
  have rgR : ∀ j, R.getD j 0 = rg R j := fun _ => rfl
  have l73 := hI1.l
  obtain ⟨c2, c3, c4, c5, c6, c7, b2, b3, b4, b5, b6, b7⟩ := hI1.mn
  simp (maxDischargeDepth := 12) only [w254_0, w254_1, w254_4, w254_5, w254_6, w254_9, w254_10, w254_12, w254_15, w254_16, w254_17, w254_20, w254_21, w254_22, w254_25, w254_28, w254_29, w254_30, w254_31, w254_34, oK_some, cont_int, cont_intS, cont_none, cont_noneS, cont_long, cont_longS, true_and, and_true, false_and, and_false, true_implies, false_implies, not_true_eq_false, not_false_eq_true, eq_self, or_true, true_or, Option.isSome_some, hpf_length, hpa_length, bI_eq0, fi_hpa, fl_hpa, ar_hpf, fi_hpf_ne, fl_hpf_ne, ar_hpa_ne, hpa_hpa, hpf_hpf, nI_1, two_ne, fokZ, implies_true, Nat.reduceEqDiff, rc_68, g_68_14, sf_68_14, fe_68_14, hS, m_good, gd_len, hs1, h14, e73, l73, hI1.2.1, rgR, hI1.lr, m_no, decide_eq_false_iff_not, gn_71, jb_7_10, jb_8_10, jb_9_10, m_why]
  by_cases hw : whyF (decide (0 < n)) m 40 = 0
  · simp only [hw, if_true] at hQ
    simp only [hw, oK_some, cont_int, cont_intS, cont_none, cont_noneS, cont_long, cont_longS, true_and, and_true, false_and, and_false, true_implies, false_implies, not_true_eq_false, not_false_eq_true, eq_self, or_true, true_or, Option.isSome_some, hpf_length, hpa_length, bI_eq0, fi_hpa, fl_hpa, ar_hpf, fi_hpf_ne, fl_hpf_ne, ar_hpa_ne, hpa_hpa, hpf_hpf, nI_1, two_ne, fokZ, implies_true, Nat.reduceEqDiff]
    obtain ⟨hk, hm⟩ := whyF_0 hw
    obtain ⟨em, lm⟩ := of_in (n := 40) hm (by omega)
    rw [em]
    refine m_harvestBy hI1 (by omega) (fun H2 hF2 => ?_)
    simp (maxDischargeDepth := 12) only [w254_0, w254_1, w254_4, w254_5, w254_6, w254_9, w254_10, w254_12, w254_15, w254_16, w254_17, w254_20, w254_21, w254_22, w254_25, w254_28, w254_29, w254_30, w254_31, w254_34, oK_some, cont_int, cont_intS, cont_none, cont_noneS, cont_long, cont_longS, true_and, and_true, false_and, and_false, true_implies, false_implies, not_true_eq_false, not_false_eq_true, eq_self, or_true, true_or, Option.isSome_some, hpf_length, hpa_length, bI_eq0, fi_hpa, fl_hpa, ar_hpf, fi_hpf_ne, fl_hpf_ne, ar_hpa_ne, hpa_hpa, hpf_hpf, nI_1, two_ne, fokZ, implies_true, Nat.reduceEqDiff, rc_68, g_68_14, sf_68_14, fe_68_14, hF2.len, wOr_0 hI1.l]
    exact mr_ok hS hF2 (by decide) (by decide) (by decide) (by decide) (by decide) hQ
  · simp only [hw, if_false] at hQ
    simp only [hw, oK_some, cont_int, cont_intS, cont_none, cont_noneS, cont_long, cont_longS, true_and, and_true, false_and, and_false, true_implies, false_implies, not_true_eq_false, not_false_eq_true, eq_self, or_true, true_or, Option.isSome_some, hpf_length, hpa_length, bI_eq0, fi_hpa, fl_hpa, ar_hpf, fi_hpf_ne, fl_hpf_ne, ar_hpa_ne, hpa_hpa, hpf_hpf, nI_1, two_ne, fokZ, implies_true, Nat.reduceEqDiff]
    exact mr_no hS hg (gd_0 hS) hQ
end MODEL8
