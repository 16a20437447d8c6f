/-! ===== the Model: who doubts, what is borne, begin, goOver, sightOf ===== -/
def grpM (R ws : List Int32) (k : Nat) : Int32 := if ws.getD k 0 < 10 then mn (rg R 0) (rg R (9 + 3 * k + 2)) else rg R (9 + 3 * k + 2)
def allG (R ws : List Int32) (k : Nat) (acc : Int32) : Int32 := acc + grpM R ws k
def wOr (st : List Int32) (s u : Int32) : List Int32 := (st.set 7 (st.getD 7 0 ||| s)).set 8 (st.getD 8 0 ||| u)
theorem wOr_len {st : List Int32} {s u : Int32} : (wOr st s u).length = st.length := by unfold wOr; simp
def daysM (R : List Int32) (rum : Int32) (n nW nG nU : Nat) (m : Nat) (ws : List Int32) : List Int32 := forN (fun _ => dayM R rum n nW nG nU) m ws
theorem daysM_len {R : List Int32} {rum : Int32} {n nW nG nU : Nat} {ws : List Int32} (h : ws.length = 10) : ∀ m, (daysM R rum n nW nG nU m ws).length = 10
  | 0 => h
  | m + 1 => by unfold daysM; rw [forN]; exact dayM_len
def allU (nU : Nat) : Int32 := (1 <<< (nI nU &&& 31)) - 1
theorem cpy_all {xs ys : List Int32} {m : Nat} (h1 : xs.length = m) (h2 : ys.length = m) : cpy xs 0 ys 0 m = xs := by
  apply ext_getD
  · rw [cpy_len, h1, h2]
  · intro j hj
    rw [cpy_getD _ (by omega), if_pos (by omega), show 0 + (j - 0) = j by omega]
section MODEL4
variable {scr : List Int32} {d n nS nW nG nU nN w k : Nat} {H : List AC} {ws : List Int32} {Q : Option Value → List AC → Prop}
theorem m_doubtersOf (hS : Shp H) (hM : Mn (ar H 71) n nS nW nG nU nN) (hw : w = 73 ∨ w = 77) : Wp scr (d + 1) 230 0 [some (.ref 68), some (.ref w), none, none] [] H Q ↔ Q (some (.int (dbt n (ar H w)))) H := by
  refine Wp_iff ?_
  generalize hQ : (fun (r : Option Value) (H' : List AC) => r = some (.int (dbt n (ar H w))) ∧ H' = H) = Q1
  have c2' : (ar H 71).getD 2 0 = nI n := hM.1
  have b2 : n ≤ 7 := hM.2.2.2.2.2.2.1
  have hw0 := wrow hS hw
  simp only [w230_0, w230_1, w230_2, w230_3]
  have key := down (P := fun i => Wp scr (d + 1) 230 4 [some (.ref 68), some (.ref w), some (.int (forN (dbtF (ar H w)) i 0)), some (.int (nI i))] [] H Q1) n ?_ ?_
  · simpa [nI_0, forN] using key
  · rw [w230_4]
    simp (maxDischargeDepth := 12) only [w230_0, w230_1, w230_2, w230_3, w230_5, w230_6, w230_9, w230_10, w230_11, w230_14, w230_15, w230_16, w230_17, w230_20, w230_23, w230_24, w230_25, w230_26, w230_29, w230_30, w230_31, w230_32, w230_35, w230_38, w230_39, oK_some, cont_int, cont_intS, cont_none, cont_noneS, cont_long, cont_longS, true_and, and_true, false_and, and_false, true_implies, false_implies, not_true_eq_false, not_false_eq_true, eq_self, or_true, true_or, Option.isSome_some, hpf_length, hpa_length, bI_eq0, fi_hpa, fl_hpa, ar_hpf, fi_hpf_ne, fl_hpf_ne, ar_hpa_ne, hpa_hpa, hpf_hpf, nI_1, two_ne, fokZ, implies_true, Nat.reduceEqDiff, g_68_15, ga_71, gn_71, sa_71, ae_71, kl_0, kl_1, kl_2, kl_3, kl_4, kl_5, kl_6, kl_7, kl_8, kl_9, kl_10, kl_11, kl_12, jb_0_211, jb_1_211, jb_2_211, jb_3_211, jb_4_211, jb_5_211, jb_6_211, jb_7_211, jb_8_211, jb_9_211, jb_10_211, jb_11_211, jb_12_211, hS, c2', nI_les]
    rw [← hQ]
    exact ⟨rfl, rfl⟩
  · intro i hi hw'
    simp only [forN] at hw'
    generalize forN (dbtF (ar H w)) i 0 = acc at hw' ⊢
    rw [w230_4]
    simp (maxDischargeDepth := 12) only [w230_0, w230_1, w230_2, w230_3, w230_5, w230_6, w230_9, w230_10, w230_11, w230_14, w230_15, w230_16, w230_17, w230_20, w230_23, w230_24, w230_25, w230_26, w230_29, w230_30, w230_31, w230_32, w230_35, w230_38, w230_39, oK_some, cont_int, cont_intS, cont_none, cont_noneS, cont_long, cont_longS, true_and, and_true, false_and, and_false, true_implies, false_implies, not_true_eq_false, not_false_eq_true, eq_self, or_true, true_or, Option.isSome_some, hpf_length, hpa_length, bI_eq0, fi_hpa, fl_hpa, ar_hpf, fi_hpf_ne, fl_hpf_ne, ar_hpa_ne, hpa_hpa, hpf_hpf, nI_1, two_ne, fokZ, implies_true, Nat.reduceEqDiff, g_68_15, ga_71, gn_71, sa_71, ae_71, kl_0, kl_1, kl_2, kl_3, kl_4, kl_5, kl_6, kl_7, kl_8, kl_9, kl_10, kl_11, kl_12, jb_0_211, jb_1_211, jb_2_211, jb_3_211, jb_4_211, jb_5_211, jb_6_211, jb_7_211, jb_8_211, jb_9_211, jb_10_211, jb_11_211, jb_12_211, hS, c2', nI_lef hi (by omega : n < 2147483648), m_doubts hw0.1 hw0.2 (by omega : i < 10)]
    unfold dbtF at hw'
    rw [cAt_nI (by omega)] at hw'
    by_cases hc : (ar H w).getD i 0 < 10
    · simp only [hc, if_true] at hw'
      simp only [hc, decide_true, Bool.true_eq_false, oK_some, cont_int, cont_intS, cont_none, cont_noneS, cont_long, cont_longS, true_and, and_true, false_and, and_false, true_implies, false_implies, not_true_eq_false, not_false_eq_true, eq_self, or_true, true_or, Option.isSome_some, hpf_length, hpa_length, bI_eq0, fi_hpa, fl_hpa, ar_hpf, fi_hpf_ne, fl_hpf_ne, ar_hpa_ne, hpa_hpa, hpf_hpf, nI_1, two_ne, fokZ, implies_true, Nat.reduceEqDiff]
      exact hw'
    · simp only [hc, if_false] at hw'
      simp only [hc, decide_false, oK_some, cont_int, cont_intS, cont_none, cont_noneS, cont_long, cont_longS, true_and, and_true, false_and, and_false, true_implies, false_implies, not_true_eq_false, not_false_eq_true, eq_self, or_true, true_or, Option.isSome_some, hpf_length, hpa_length, bI_eq0, fi_hpa, fl_hpa, ar_hpf, fi_hpf_ne, fl_hpf_ne, ar_hpa_ne, hpa_hpa, hpf_hpf, nI_1, two_ne, fokZ, implies_true, Nat.reduceEqDiff, Int32.or_zero]
      exact hw'
theorem m_grapesOf (hS : Shp H) (hw : w = 73 ∨ w = 77) (hk : k < 7) : Wp scr (d + 1) 231 0 [some (.ref 68), some (.ref w), some (.int (nI k)), none] [] H Q ↔ Q (some (.int (grpM (ar H 71) (ar H w) k))) H := by
  refine Wp_iff ?_
  have hw0 := wrow hS hw
  have rgd : ∀ j, (ar H 71).getD j 0 = rg (ar H 71) j := fun _ => rfl
  simp (maxDischargeDepth := 12) only [w231_0, w231_1, w231_4, w231_6, w231_7, w231_8, w231_9, w231_10, w231_11, w231_12, w231_13, w231_14, w231_15, w231_16, w231_19, w231_22, w231_23, w231_24, w231_27, w231_28, w231_29, w231_32, w231_33, w231_36, w231_37, w231_40, w231_41, w231_42, oK_some, cont_int, cont_intS, cont_none, cont_noneS, cont_long, cont_longS, true_and, and_true, false_and, and_false, true_implies, false_implies, not_true_eq_false, not_false_eq_true, eq_self, or_true, true_or, Option.isSome_some, hpf_length, hpa_length, bI_eq0, fi_hpa, fl_hpa, ar_hpf, fi_hpf_ne, fl_hpf_ne, ar_hpa_ne, hpa_hpa, hpf_hpf, nI_1, two_ne, fokZ, implies_true, Nat.reduceEqDiff, g_68_15, ga_71, gn_71, sa_71, ae_71, kl_0, kl_1, kl_2, kl_3, kl_4, kl_5, kl_6, kl_7, kl_8, kl_9, kl_10, kl_11, kl_12, jb_0_211, jb_1_211, jb_2_211, jb_3_211, jb_4_211, jb_5_211, jb_6_211, jb_7_211, jb_8_211, jb_9_211, jb_10_211, jb_11_211, jb_12_211, hS, ixm 9 3 k (v := 9) (w := 3) rfl rfl, ixa (9 + 3 * k) 2 (v := 2) rfl, inb_nI (i := 9 + 3 * k + 2) (by omega), decide_eq_true (by omega : 9 + 3 * k + 2 < 211), nI_clamp (n := 9 + 3 * k + 2) (by omega), m_doubts hw0.1 hw0.2 (by omega : k < 10), rgd]
  unfold grpM mn
  generalize (ar H w).getD k 0 = x
  generalize rg (ar H 71) (9 + 3 * k + 2) = y
  generalize rg (ar H 71) 0 = z
  by_cases hc : x < 10
  · by_cases h2 : y < z
    · have h3 : ¬ z ≤ y := by rw [Int32.not_le]; exact h2
      simp [hc, h2, h3]
    · have h3 : z ≤ y := by rw [← Int32.not_lt]; exact h2
      simp [hc, h2, h3]
  · simp [hc]
theorem m_allGrapes (hS : Shp H) (hM : Mn (ar H 71) n nS nW nG nU nN) (hw : w = 73 ∨ w = 77) : Wp scr (d + 2) 232 0 [some (.ref 68), some (.ref w), none, none] [] H Q ↔ Q (some (.int (forN (allG (ar H 71) (ar H w)) n 0))) H := by
  refine Wp_iff ?_
  generalize hQ : (fun (r : Option Value) (H' : List AC) => r = some (.int (forN (allG (ar H 71) (ar H w)) n 0)) ∧ H' = H) = Q1
  have c2' : (ar H 71).getD 2 0 = nI n := hM.1
  have b2 : n ≤ 7 := hM.2.2.2.2.2.2.1
  simp only [w232_0, w232_1, w232_2, w232_3]
  have key := down (P := fun i => Wp scr (d + 2) 232 4 [some (.ref 68), some (.ref w), some (.int (forN (allG (ar H 71) (ar H w)) i 0)), some (.int (nI i))] [] H Q1) n ?_ ?_
  · simpa [nI_0, forN] using key
  · rw [w232_4]
    simp (maxDischargeDepth := 12) only [w232_0, w232_1, w232_2, w232_3, w232_5, w232_6, w232_9, w232_10, w232_11, w232_14, w232_15, w232_16, w232_17, w232_18, w232_21, w232_22, w232_23, w232_26, w232_29, w232_30, oK_some, cont_int, cont_intS, cont_none, cont_noneS, cont_long, cont_longS, true_and, and_true, false_and, and_false, true_implies, false_implies, not_true_eq_false, not_false_eq_true, eq_self, or_true, true_or, Option.isSome_some, hpf_length, hpa_length, bI_eq0, fi_hpa, fl_hpa, ar_hpf, fi_hpf_ne, fl_hpf_ne, ar_hpa_ne, hpa_hpa, hpf_hpf, nI_1, two_ne, fokZ, implies_true, Nat.reduceEqDiff, g_68_15, ga_71, gn_71, sa_71, ae_71, rc_68, kl_0, kl_1, kl_2, kl_3, kl_4, kl_5, kl_6, kl_7, kl_8, kl_9, kl_10, kl_11, kl_12, jb_0_211, jb_1_211, jb_2_211, jb_3_211, jb_4_211, jb_5_211, jb_6_211, jb_7_211, jb_8_211, jb_9_211, jb_10_211, jb_11_211, jb_12_211, hS, c2', nI_les]
    rw [← hQ]
    exact ⟨rfl, rfl⟩
  · intro i hi hw'
    rw [w232_4]
    simp (maxDischargeDepth := 12) only [w232_0, w232_1, w232_2, w232_3, w232_5, w232_6, w232_9, w232_10, w232_11, w232_14, w232_15, w232_16, w232_17, w232_18, w232_21, w232_22, w232_23, w232_26, w232_29, w232_30, oK_some, cont_int, cont_intS, cont_none, cont_noneS, cont_long, cont_longS, true_and, and_true, false_and, and_false, true_implies, false_implies, not_true_eq_false, not_false_eq_true, eq_self, or_true, true_or, Option.isSome_some, hpf_length, hpa_length, bI_eq0, fi_hpa, fl_hpa, ar_hpf, fi_hpf_ne, fl_hpf_ne, ar_hpa_ne, hpa_hpa, hpf_hpf, nI_1, two_ne, fokZ, implies_true, Nat.reduceEqDiff, g_68_15, ga_71, gn_71, sa_71, ae_71, rc_68, kl_0, kl_1, kl_2, kl_3, kl_4, kl_5, kl_6, kl_7, kl_8, kl_9, kl_10, kl_11, kl_12, jb_0_211, jb_1_211, jb_2_211, jb_3_211, jb_4_211, jb_5_211, jb_6_211, jb_7_211, jb_8_211, jb_9_211, jb_10_211, jb_11_211, jb_12_211, hS, c2', nI_lef hi (by omega : n < 2147483648), m_grapesOf hS hw (by omega : i < 7)]
    exact hw'
theorem m_begin (hS : Shp H) (hU : rg (ar H 71) 6 = nI nU) (hQ : ∀ H', Fg [77] [(68, 22)] H H' → ar H' 77 = ar H 73 → fi H' 68 22 = allU nU → Q none H') : Wp scr (d + 1) 233 0 [some (.ref 68)] [] H Q := by
  have hU' : (ar H 71).getD 6 0 = nI nU := hU
  simp (maxDischargeDepth := 12) only [w233_0, w233_1, w233_4, w233_5, w233_6, w233_9, w233_10, w233_12, w233_15, w233_16, w233_17, w233_18, w233_21, w233_23, w233_24, w233_25, w233_26, w233_27, w233_30, oK_some, cont_int, cont_intS, cont_none, cont_noneS, cont_long, cont_longS, true_and, and_true, false_and, and_false, true_implies, false_implies, not_true_eq_false, not_false_eq_true, eq_self, or_true, true_or, Option.isSome_some, hpf_length, hpa_length, bI_eq0, fi_hpa, fl_hpa, ar_hpf, fi_hpf_ne, fl_hpf_ne, ar_hpa_ne, hpa_hpa, hpf_hpf, nI_1, two_ne, fokZ, implies_true, Nat.reduceEqDiff, g_68_17, ga_73, gn_73, sa_73, ae_73, g_68_24, ga_77, gn_77, sa_77, ae_77, g_68_15, ga_71, gn_71, sa_71, ae_71, g_68_22, sf_68_22, fe_68_22, kl_0, kl_1, kl_2, kl_3, kl_4, kl_5, kl_6, kl_7, kl_8, kl_9, kl_10, kl_11, kl_12, jb_0_10, jb_1_10, jb_2_10, jb_3_10, jb_4_10, jb_5_10, jb_6_10, jb_7_10, jb_8_10, jb_9_10, jb_0_211, jb_1_211, jb_2_211, jb_3_211, jb_4_211, jb_5_211, jb_6_211, jb_7_211, jb_8_211, jb_9_211, jb_10_211, jb_11_211, jb_12_211, hS, gn_71, hU', m_copy (p := 0) (q := 0) (m := 10) (v1 := 0) (v2 := 0) (v3 := 10) rfl rfl rfl (ga_73 hS) (ga_77 hS) (by decide) (by rw [gn_73 hS]; decide) (by rw [gn_77 hS]; decide) (by rw [gn_73 hS]; decide) (by rw [gn_77 hS]; decide), cpy_all (gn_73 hS) (gn_77 hS), gn_73]
  have hs1 : Shp (hpa H 77 (ar H 73)) := sa_77 hS (gn_73 hS)
  refine hQ _ ((fg_hpa hS (by rw [gn_77 hS, gn_73 hS]) (by decide)).trans (fg_hpf (a := 68) (f := 22) (ci := 12) hs1 rfl (by decide))) ?_ ?_
  · rw [ar_hpf, ae_77 hS]
  · rw [fe_68_22 hs1]
    rfl
theorem m_goOver {m : Nat} {s u : Int32} (hS : Shp H) (hM : Mn (ar H 71) n nS nW nG nU nN) (hm : m < 100000) (hQ : ∀ H', Fg [76, 77] [(68, 22)] H H' → ar H' 77 = daysM (ar H 71) (allU nU) n nW nG nU m (wOr (ar H 73) s u) → Q none H') : Wp scr (d + 5) 234 0 [some (.ref 68), some (.int s), some (.int u), some (.int (nI m)), none] [] H Q := by
  simp only [w234_0, w234_1, rc_68 hS, true_and]
  refine m_begin hS hM.2.2.2.2.1 (fun H1 hF1 a1 f1 => ?_)
  have hs1 := hF1.shp
  have hs2 : Shp (hpa H1 77 (wOr (ar H 73) s u)) := sa_77 hs1 (by rw [wOr_len, gn_73 hS])
  simp (maxDischargeDepth := 12) only [w234_0, w234_1, w234_4, w234_5, w234_8, w234_10, w234_11, w234_12, w234_13, w234_14, w234_15, w234_16, w234_19, w234_21, w234_22, w234_23, w234_24, w234_25, w234_26, w234_27, w234_31, w234_32, w234_35, w234_36, w234_37, w234_40, w234_43, w234_46, w234_49, oK_some, cont_int, cont_intS, cont_none, cont_noneS, cont_long, cont_longS, true_and, and_true, false_and, and_false, true_implies, false_implies, not_true_eq_false, not_false_eq_true, eq_self, or_true, true_or, Option.isSome_some, hpf_length, hpa_length, bI_eq0, fi_hpa, fl_hpa, ar_hpf, fi_hpf_ne, fl_hpf_ne, ar_hpa_ne, hpa_hpa, hpf_hpf, nI_1, two_ne, fokZ, implies_true, Nat.reduceEqDiff, rc_68, g_68_24, ga_77, gn_77, sa_77, ae_77, kl_0, kl_1, kl_2, kl_3, kl_4, kl_5, kl_6, kl_7, kl_8, kl_9, kl_10, kl_11, kl_12, jb_0_10, jb_1_10, jb_2_10, jb_3_10, jb_4_10, jb_5_10, jb_6_10, jb_7_10, jb_8_10, jb_9_10, jb_0_10, jb_1_10, jb_2_10, jb_3_10, jb_4_10, jb_5_10, jb_6_10, jb_7_10, jb_8_10, jb_9_10, hs1, a1, hF1.len, gn_73 hS, List.length_set, gn_73, hS, getD_set]
  simp only [if_false]
  rw [show ((ar H 73).set 7 ((ar H 73).getD 7 0 ||| s)).set 8 ((ar H 73).getD 8 0 ||| u) = wOr (ar H 73) s u from rfl]
  have e71 : ar (hpa H1 77 (wOr (ar H 73) s u)) 71 = ar H 71 := by rw [ar_hpa_ne (by decide), hF1.arr (by decide)]
  have F2 : Fg [76, 77] [(68, 22)] H (hpa H1 77 (wOr (ar H 73) s u)) := hF1.tr (fg_hpa (F := []) (S := [77]) hs1 (by rw [gn_77 hs1, wOr_len, gn_73 hS]) (by decide)) (by decide) (by decide) (by decide) (by decide)
  have key := down (P := fun i => ∀ H2, Fg [76, 77] [(68, 22)] H H2 → fi H2 68 22 = allU nU → ar H2 77 = daysM (ar H 71) (allU nU) n nW nG nU i (wOr (ar H 73) s u) → Wp scr (d + 5) 234 29 [some (.ref 68), some (.int s), some (.int u), some (.int (nI m)), some (.int (nI i))] [] H2 Q) m ?_ ?_
  · exact key _ F2 (by rw [fi_hpa, f1]) (by rw [ae_77 hs1]; rfl)
  · intro H2 hF2 _ a2
    rw [w234_29]
    simp (maxDischargeDepth := 12) only [w234_0, w234_1, w234_4, w234_5, w234_8, w234_10, w234_11, w234_12, w234_13, w234_14, w234_15, w234_16, w234_19, w234_21, w234_22, w234_23, w234_24, w234_25, w234_26, w234_27, w234_31, w234_32, w234_35, w234_36, w234_37, w234_40, w234_43, w234_46, w234_49, oK_some, cont_int, cont_intS, cont_none, cont_noneS, cont_long, cont_longS, true_and, and_true, false_and, and_false, true_implies, false_implies, not_true_eq_false, not_false_eq_true, eq_self, or_true, true_or, Option.isSome_some, hpf_length, hpa_length, bI_eq0, fi_hpa, fl_hpa, ar_hpf, fi_hpf_ne, fl_hpf_ne, ar_hpa_ne, hpa_hpa, hpf_hpf, nI_1, two_ne, fokZ, implies_true, Nat.reduceEqDiff, rc_68, g_68_24, ga_77, gn_77, sa_77, ae_77, kl_0, kl_1, kl_2, kl_3, kl_4, kl_5, kl_6, kl_7, kl_8, kl_9, kl_10, kl_11, kl_12, jb_0_10, jb_1_10, jb_2_10, jb_3_10, jb_4_10, jb_5_10, jb_6_10, jb_7_10, jb_8_10, jb_9_10, nI_les]
    exact hQ _ hF2 a2
  · intro i hi hw H2 hF2 f2 a2
    have hs3 := hF2.shp
    have e3 : ar H2 71 = ar H 71 := hF2.arr (by decide)
    rw [w234_29]
    simp (maxDischargeDepth := 12) only [w234_0, w234_1, w234_4, w234_5, w234_8, w234_10, w234_11, w234_12, w234_13, w234_14, w234_15, w234_16, w234_19, w234_21, w234_22, w234_23, w234_24, w234_25, w234_26, w234_27, w234_31, w234_32, w234_35, w234_36, w234_37, w234_40, w234_43, w234_46, w234_49, oK_some, cont_int, cont_intS, cont_none, cont_noneS, cont_long, cont_longS, true_and, and_true, false_and, and_false, true_implies, false_implies, not_true_eq_false, not_false_eq_true, eq_self, or_true, true_or, Option.isSome_some, hpf_length, hpa_length, bI_eq0, fi_hpa, fl_hpa, ar_hpf, fi_hpf_ne, fl_hpf_ne, ar_hpa_ne, hpa_hpa, hpf_hpf, nI_1, two_ne, fokZ, implies_true, Nat.reduceEqDiff, rc_68, g_68_24, ga_77, gn_77, sa_77, ae_77, kl_0, kl_1, kl_2, kl_3, kl_4, kl_5, kl_6, kl_7, kl_8, kl_9, kl_10, kl_11, kl_12, jb_0_10, jb_1_10, jb_2_10, jb_3_10, jb_4_10, jb_5_10, jb_6_10, jb_7_10, jb_8_10, jb_9_10, hs3, nI_lef hi (by omega : m < 2147483648)]
    refine m_dayOf hs3 (by rw [e3]; exact hM) (Or.inr rfl) (fun H3 hF3 a3 => ?_)
    simp (maxDischargeDepth := 12) only [w234_0, w234_1, w234_4, w234_5, w234_8, w234_10, w234_11, w234_12, w234_13, w234_14, w234_15, w234_16, w234_19, w234_21, w234_22, w234_23, w234_24, w234_25, w234_26, w234_27, w234_31, w234_32, w234_35, w234_36, w234_37, w234_40, w234_43, w234_46, w234_49, oK_some, cont_int, cont_intS, cont_none, cont_noneS, cont_long, cont_longS, true_and, and_true, false_and, and_false, true_implies, false_implies, not_true_eq_false, not_false_eq_true, eq_self, or_true, true_or, Option.isSome_some, hpf_length, hpa_length, bI_eq0, fi_hpa, fl_hpa, ar_hpf, fi_hpf_ne, fl_hpf_ne, ar_hpa_ne, hpa_hpa, hpf_hpf, nI_1, two_ne, fokZ, implies_true, Nat.reduceEqDiff, rc_68, g_68_24, ga_77, gn_77, sa_77, ae_77, kl_0, kl_1, kl_2, kl_3, kl_4, kl_5, kl_6, kl_7, kl_8, kl_9, kl_10, kl_11, kl_12, jb_0_10, jb_1_10, jb_2_10, jb_3_10, jb_4_10, jb_5_10, jb_6_10, jb_7_10, jb_8_10, jb_9_10, hF3.1]
    refine hw H3 (hF2.trans ((hF3.fg (F := [])).mono (by decide) (by decide))) (by rw [hF3.int (by decide), f2]) ?_
    rw [a3, e3, f2, a2]
    rfl
end MODEL4
