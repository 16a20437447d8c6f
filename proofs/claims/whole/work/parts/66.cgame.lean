/-! ===== the class: the two parties ===== -/
def sgS (nG sh taken : Nat) (m : Nat) : Nat := forN (fun i a => if taken.testBit i = true then a ||| 2 ^ flI nG sh i else a) m 0
def mBc (code m : Nat) : Nat := forN (fun i a => if code / 3 ^ i % 3 = 1 then a ||| 2 ^ i else a) m 0
theorem mBc_bit {code j : Nat} : ∀ m, (mBc code m).testBit j = (decide (j < m) && decide (code / 3 ^ j % 3 = 1))
  | 0 => by unfold mBc; rw [forN_zero]; simp
  | m + 1 => by
    have ih := mBc_bit (code := code) (j := j) m
    unfold mBc at ih ⊢
    rw [forN_succ]
    generalize forN (fun i a => if code / 3 ^ i % 3 = 1 then a ||| 2 ^ i else a) m 0 = x at ih ⊢
    by_cases e : m = j
    · subst e
      rw [decide_eq_false (Nat.lt_irrefl _), Bool.false_and] at ih
      rw [decide_eq_true (show m < m + 1 by omega), Bool.true_and]
      by_cases h : code / 3 ^ m % 3 = 1
      · rw [if_pos h, Nat.testBit_or, ih, Nat.testBit_two_pow, decide_eq_true h]; simp
      · rw [if_neg h, ih, decide_eq_false h]
    · have e2 : decide (j < m + 1) = decide (j < m) := decide_eq_decide.mpr (by omega)
      rw [e2, ← ih]
      by_cases h : code / 3 ^ m % 3 = 1
      · rw [if_pos h, Nat.testBit_or, Nat.testBit_two_pow, decide_eq_false e, Bool.or_false]
      · rw [if_neg h]
theorem mBc_lt {code m : Nat} : mBc code m < 2 ^ m := by
  rcases Nat.lt_or_ge (mBc code m) (2 ^ m) with q | q
  · exact q
  · obtain ⟨j, hj, hb⟩ := Nat.exists_ge_and_testBit_of_ge_two_pow q
    rw [mBc_bit, decide_eq_false (by omega)] at hb
    cases hb
theorem sgS_own {nG sh code : Nat} : sgS nG sh (mBc code (fcn nG sh)) (fcn nG sh) = ownC nG sh 1 code := by
  unfold sgS ownC
  refine forN_congr _ 0 (fun i hi x => ?_)
  rw [mBc_bit, decide_eq_true hi, Bool.true_and]
  by_cases h : code / 3 ^ i % 3 = 1
  · rw [if_pos h, if_pos (decide_eq_true h)]
  · rw [if_neg h, if_neg (by simpa using h)]
theorem sgS_bit {nG sh taken g : Nat} : ∀ m, (sgS nG sh taken m).testBit g = exN (fun i => taken.testBit i && decide (flI nG sh i = g)) m
  | 0 => by unfold sgS; rw [forN_zero, exN_zero]; simp
  | m + 1 => by
    have ih := sgS_bit (nG := nG) (sh := sh) (taken := taken) (g := g) m
    unfold sgS at ih ⊢
    rw [forN_succ, exN_succ, ← ih]
    cases h : taken.testBit m
    · simp
    · simp [Nat.testBit_or, Nat.testBit_two_pow]
theorem sgS_in {nG sh taken : Nat} : sgS nG sh taken (fcn nG sh) < 2 ^ nG ∧ sgS nG sh taken (fcn nG sh) &&& sh = 0 := by
  constructor
  · rcases Nat.lt_or_ge (sgS nG sh taken (fcn nG sh)) (2 ^ nG) with q | q
    · exact q
    · obtain ⟨g, hg, hb⟩ := Nat.exists_ge_and_testBit_of_ge_two_pow q
      rw [sgS_bit] at hb
      obtain ⟨i, hi, hp⟩ := List.any_eq_true.mp hb
      simp only [Bool.and_eq_true, decide_eq_true_eq] at hp
      have := (fl_mem (List.mem_range.mp hi)).1
      omega
  · apply Nat.eq_of_testBit_eq
    intro g
    rw [Nat.testBit_and, Nat.zero_testBit]
    cases hb : (sgS nG sh taken (fcn nG sh)).testBit g
    · rfl
    · rw [sgS_bit] at hb
      obtain ⟨i, hi, hp⟩ := List.any_eq_true.mp hb
      simp only [Bool.and_eq_true, decide_eq_true_eq] at hp
      rw [← hp.2, (fl_mem (List.mem_range.mp hi)).2]
      rfl
/-- the free signs are found -/
def GmF (H : List AC) (nG sh : Nat) : Prop := fi H 52 6 = nI (fcn nG sh) ∧ ∀ i, i < fcn nG sh → (ar H 54).getD i 0 = nI (flI nG sh i)
section CGAME
variable {scr : List Int32} {d n nS nW nG nU nN sh : Nat} {H : List AC} {R st Bs : List Int32} {Q : Option Value → List AC → Prop}
theorem c_findFree (hC : CIv H R st n nS nW nG nU nN) (hsh : st.getD 7 0 = nI sh) (hs : sh < 64) (hQ : ∀ H', Fg [52, 54] [] H H' → GmF H' nG sh → Q none H') : Wp scr (d + 1) 18 0 [some (.ref 52), some (.ref 30), none] [] H Q := by
  have hS := hC.shp
  have b5 := hC.1.2.1.2.2.2.2.2.2.2.2.2.1
  generalize hq : (fun g => !sh.testBit g) = q
  have hqi : ∀ g, (!sh.testBit g) = q g := fun g => by rw [← hq]
  simp (maxDischargeDepth := 12) only [w18_0, w18_1, w18_2, w18_5, w18_6, w18_8, w18_9, w18_12, w18_15, w18_18, w18_21, w18_22, w18_25, w18_26, w18_27, w18_28, w18_29, w18_32, w18_33, w18_36, w18_37, w18_40, w18_41, w18_44, w18_45, w18_46, w18_49, w18_50, w18_51, w18_54, w18_57, w18_60, oK_some, cont_int, cont_intS, cont_none, cont_noneS, cont_long, cont_longS, true_and, and_true, false_and, and_false, true_implies, false_implies, not_true_eq_false, not_false_eq_true, eq_self, or_true, true_or, Option.isSome_some, hpf_length, hpa_length, bI_eq0, fi_hpa, fl_hpa, ar_hpf, fi_hpf_ne, fl_hpf_ne, ar_hpa_ne, hpa_hpa, hpf_hpf, nI_1, two_ne, fokZ, implies_true, Nat.reduceEqDiff, g_52_6, sf_52_6, fe_52_6, g_52_0, rc_3, g_3_5, rc_10, g_16_5, rc_23, rc_4, rc_6, rc_8, rc_12, rc_14, rc_17, rc_19, rc_21, rc_25, rc_27, g_30_2, sf_30_2, fe_30_2, g_34_2, sf_34_2, fe_34_2, g_45_2, sf_45_2, fe_45_2, g_52_2, rc_53, rc_1, rc_31, rc_35, rc_37, rc_39, rc_41, rc_46, rc_48, rc_50, rc_55, rc_57, rc_59, rc_63, rc_66, hS]
  have key := down (P := fun k => ∀ H2, Fg [52, 54] [] H H2 → fi H2 52 6 = nI ((List.range k).filter q).length → (∀ i, i < ((List.range k).filter q).length → (ar H2 54).getD i 0 = nI (((List.range k).filter q).getD i 0)) → Wp scr (d + 1) 18 7 [some (.ref 52), some (.ref 30), some (.int (nI k))] [] H2 Q) nG ?_ ?_
  · exact key _ ((fr_hpf (S := [52, 54]) (ci := 2) hS rfl (by decide)).fg) (by rw [fe_52_6 hS]; rfl) (fun i hi => absurd hi (Nat.not_lt_zero _))
  · intro H2 hF2 f2 a2
    have hC2 := hC.of hF2 (by decide) (by decide)
    have hs2 := hF2.shp
    have c5' := hC2.1.2.1.2.2.2.1
    rw [w18_7]
    simp (maxDischargeDepth := 12) only [w18_0, w18_1, w18_2, w18_5, w18_6, w18_8, w18_9, w18_12, w18_15, w18_18, w18_21, w18_22, w18_25, w18_26, w18_27, w18_28, w18_29, w18_32, w18_33, w18_36, w18_37, w18_40, w18_41, w18_44, w18_45, w18_46, w18_49, w18_50, w18_51, w18_54, w18_57, w18_60, oK_some, cont_int, cont_intS, cont_none, cont_noneS, cont_long, cont_longS, true_and, and_true, false_and, and_false, true_implies, false_implies, not_true_eq_false, not_false_eq_true, eq_self, or_true, true_or, Option.isSome_some, hpf_length, hpa_length, bI_eq0, fi_hpa, fl_hpa, ar_hpf, fi_hpf_ne, fl_hpf_ne, ar_hpa_ne, hpa_hpa, hpf_hpf, nI_1, two_ne, fokZ, implies_true, Nat.reduceEqDiff, g_52_6, sf_52_6, fe_52_6, g_52_0, rc_3, g_3_5, rc_10, g_16_5, rc_23, rc_4, rc_6, rc_8, rc_12, rc_14, rc_17, rc_19, rc_21, rc_25, rc_27, g_30_2, sf_30_2, fe_30_2, g_34_2, sf_34_2, fe_34_2, g_45_2, sf_45_2, fe_45_2, g_52_2, rc_53, rc_1, rc_31, rc_35, rc_37, rc_39, rc_41, rc_46, rc_48, rc_50, rc_55, rc_57, rc_59, rc_63, rc_66, hs2, c_Table_count (g_10_2 hs2), c5', nI_les]
    refine hQ H2 hF2 ?_
    subst hq
    exact ⟨f2, a2⟩
  · intro k hk hw H2 hF2 f2 a2
    have hC2 := hC.of hF2 (by decide) (by decide)
    have hs2 := hF2.shp
    have c5' := hC2.1.2.1.2.2.2.1
    have fv := hC2.2.1.2.2.1
    have hle := fil_le (p := q) (k := k)
    have hx : (ar H2 54).length < 2147483648 := by rw [gn_54 hs2]; decide
    have ehb : hb (nI sh) (nI k) = !(q k) := by rw [hb_bt (by omega), bt_nI (by omega), ← hqi, Bool.not_not]
    rw [List.range_succ, List.filter_append] at hw
    rw [w18_7]
    simp (maxDischargeDepth := 12) only [w18_0, w18_1, w18_2, w18_5, w18_6, w18_8, w18_9, w18_12, w18_15, w18_18, w18_21, w18_22, w18_25, w18_26, w18_27, w18_28, w18_29, w18_32, w18_33, w18_36, w18_37, w18_40, w18_41, w18_44, w18_45, w18_46, w18_49, w18_50, w18_51, w18_54, w18_57, w18_60, oK_some, cont_int, cont_intS, cont_none, cont_noneS, cont_long, cont_longS, true_and, and_true, false_and, and_false, true_implies, false_implies, not_true_eq_false, not_false_eq_true, eq_self, or_true, true_or, Option.isSome_some, hpf_length, hpa_length, bI_eq0, fi_hpa, fl_hpa, ar_hpf, fi_hpf_ne, fl_hpf_ne, ar_hpa_ne, hpa_hpa, hpf_hpf, nI_1, two_ne, fokZ, implies_true, Nat.reduceEqDiff, g_52_6, sf_52_6, fe_52_6, g_52_0, rc_3, g_3_5, rc_10, g_16_5, rc_23, rc_4, rc_6, rc_8, rc_12, rc_14, rc_17, rc_19, rc_21, rc_25, rc_27, g_30_2, sf_30_2, fe_30_2, g_34_2, sf_34_2, fe_34_2, g_45_2, sf_45_2, fe_45_2, g_52_2, rc_53, rc_1, rc_31, rc_35, rc_37, rc_39, rc_41, rc_46, rc_48, rc_50, rc_55, rc_57, rc_59, rc_63, rc_66, hs2, c_Table_count (g_10_2 hs2), c5', nI_lef hk (by omega : nG < 2147483648), fv, hsh, bit_hb (show k < 32 by omega), ehb, f2]
    cases hqk : q k
    · rw [show [k].filter q = [] by simp [hqk], List.append_nil] at hw
      simp only [Bool.not_false, Bool.true_eq_false, oK_some, cont_int, cont_intS, cont_none, cont_noneS, cont_long, cont_longS, true_and, and_true, false_and, and_false, true_implies, false_implies, not_true_eq_false, not_false_eq_true, eq_self, or_true, true_or, Option.isSome_some, hpf_length, hpa_length, bI_eq0, fi_hpa, fl_hpa, ar_hpf, fi_hpf_ne, fl_hpf_ne, ar_hpa_ne, hpa_hpa, hpf_hpf, nI_1, two_ne, fokZ, implies_true, Nat.reduceEqDiff]
      exact hw H2 hF2 f2 a2
    · rw [show [k].filter q = [k] by simp [hqk], List.length_append] at hw
      simp only [Bool.not_true, oK_some, cont_int, cont_intS, cont_none, cont_noneS, cont_long, cont_longS, true_and, and_true, false_and, and_false, true_implies, false_implies, not_true_eq_false, not_false_eq_true, eq_self, or_true, true_or, Option.isSome_some, hpf_length, hpa_length, bI_eq0, fi_hpa, fl_hpa, ar_hpf, fi_hpf_ne, fl_hpf_ne, ar_hpa_ne, hpa_hpa, hpf_hpf, nI_1, two_ne, fokZ, implies_true, Nat.reduceEqDiff, c_Cells_set (g_53_0 hs2) (ga_54 hs2) hx]
      have hl54 : ∀ v, (cSet (ar H2 54) (nI ((List.range k).filter q).length) v).length = 6 := fun v => by rw [cSet_length, gn_54 hs2]
      have hs3 := fun v => sa_54 (xs := cSet (ar H2 54) (nI ((List.range k).filter q).length) v) hs2 (hl54 v)
      simp (maxDischargeDepth := 12) only [w18_0, w18_1, w18_2, w18_5, w18_6, w18_8, w18_9, w18_12, w18_15, w18_18, w18_21, w18_22, w18_25, w18_26, w18_27, w18_28, w18_29, w18_32, w18_33, w18_36, w18_37, w18_40, w18_41, w18_44, w18_45, w18_46, w18_49, w18_50, w18_51, w18_54, w18_57, w18_60, oK_some, cont_int, cont_intS, cont_none, cont_noneS, cont_long, cont_longS, true_and, and_true, false_and, and_false, true_implies, false_implies, not_true_eq_false, not_false_eq_true, eq_self, or_true, true_or, Option.isSome_some, hpf_length, hpa_length, bI_eq0, fi_hpa, fl_hpa, ar_hpf, fi_hpf_ne, fl_hpf_ne, ar_hpa_ne, hpa_hpa, hpf_hpf, nI_1, two_ne, fokZ, implies_true, Nat.reduceEqDiff, g_52_6, sf_52_6, fe_52_6, g_52_0, rc_3, g_3_5, rc_10, g_16_5, rc_23, rc_4, rc_6, rc_8, rc_12, rc_14, rc_17, rc_19, rc_21, rc_25, rc_27, g_30_2, sf_30_2, fe_30_2, g_34_2, sf_34_2, fe_34_2, g_45_2, sf_45_2, fe_45_2, g_52_2, rc_53, rc_1, rc_31, rc_35, rc_37, rc_39, rc_41, rc_46, rc_48, rc_50, rc_55, rc_57, rc_59, rc_63, rc_66, hs3, hs2, f2]
      refine hw _ ((hF2.trans (fg_hpa hs2 (by rw [cSet_length]) (by decide))).trans (fr_hpf (S := [52, 54]) (ci := 2) (hs3 _) rfl (by decide)).fg) ?_ (fun i hi => ?_)
      · rw [fe_52_6 (hs3 _)]; rfl
      · rw [ar_hpf, ae_54 hs2, cSet_getD (by omega), gn_54 hs2]
        rw [List.length_singleton] at hi
        by_cases e : ((List.range k).filter q).length = i
        · rw [if_pos ⟨e, by omega⟩, ← e, getD_appr]
        · rw [if_neg (fun z => e z.1), a2 i (by omega), getD_app (by omega)]
theorem c_weighEnds (hgo : GoC) {m : Nat} (hC : CIv H R st n nS nW nG nU nN) (hg : Gb st) (hm : m ≤ 40) (hsh : st.getD 7 0 = nI sh) (hs : sh < 64) (hG : GmF H nG sh) (hQ : ∀ H', Fg [33, 34, 36, 38, 40, 42, 56] [] H H' → (∀ t, t < 2 ^ fcn nG sh → (ar H' 56).getD t 0 = (gBs R st n nW nG nU m).getD (sgS nG sh t (fcn nG sh)) 0) → Q none H') : Wp scr (d + 5) 19 0 [some (.ref 52), some (.ref 30), some (.int (nI m)), none, none, none] [] H Q := by
  obtain ⟨c2, c3, c4, c5, c6, c7, b2, b3, b4, b5, b6, b7⟩ := id hC.1.2.1
  have hf := fcn_le (nG := nG) (x := sh)
  have hpw : 2 ^ fcn nG sh ≤ 2 ^ 6 := p2_lt (by omega)
  simp only [w19_0, w19_1]
  have key := down (P := fun t => ∀ H2, ∀ o4 o5 : Option Value, Fg [33, 34, 36, 38, 40, 42, 56] [] H H2 → (∀ u, u < t → (ar H2 56).getD u 0 = (gBs R st n nW nG nU m).getD (sgS nG sh u (fcn nG sh)) 0) → Wp scr (d + 5) 19 2 [some (.ref 52), some (.ref 30), some (.int (nI m)), some (.int (nI t)), o4, o5] [] H2 Q) (2 ^ fcn nG sh) ?_ ?_
  · exact key H none none (Fg.rfl' hC.shp) (fun u hu => absurd hu (Nat.not_lt_zero _))
  · intro H2 o4 o5 hF2 a2
    have hs2 := hF2.shp
    have g6 : fi H2 52 6 = nI (fcn nG sh) := by rw [hF2.int (by decide) (by decide), hG.1]
    rw [w19_2]
    simp (maxDischargeDepth := 12) only [w19_0, w19_1, w19_3, w19_4, w19_5, w19_8, w19_9, w19_12, w19_13, w19_15, w19_16, w19_20, w19_21, w19_24, w19_27, w19_29, w19_30, w19_32, w19_33, w19_34, w19_35, w19_36, w19_39, w19_41, w19_44, w19_45, w19_46, w19_48, w19_51, w19_54, w19_55, w19_58, w19_59, w19_61, w19_62, w19_65, w19_66, w19_69, w19_70, w19_73, w19_74, w19_77, w19_78, w19_79, w19_82, w19_85, w19_88, w19_89, w19_92, w19_95, w19_98, w19_99, w19_102, w19_105, w19_108, oK_some, cont_int, cont_intS, cont_none, cont_noneS, cont_long, cont_longS, true_and, and_true, false_and, and_false, true_implies, false_implies, not_true_eq_false, not_false_eq_true, eq_self, or_true, true_or, Option.isSome_some, hpf_length, hpa_length, bI_eq0, fi_hpa, fl_hpa, ar_hpf, fi_hpf_ne, fl_hpf_ne, ar_hpa_ne, hpa_hpa, hpf_hpf, nI_1, two_ne, fokZ, implies_true, Nat.reduceEqDiff, g_52_6, sf_52_6, fe_52_6, g_52_2, rc_53, rc_1, rc_31, rc_35, rc_37, rc_39, rc_41, rc_46, rc_48, rc_50, rc_55, rc_57, rc_59, rc_63, rc_66, g_52_1, rc_33, g_52_3, g_52_0, rc_3, g_3_2, rc_4, g_16_2, rc_17, rc_6, rc_8, rc_10, rc_12, rc_14, rc_19, rc_21, rc_23, rc_25, rc_27, hs2, g6, p2 (by omega : fcn nG sh ≤ 10), nI_les]
    exact hQ H2 hF2 a2
  · intro t ht hw H2 o4 o5 hF2 a2
    have hC2 := hC.of hF2 (by decide) (by decide)
    have hs2 := hF2.shp
    have g6 : fi H2 52 6 = nI (fcn nG sh) := by rw [hF2.int (by decide) (by decide), hG.1]
    have a54 : ar H2 54 = ar H 54 := hF2.arr (by decide)
    have hx54 : (ar H2 54).length < 2147483648 := by rw [gn_54 hs2]; decide
    rw [w19_2]
    simp (maxDischargeDepth := 12) only [w19_0, w19_1, w19_3, w19_4, w19_5, w19_8, w19_9, w19_12, w19_13, w19_15, w19_16, w19_20, w19_21, w19_24, w19_27, w19_29, w19_30, w19_32, w19_33, w19_34, w19_35, w19_36, w19_39, w19_41, w19_44, w19_45, w19_46, w19_48, w19_51, w19_54, w19_55, w19_58, w19_59, w19_61, w19_62, w19_65, w19_66, w19_69, w19_70, w19_73, w19_74, w19_77, w19_78, w19_79, w19_82, w19_85, w19_88, w19_89, w19_92, w19_95, w19_98, w19_99, w19_102, w19_105, w19_108, oK_some, cont_int, cont_intS, cont_none, cont_noneS, cont_long, cont_longS, true_and, and_true, false_and, and_false, true_implies, false_implies, not_true_eq_false, not_false_eq_true, eq_self, or_true, true_or, Option.isSome_some, hpf_length, hpa_length, bI_eq0, fi_hpa, fl_hpa, ar_hpf, fi_hpf_ne, fl_hpf_ne, ar_hpa_ne, hpa_hpa, hpf_hpf, nI_1, two_ne, fokZ, implies_true, Nat.reduceEqDiff, g_52_6, sf_52_6, fe_52_6, g_52_2, rc_53, rc_1, rc_31, rc_35, rc_37, rc_39, rc_41, rc_46, rc_48, rc_50, rc_55, rc_57, rc_59, rc_63, rc_66, g_52_1, rc_33, g_52_3, g_52_0, rc_3, g_3_2, rc_4, g_16_2, rc_17, rc_6, rc_8, rc_10, rc_12, rc_14, rc_19, rc_21, rc_23, rc_25, rc_27, hs2, g6, p2 (by omega : fcn nG sh ≤ 10), nI_lef ht (by omega : 2 ^ fcn nG sh < 2147483648)]
    have key2 := down (P := fun i => Wp scr (d + 5) 19 18 [some (.ref 52), some (.ref 30), some (.int (nI m)), some (.int (nI t)), some (.int (nI (sgS nG sh t i))), some (.int (nI i))] [] H2 Q) (fcn nG sh) ?_ ?_
    · exact key2
    · rw [w19_18]
      simp (maxDischargeDepth := 12) only [w19_0, w19_1, w19_3, w19_4, w19_5, w19_8, w19_9, w19_12, w19_13, w19_15, w19_16, w19_20, w19_21, w19_24, w19_27, w19_29, w19_30, w19_32, w19_33, w19_34, w19_35, w19_36, w19_39, w19_41, w19_44, w19_45, w19_46, w19_48, w19_51, w19_54, w19_55, w19_58, w19_59, w19_61, w19_62, w19_65, w19_66, w19_69, w19_70, w19_73, w19_74, w19_77, w19_78, w19_79, w19_82, w19_85, w19_88, w19_89, w19_92, w19_95, w19_98, w19_99, w19_102, w19_105, w19_108, oK_some, cont_int, cont_intS, cont_none, cont_noneS, cont_long, cont_longS, true_and, and_true, false_and, and_false, true_implies, false_implies, not_true_eq_false, not_false_eq_true, eq_self, or_true, true_or, Option.isSome_some, hpf_length, hpa_length, bI_eq0, fi_hpa, fl_hpa, ar_hpf, fi_hpf_ne, fl_hpf_ne, ar_hpa_ne, hpa_hpa, hpf_hpf, nI_1, two_ne, fokZ, implies_true, Nat.reduceEqDiff, g_52_6, sf_52_6, fe_52_6, g_52_2, rc_53, rc_1, rc_31, rc_35, rc_37, rc_39, rc_41, rc_46, rc_48, rc_50, rc_55, rc_57, rc_59, rc_63, rc_66, g_52_1, rc_33, g_52_3, g_52_0, rc_3, g_3_2, rc_4, g_16_2, rc_17, rc_6, rc_8, rc_10, rc_12, rc_14, rc_19, rc_21, rc_23, rc_25, rc_27, hs2, g6, nI_les]
      refine w_startWith hC2 (fun H3 hF3 hW3 => ?_)
      have hC3 := hC2.1.of hF3 (by decide) (by decide)
      have hs3 := hF3.shp
      simp (maxDischargeDepth := 12) only [w19_0, w19_1, w19_3, w19_4, w19_5, w19_8, w19_9, w19_12, w19_13, w19_15, w19_16, w19_20, w19_21, w19_24, w19_27, w19_29, w19_30, w19_32, w19_33, w19_34, w19_35, w19_36, w19_39, w19_41, w19_44, w19_45, w19_46, w19_48, w19_51, w19_54, w19_55, w19_58, w19_59, w19_61, w19_62, w19_65, w19_66, w19_69, w19_70, w19_73, w19_74, w19_77, w19_78, w19_79, w19_82, w19_85, w19_88, w19_89, w19_92, w19_95, w19_98, w19_99, w19_102, w19_105, w19_108, oK_some, cont_int, cont_intS, cont_none, cont_noneS, cont_long, cont_longS, true_and, and_true, false_and, and_false, true_implies, false_implies, not_true_eq_false, not_false_eq_true, eq_self, or_true, true_or, Option.isSome_some, hpf_length, hpa_length, bI_eq0, fi_hpa, fl_hpa, ar_hpf, fi_hpf_ne, fl_hpf_ne, ar_hpa_ne, hpa_hpa, hpf_hpf, nI_1, two_ne, fokZ, implies_true, Nat.reduceEqDiff, g_52_6, sf_52_6, fe_52_6, g_52_2, rc_53, rc_1, rc_31, rc_35, rc_37, rc_39, rc_41, rc_46, rc_48, rc_50, rc_55, rc_57, rc_59, rc_63, rc_66, g_52_1, rc_33, g_52_3, g_52_0, rc_3, g_3_2, rc_4, g_16_2, rc_17, rc_6, rc_8, rc_10, rc_12, rc_14, rc_19, rc_21, rc_23, rc_25, rc_27, hF3.len, hs3]
      refine hgo _ _ _ _ R (wOr st (nI (sgS nG sh t (fcn nG sh))) 0) (allU nU) n nS nW nG nU nN m hC3 hW3 hg.wOr hm (fun H4 hF4 h4 => ?_)
      have hC4 := hC3.of hF4 (by decide) (by decide)
      have hs4 := hF4.shp
      have c2' := hC4.2.1.1
      have hx56 : (ar H4 56).length < 2147483648 := by rw [gn_56 hs4]; decide
      simp (maxDischargeDepth := 12) only [w19_0, w19_1, w19_3, w19_4, w19_5, w19_8, w19_9, w19_12, w19_13, w19_15, w19_16, w19_20, w19_21, w19_24, w19_27, w19_29, w19_30, w19_32, w19_33, w19_34, w19_35, w19_36, w19_39, w19_41, w19_44, w19_45, w19_46, w19_48, w19_51, w19_54, w19_55, w19_58, w19_59, w19_61, w19_62, w19_65, w19_66, w19_69, w19_70, w19_73, w19_74, w19_77, w19_78, w19_79, w19_82, w19_85, w19_88, w19_89, w19_92, w19_95, w19_98, w19_99, w19_102, w19_105, w19_108, oK_some, cont_int, cont_intS, cont_none, cont_noneS, cont_long, cont_longS, true_and, and_true, false_and, and_false, true_implies, false_implies, not_true_eq_false, not_false_eq_true, eq_self, or_true, true_or, Option.isSome_some, hpf_length, hpa_length, bI_eq0, fi_hpa, fl_hpa, ar_hpf, fi_hpf_ne, fl_hpf_ne, ar_hpa_ne, hpa_hpa, hpf_hpf, nI_1, two_ne, fokZ, implies_true, Nat.reduceEqDiff, g_52_6, sf_52_6, fe_52_6, g_52_2, rc_53, rc_1, rc_31, rc_35, rc_37, rc_39, rc_41, rc_46, rc_48, rc_50, rc_55, rc_57, rc_59, rc_63, rc_66, g_52_1, rc_33, g_52_3, g_52_0, rc_3, g_3_2, rc_4, g_16_2, rc_17, rc_6, rc_8, rc_10, rc_12, rc_14, rc_19, rc_21, rc_23, rc_25, rc_27, hF4.len, hs4, w_doubting hC4 h4, c_Table_count (g_4_2 hs4), c2', c_bcD b2, c_Cells_set (g_55_0 hs4) (ga_56 hs4) hx56]
      have hF5 := (hF2.trans (hF3.mono (T := [33, 34, 36, 38, 40, 42, 56]) (G := []) (by decide) (by decide))).trans (hF4.mono (T := [33, 34, 36, 38, 40, 42, 56]) (G := []) (by decide) (by decide))
      refine hw _ _ _ (hF5.trans (fg_hpa hs4 (by rw [cSet_length]) (by decide))) (fun u hu => ?_)
      rw [ae_56 hs4, cSet_getD (by omega), gn_56 hs4]
      by_cases e : t = u
      · subst e
        obtain ⟨i1, i2⟩ := sgS_in (nG := nG) (sh := sh) (taken := t)
        have i64 : sgS nG sh t (fcn nG sh) < 64 := by
          have : 2 ^ nG ≤ 2 ^ 6 := p2_lt b5
          omega
        rw [if_pos ⟨rfl, by omega⟩]
        unfold gBs
        rw [getD_rmap i64]
        unfold gB
        rw [if_pos ⟨i1, by rw [hsh, nI_andN, i2]; rfl⟩]
      · rw [if_neg (fun z => e z.1), hF4.arr (by decide), hF3.arr (by decide), a2 u (by omega)]
    · intro i hi hw2
      have eS : sgS nG sh t (i + 1) = (if t.testBit i = true then sgS nG sh t i ||| 2 ^ flI nG sh i else sgS nG sh t i) := rfl
      rw [eS] at hw2
      have hfl := (fl_mem (nG := nG) (sh := sh) hi).1
      rw [w19_18]
      simp (maxDischargeDepth := 12) only [w19_0, w19_1, w19_3, w19_4, w19_5, w19_8, w19_9, w19_12, w19_13, w19_15, w19_16, w19_20, w19_21, w19_24, w19_27, w19_29, w19_30, w19_32, w19_33, w19_34, w19_35, w19_36, w19_39, w19_41, w19_44, w19_45, w19_46, w19_48, w19_51, w19_54, w19_55, w19_58, w19_59, w19_61, w19_62, w19_65, w19_66, w19_69, w19_70, w19_73, w19_74, w19_77, w19_78, w19_79, w19_82, w19_85, w19_88, w19_89, w19_92, w19_95, w19_98, w19_99, w19_102, w19_105, w19_108, oK_some, cont_int, cont_intS, cont_none, cont_noneS, cont_long, cont_longS, true_and, and_true, false_and, and_false, true_implies, false_implies, not_true_eq_false, not_false_eq_true, eq_self, or_true, true_or, Option.isSome_some, hpf_length, hpa_length, bI_eq0, fi_hpa, fl_hpa, ar_hpf, fi_hpf_ne, fl_hpf_ne, ar_hpa_ne, hpa_hpa, hpf_hpf, nI_1, two_ne, fokZ, implies_true, Nat.reduceEqDiff, g_52_6, sf_52_6, fe_52_6, g_52_2, rc_53, rc_1, rc_31, rc_35, rc_37, rc_39, rc_41, rc_46, rc_48, rc_50, rc_55, rc_57, rc_59, rc_63, rc_66, g_52_1, rc_33, g_52_3, g_52_0, rc_3, g_3_2, rc_4, g_16_2, rc_17, rc_6, rc_8, rc_10, rc_12, rc_14, rc_19, rc_21, rc_23, rc_25, rc_27, hs2, g6, nI_lef hi (by omega : fcn nG sh < 2147483648), c_Cells_at (g_53_0 hs2) (ga_54 hs2) hx54, cAt_nI (show i < 2147483648 by omega), a54, hG.2 i hi]
      have ebt : bt (nI t) i = t.testBit i := bt_nI (by omega)
      have hbit := and1_bt (nI t >>> (nI i &&& 31))
      have hb0 := bit_bt (x := nI t) (show i < 32 by omega)
      rw [ebt] at hb0
      cases htb : t.testBit i
      · rw [htb] at hw2 hb0
        simp only [Bool.false_eq_true, if_false] at hw2
        have hz := hb0.mpr rfl
        rw [hz]
        have hsz : (0 : Int32) <<< (nI (flI nG sh i) &&& 31) = 0 := by
          refine b_ext (fun j hj => ?_)
          rw [b_shl _ (by omega) 0 hj, b_0, b_0, Bool.and_false]
        rw [hsz, Int32.or_zero]
        exact hw2
      · rw [htb] at hw2 hb0
        simp only [if_true] at hw2
        have h1 : (nI t >>> (nI i &&& 31)) &&& 1 = 1 := by
          rcases bit01 (nI t >>> (nI i &&& 31)) with e | e
          · exact absurd (hb0.mp e) (by decide)
          · exact e
        rw [h1, p2 (by omega), nI_orN]
        exact hw2
/-- the tables of both, from a code on -/
def GmT (H : List AC) (Bs : List Int32) (nG sh code : Nat) : Prop := ∀ c, code ≤ c → c < 3 ^ fcn nG sh → (ar H 58).getD c 0 = vC Bs sh nG 0 0 c ∧ (ar H 60).getD c 0 = vC Bs sh nG 1 0 c
def GmE (H : List AC) (Bs : List Int32) (nG sh : Nat) : Prop := ∀ t, t < 2 ^ fcn nG sh → (ar H 56).getD t 0 = Bs.getD (sgS nG sh t (fcn nG sh)) 0
theorem p3_le {f : Nat} (h : f ≤ 6) : 3 ^ f ≤ 729 := Nat.pow_le_pow_right (n := 3) (by decide) h
theorem c_settleG {code : Nat} (hS : Shp H) (hG7 : nG < 7) (hs : sh < 64) (hB : ∀ k, ∃ x, x ≤ 7 ∧ Bs.getD k 0 = nI x) (hG : GmF H nG sh) (hE : GmE H Bs nG sh) (hT : GmT H Bs nG sh (code + 1)) (hc : code < 3 ^ fcn nG sh) (hQ : ∀ H', Fg [52, 58, 60] [] H H' → GmF H' nG sh → GmE H' Bs nG sh → GmT H' Bs nG sh code → fi H' 52 7 = vC Bs sh nG 1 1 code → Q none H') : Wp scr (d + 1) 20 0 [some (.ref 52), some (.int (nI code)), none, none, none, none, none, none, none, none] [] H Q := by
  have hf := fcn_le (nG := nG) (x := sh)
  have h729 := p3_le (show fcn nG sh ≤ 6 by omega)
  have hc7 : code < 729 := by omega
  obtain ⟨v01, v11, v00, v10⟩ := vC_eq (Bs := Bs) hG7 hs hB hc7
  have hx54 : (ar H 54).length < 2147483648 := by rw [gn_54 hS]; decide
  have hx56 : (ar H 56).length < 2147483648 := by rw [gn_56 hS]; decide
  have hx58 : (ar H 58).length < 2147483648 := by rw [gn_58 hS]; decide
  have hx60 : (ar H 60).length < 2147483648 := by rw [gn_60 hS]; decide
  obtain ⟨g6, g54⟩ := id hG
  simp (maxDischargeDepth := 12) only [w20_0, w20_1, w20_2, w20_3, w20_4, w20_6, w20_8, w20_9, w20_11, w20_12, w20_14, w20_15, w20_19, w20_20, w20_23, w20_26, w20_28, w20_29, w20_30, w20_32, w20_34, w20_37, w20_38, w20_39, w20_42, w20_43, w20_45, w20_46, w20_49, w20_52, w20_53, w20_55, w20_56, w20_59, w20_60, w20_61, w20_63, w20_64, w20_65, w20_68, w20_71, w20_73, w20_76, w20_78, w20_79, w20_82, w20_83, w20_84, w20_86, w20_87, w20_88, w20_89, w20_91, w20_92, w20_93, w20_95, w20_97, w20_98, w20_99, w20_101, w20_104, w20_107, w20_108, w20_111, w20_112, w20_115, w20_117, w20_118, w20_120, w20_123, w20_125, w20_127, w20_129, w20_132, w20_134, w20_135, w20_138, w20_139, w20_140, w20_142, w20_145, w20_148, w20_149, w20_152, w20_153, w20_155, w20_157, w20_160, w20_163, w20_164, w20_166, w20_169, oK_some, cont_int, cont_intS, cont_none, cont_noneS, cont_long, cont_longS, true_and, and_true, false_and, and_false, true_implies, false_implies, not_true_eq_false, not_false_eq_true, eq_self, or_true, true_or, Option.isSome_some, hpf_length, hpa_length, bI_eq0, fi_hpa, fl_hpa, ar_hpf, fi_hpf_ne, fl_hpf_ne, ar_hpa_ne, hpa_hpa, hpf_hpf, nI_1, two_ne, fokZ, implies_true, Nat.reduceEqDiff, g_52_6, sf_52_6, fe_52_6, g_52_5, rc_59, rc_1, rc_31, rc_35, rc_37, rc_39, rc_41, rc_46, rc_48, rc_50, rc_53, rc_55, rc_57, rc_63, rc_66, g_52_4, g_52_3, g_52_7, sf_52_7, fe_52_7]
  have key := down (P := fun i => ∀ o8 : Option Value, Wp scr (d + 1) 20 17 [some (.ref 52), some (.int (nI code)), some (.int (nI (mBc code i))), some (.int (oT Bs sh nG code i)), some (.int (tT Bs sh nG code i)), some (.int (nI (3 ^ i))), some (.int (nI (code / 3 ^ i))), some (.int (nI i)), o8, none] [] H Q) (fcn nG sh) ?_ ?_
  · have := key none
    simp only [Nat.pow_zero, Nat.div_one] at this
    exact this
  · intro o8
    have hmb := mBc_lt (code := code) (m := fcn nG sh)
    have ee : (ar H 56).getD (mBc code (fcn nG sh)) 0 = Bs.getD (ownC nG sh 1 code) 0 := by rw [hE _ hmb, sgS_own]
    have h64 : 2 ^ fcn nG sh ≤ 2 ^ 6 := p2_lt (by omega)
    rw [w20_17]
    simp (maxDischargeDepth := 12) only [w20_0, w20_1, w20_2, w20_3, w20_4, w20_6, w20_8, w20_9, w20_11, w20_12, w20_14, w20_15, w20_19, w20_20, w20_23, w20_26, w20_28, w20_29, w20_30, w20_32, w20_34, w20_37, w20_38, w20_39, w20_42, w20_43, w20_45, w20_46, w20_49, w20_52, w20_53, w20_55, w20_56, w20_59, w20_60, w20_61, w20_63, w20_64, w20_65, w20_68, w20_71, w20_73, w20_76, w20_78, w20_79, w20_82, w20_83, w20_84, w20_86, w20_87, w20_88, w20_89, w20_91, w20_92, w20_93, w20_95, w20_97, w20_98, w20_99, w20_101, w20_104, w20_107, w20_108, w20_111, w20_112, w20_115, w20_117, w20_118, w20_120, w20_123, w20_125, w20_127, w20_129, w20_132, w20_134, w20_135, w20_138, w20_139, w20_140, w20_142, w20_145, w20_148, w20_149, w20_152, w20_153, w20_155, w20_157, w20_160, w20_163, w20_164, w20_166, w20_169, oK_some, cont_int, cont_intS, cont_none, cont_noneS, cont_long, cont_longS, true_and, and_true, false_and, and_false, true_implies, false_implies, not_true_eq_false, not_false_eq_true, eq_self, or_true, true_or, Option.isSome_some, hpf_length, hpa_length, bI_eq0, fi_hpa, fl_hpa, ar_hpf, fi_hpf_ne, fl_hpf_ne, ar_hpa_ne, hpa_hpa, hpf_hpf, nI_1, two_ne, fokZ, implies_true, Nat.reduceEqDiff, g_52_6, sf_52_6, fe_52_6, g_52_5, rc_59, rc_1, rc_31, rc_35, rc_37, rc_39, rc_41, rc_46, rc_48, rc_50, rc_53, rc_55, rc_57, rc_63, rc_66, g_52_4, g_52_3, g_52_7, sf_52_7, fe_52_7, hS, g6, nI_les, c_Cells_at (g_55_0 hS) (ga_56 hS) hx56, cAt_nI (show mBc code (fcn nG sh) < 2147483648 by omega), ee, c_max, c_min, ← v01, ← v11, ← v00, c_Cells_set (g_57_0 hS) (ga_58 hS) hx58]
    have hs2 : Shp (hpa H 58 (cSet (ar H 58) (nI code) (vC Bs sh nG 0 0 code))) := sa_58 hS (by rw [cSet_length, gn_58 hS])
    have hx60' : (ar (hpa H 58 (cSet (ar H 58) (nI code) (vC Bs sh nG 0 0 code))) 60).length < 2147483648 := by rw [gn_60 hs2]; decide
    simp (maxDischargeDepth := 12) only [w20_0, w20_1, w20_2, w20_3, w20_4, w20_6, w20_8, w20_9, w20_11, w20_12, w20_14, w20_15, w20_19, w20_20, w20_23, w20_26, w20_28, w20_29, w20_30, w20_32, w20_34, w20_37, w20_38, w20_39, w20_42, w20_43, w20_45, w20_46, w20_49, w20_52, w20_53, w20_55, w20_56, w20_59, w20_60, w20_61, w20_63, w20_64, w20_65, w20_68, w20_71, w20_73, w20_76, w20_78, w20_79, w20_82, w20_83, w20_84, w20_86, w20_87, w20_88, w20_89, w20_91, w20_92, w20_93, w20_95, w20_97, w20_98, w20_99, w20_101, w20_104, w20_107, w20_108, w20_111, w20_112, w20_115, w20_117, w20_118, w20_120, w20_123, w20_125, w20_127, w20_129, w20_132, w20_134, w20_135, w20_138, w20_139, w20_140, w20_142, w20_145, w20_148, w20_149, w20_152, w20_153, w20_155, w20_157, w20_160, w20_163, w20_164, w20_166, w20_169, oK_some, cont_int, cont_intS, cont_none, cont_noneS, cont_long, cont_longS, true_and, and_true, false_and, and_false, true_implies, false_implies, not_true_eq_false, not_false_eq_true, eq_self, or_true, true_or, Option.isSome_some, hpf_length, hpa_length, bI_eq0, fi_hpa, fl_hpa, ar_hpf, fi_hpf_ne, fl_hpf_ne, ar_hpa_ne, hpa_hpa, hpf_hpf, nI_1, two_ne, fokZ, implies_true, Nat.reduceEqDiff, g_52_6, sf_52_6, fe_52_6, g_52_5, rc_59, rc_1, rc_31, rc_35, rc_37, rc_39, rc_41, rc_46, rc_48, rc_50, rc_53, rc_55, rc_57, rc_63, rc_66, g_52_4, g_52_3, g_52_7, sf_52_7, fe_52_7, hs2, c_min, ← v10, c_Cells_set (g_59_0 hs2) (ga_60 hs2) hx60']
    have hs3 : Shp (hpa (hpa H 58 (cSet (ar H 58) (nI code) (vC Bs sh nG 0 0 code))) 60 (cSet (ar H 60) (nI code) (vC Bs sh nG 1 0 code))) := sa_60 hs2 (by rw [cSet_length, gn_60 hS])
    simp (maxDischargeDepth := 12) only [w20_0, w20_1, w20_2, w20_3, w20_4, w20_6, w20_8, w20_9, w20_11, w20_12, w20_14, w20_15, w20_19, w20_20, w20_23, w20_26, w20_28, w20_29, w20_30, w20_32, w20_34, w20_37, w20_38, w20_39, w20_42, w20_43, w20_45, w20_46, w20_49, w20_52, w20_53, w20_55, w20_56, w20_59, w20_60, w20_61, w20_63, w20_64, w20_65, w20_68, w20_71, w20_73, w20_76, w20_78, w20_79, w20_82, w20_83, w20_84, w20_86, w20_87, w20_88, w20_89, w20_91, w20_92, w20_93, w20_95, w20_97, w20_98, w20_99, w20_101, w20_104, w20_107, w20_108, w20_111, w20_112, w20_115, w20_117, w20_118, w20_120, w20_123, w20_125, w20_127, w20_129, w20_132, w20_134, w20_135, w20_138, w20_139, w20_140, w20_142, w20_145, w20_148, w20_149, w20_152, w20_153, w20_155, w20_157, w20_160, w20_163, w20_164, w20_166, w20_169, oK_some, cont_int, cont_intS, cont_none, cont_noneS, cont_long, cont_longS, true_and, and_true, false_and, and_false, true_implies, false_implies, not_true_eq_false, not_false_eq_true, eq_self, or_true, true_or, Option.isSome_some, hpf_length, hpa_length, bI_eq0, fi_hpa, fl_hpa, ar_hpf, fi_hpf_ne, fl_hpf_ne, ar_hpa_ne, hpa_hpa, hpf_hpf, nI_1, two_ne, fokZ, implies_true, Nat.reduceEqDiff, g_52_6, sf_52_6, fe_52_6, g_52_5, rc_59, rc_1, rc_31, rc_35, rc_37, rc_39, rc_41, rc_46, rc_48, rc_50, rc_53, rc_55, rc_57, rc_63, rc_66, g_52_4, g_52_3, g_52_7, sf_52_7, fe_52_7, hs3]
    have hF : Fg [52, 58, 60] [] H (hpf (hpa (hpa H 58 (cSet (ar H 58) (nI code) (vC Bs sh nG 0 0 code))) 60 (cSet (ar H 60) (nI code) (vC Bs sh nG 1 0 code))) 52 7 (.int (vC Bs sh nG 1 1 code))) := ((fg_hpa hS (by rw [cSet_length]) (by decide)).trans (fg_hpa hs2 (by rw [cSet_length, gn_60 hs2, gn_60 hS]) (by decide))).trans (fr_hpf (S := [52, 58, 60]) (ci := 2) hs3 rfl (by decide)).fg
    refine hQ _ hF ⟨?_, fun i hi => ?_⟩ (fun t ht => ?_) (fun c h1 h2 => ⟨?_, ?_⟩) (fe_52_7 hs3)
    · rw [fi_hpf_ne (by decide), fi_hpa, fi_hpa, g6]
    · rw [hF.arr (by decide), g54 i hi]
    · rw [hF.arr (by decide), hE t ht]
    · rw [ar_hpf, ar_hpa_ne (by decide), ae_58 hS, cSet_getD (by omega), gn_58 hS]
      by_cases e : code = c
      · rw [if_pos ⟨e, by omega⟩, e]
      · rw [if_neg (fun z => e z.1), (hT c (by omega) h2).1]
    · rw [ar_hpf, ae_60 hs2, cSet_getD (by omega), gn_60 hS]
      by_cases e : code = c
      · rw [if_pos ⟨e, by omega⟩, e]
      · rw [if_neg (fun z => e z.1), (hT c (by omega) h2).2]
  · intro i hi hw o8
    have h3i : 3 ^ i ≤ 729 := p3_le (by omega)
    have hdl : code / 3 ^ i ≤ code := Nat.div_le_self _ _
    have eM : mBc code (i + 1) = (if code / 3 ^ i % 3 = 1 then mBc code i ||| 2 ^ i else mBc code i) := rfl
    have eO : oT Bs sh nG code (i + 1) = (if decide (code / 3 ^ i % 3 = 0) = true then mx (oT Bs sh nG code i) (vC Bs sh nG 1 0 (code + 3 ^ i)) else oT Bs sh nG code i) := rfl
    have eT : tT Bs sh nG code (i + 1) = (if decide (code / 3 ^ i % 3 = 0) = true then mn (tT Bs sh nG code i) (vC Bs sh nG 0 0 (code + 2 * 3 ^ i)) else tT Bs sh nG code i) := rfl
    have er : nI (code / 3 ^ i) - nI (code / 3 ^ i) / 3 * 3 = nI (code / 3 ^ i % 3) := pk_rem (a := code / 3 ^ i) (d := 3) (by omega) (by decide) (by decide)
    have edv : nI (code / 3 ^ i) / 3 = nI (code / 3 ^ (i + 1)) := by
      rw [show (3 : Int32) = nI 3 from rfl, pk_div (by omega) (by decide) (by decide), Nat.div_div_eq_div_mul, ← Nat.pow_succ]
    rw [edv] at er
    have e3 : nI (3 ^ i) * 3 = nI (3 ^ (i + 1)) := by rw [show (3 : Int32) = nI 3 from rfl, pk_mul, ← Nat.pow_succ]
    have ea1 : nI code + nI (3 ^ i) = nI (code + 3 ^ i) := nI_add _ _
    have ea2 : nI code + 2 * nI (3 ^ i) = nI (code + 2 * 3 ^ i) := by rw [show (2 : Int32) = nI 2 from rfl, pk_mul, nI_add]
    have n3 : ((3 : Int32) = 0) = False := eq_false (by decide)
    have hm3 : code / 3 ^ i % 3 < 3 := Nat.mod_lt _ (by decide)
    have z0 : (nI (code / 3 ^ i % 3) = 0) = (code / 3 ^ i % 3 = 0) := propext (nI_eq (b := 0) (by omega) (by decide))
    have z1 : (nI (code / 3 ^ i % 3) = 1) = (code / 3 ^ i % 3 = 1) := propext (nI_eq (b := 1) (by omega) (by decide))
    rw [eM, eO, eT] at hw
    rw [w20_17]
    simp (maxDischargeDepth := 12) only [w20_0, w20_1, w20_2, w20_3, w20_4, w20_6, w20_8, w20_9, w20_11, w20_12, w20_14, w20_15, w20_19, w20_20, w20_23, w20_26, w20_28, w20_29, w20_30, w20_32, w20_34, w20_37, w20_38, w20_39, w20_42, w20_43, w20_45, w20_46, w20_49, w20_52, w20_53, w20_55, w20_56, w20_59, w20_60, w20_61, w20_63, w20_64, w20_65, w20_68, w20_71, w20_73, w20_76, w20_78, w20_79, w20_82, w20_83, w20_84, w20_86, w20_87, w20_88, w20_89, w20_91, w20_92, w20_93, w20_95, w20_97, w20_98, w20_99, w20_101, w20_104, w20_107, w20_108, w20_111, w20_112, w20_115, w20_117, w20_118, w20_120, w20_123, w20_125, w20_127, w20_129, w20_132, w20_134, w20_135, w20_138, w20_139, w20_140, w20_142, w20_145, w20_148, w20_149, w20_152, w20_153, w20_155, w20_157, w20_160, w20_163, w20_164, w20_166, w20_169, oK_some, cont_int, cont_intS, cont_none, cont_noneS, cont_long, cont_longS, true_and, and_true, false_and, and_false, true_implies, false_implies, not_true_eq_false, not_false_eq_true, eq_self, or_true, true_or, Option.isSome_some, hpf_length, hpa_length, bI_eq0, fi_hpa, fl_hpa, ar_hpf, fi_hpf_ne, fl_hpf_ne, ar_hpa_ne, hpa_hpa, hpf_hpf, nI_1, two_ne, fokZ, implies_true, Nat.reduceEqDiff, g_52_6, sf_52_6, fe_52_6, g_52_5, rc_59, rc_1, rc_31, rc_35, rc_37, rc_39, rc_41, rc_46, rc_48, rc_50, rc_53, rc_55, rc_57, rc_63, rc_66, g_52_4, g_52_3, g_52_7, sf_52_7, fe_52_7, hS, g6, nI_lef hi (by omega : fcn nG sh < 2147483648), er, edv, e3, ea1, ea2, n3, z0, z1, c_Cells_at (g_57_0 hS) (ga_58 hS) hx58, c_Cells_at (g_59_0 hS) (ga_60 hS) hx60, cAt_nI (show code + 3 ^ i < 2147483648 by omega), cAt_nI (show code + 2 * 3 ^ i < 2147483648 by omega), c_max, c_min, p2 (show i ≤ 10 by omega), nI_orN]
    by_cases h0 : code / 3 ^ i % 3 = 0
    · have hlt := dg_lt (fcn nG sh) (List.mem_range.mpr (by omega)) code (List.mem_range.mpr hc) i (List.mem_range.mpr hi) h0
      have hp3 : 0 < 3 ^ i := Nat.pow_pos (by decide)
      have t1 := (hT (code + 3 ^ i) (by omega) (by omega)).2
      have t2 := (hT (code + 2 * 3 ^ i) (by omega) hlt).1
      have h1 : ¬ code / 3 ^ i % 3 = 1 := by omega
      rw [if_neg h1, decide_eq_true h0, if_pos rfl, if_pos rfl] at hw
      rw [t1, t2]
      simp only [h0, oK_some, cont_int, cont_intS, cont_none, cont_noneS, cont_long, cont_longS, true_and, and_true, false_and, and_false, true_implies, false_implies, not_true_eq_false, not_false_eq_true, eq_self, or_true, true_or, Option.isSome_some, hpf_length, hpa_length, bI_eq0, fi_hpa, fl_hpa, ar_hpf, fi_hpf_ne, fl_hpf_ne, ar_hpa_ne, hpa_hpa, hpf_hpf, nI_1, two_ne, fokZ, implies_true, Nat.reduceEqDiff]
      exact hw _
    · by_cases h1 : code / 3 ^ i % 3 = 1
      · rw [if_pos h1, decide_eq_false h0, if_neg (by decide), if_neg (by decide)] at hw
        simp only [h1, oK_some, cont_int, cont_intS, cont_none, cont_noneS, cont_long, cont_longS, true_and, and_true, false_and, and_false, true_implies, false_implies, not_true_eq_false, not_false_eq_true, eq_self, or_true, true_or, Option.isSome_some, hpf_length, hpa_length, bI_eq0, fi_hpa, fl_hpa, ar_hpf, fi_hpf_ne, fl_hpf_ne, ar_hpa_ne, hpa_hpa, hpf_hpf, nI_1, two_ne, fokZ, implies_true, Nat.reduceEqDiff, show ((1 : Nat) = 0) = False from eq_false (by decide)]
        exact hw _
      · rw [if_neg h1, decide_eq_false h0, if_neg (by decide), if_neg (by decide)] at hw
        simp only [h0, h1, oK_some, cont_int, cont_intS, cont_none, cont_noneS, cont_long, cont_longS, true_and, and_true, false_and, and_false, true_implies, false_implies, not_true_eq_false, not_false_eq_true, eq_self, or_true, true_or, Option.isSome_some, hpf_length, hpa_length, bI_eq0, fi_hpa, fl_hpa, ar_hpf, fi_hpf_ne, fl_hpf_ne, ar_hpa_ne, hpa_hpa, hpf_hpf, nI_1, two_ne, fokZ, implies_true, Nat.reduceEqDiff]
        exact hw _
theorem gBs_b {m : Nat} (hn : n ≤ 7) : ∀ k, ∃ x, x ≤ 7 ∧ (gBs R st n nW nG nU m).getD k 0 = nI x := by
  intro k
  rcases Nat.lt_or_ge k 64 with h | h
  · unfold gBs
    rw [getD_rmap h]
    unfold gB
    split
    · obtain ⟨h1, h2⟩ := ones_dbt (n := n) (ws := daysM R (allU nU) n nW nG nU m (wOr st (nI k) 0)) hn
      rw [h1, pk_sub h2]
      exact ⟨_, by omega, rfl⟩
    · exact ⟨0, by decide, rfl⟩
  · rw [getD_out (by rw [gBs_len]; exact h)]
    exact ⟨0, by decide, rfl⟩
theorem c_play (hgo : GoC) {m : Nat} (hC : CIv H R st n nS nW nG nU nN) (hg : Gb st) (hm : m ≤ 40) (hsh : st.getD 7 0 = nI sh) (hs : sh < 64) (hQ : ∀ H', Fg [33, 34, 36, 38, 40, 42, 52, 54, 56, 58, 60] [] H H' → GmF H' nG sh → GmT H' (gBs R st n nW nG nU m) nG sh 0 → fi H' 52 7 = vC (gBs R st n nW nG nU m) sh nG 1 1 0 → Q none H') : Wp scr (d + 6) 15 0 [some (.ref 52), some (.ref 30), some (.int (nI m)), none, none] [] H Q := by
  have hS := hC.shp
  obtain ⟨c2, c3, c4, c5, c6, c7, b2, b3, b4, b5, b6, b7⟩ := id hC.1.2.1
  have hf := fcn_le (nG := nG) (x := sh)
  have h729 := p3_le (show fcn nG sh ≤ 6 by omega)
  have hB := gBs_b (R := R) (st := st) (nW := nW) (nG := nG) (nU := nU) (m := m) b2
  simp (maxDischargeDepth := 12) only [w15_0, w15_1, w15_2, w15_5, w15_6, w15_7, w15_8, w15_11, w15_12, w15_13, w15_14, w15_18, w15_19, w15_22, w15_25, w15_26, w15_27, w15_28, w15_29, w15_32, w15_35, w15_36, w15_37, w15_38, w15_42, w15_45, w15_46, w15_48, w15_51, w15_54, w15_57, oK_some, cont_int, cont_intS, cont_none, cont_noneS, cont_long, cont_longS, true_and, and_true, false_and, and_false, true_implies, false_implies, not_true_eq_false, not_false_eq_true, eq_self, or_true, true_or, Option.isSome_some, hpf_length, hpa_length, bI_eq0, fi_hpa, fl_hpa, ar_hpf, fi_hpf_ne, fl_hpf_ne, ar_hpa_ne, hpa_hpa, hpf_hpf, nI_1, two_ne, fokZ, implies_true, Nat.reduceEqDiff, rc_52, g_52_6, sf_52_6, fe_52_6, hS]
  refine c_findFree hC hsh hs (fun H1 hF1 g1 => ?_)
  have hC1 := hC.of hF1 (by decide) (by decide)
  have hs1 := hF1.shp
  simp (maxDischargeDepth := 12) only [w15_0, w15_1, w15_2, w15_5, w15_6, w15_7, w15_8, w15_11, w15_12, w15_13, w15_14, w15_18, w15_19, w15_22, w15_25, w15_26, w15_27, w15_28, w15_29, w15_32, w15_35, w15_36, w15_37, w15_38, w15_42, w15_45, w15_46, w15_48, w15_51, w15_54, w15_57, oK_some, cont_int, cont_intS, cont_none, cont_noneS, cont_long, cont_longS, true_and, and_true, false_and, and_false, true_implies, false_implies, not_true_eq_false, not_false_eq_true, eq_self, or_true, true_or, Option.isSome_some, hpf_length, hpa_length, bI_eq0, fi_hpa, fl_hpa, ar_hpf, fi_hpf_ne, fl_hpf_ne, ar_hpa_ne, hpa_hpa, hpf_hpf, nI_1, two_ne, fokZ, implies_true, Nat.reduceEqDiff, rc_52, g_52_6, sf_52_6, fe_52_6, hF1.len, hs1]
  refine c_weighEnds hgo hC1 hg hm hsh hs g1 (fun H2 hF2 e2 => ?_)
  have hs2 := hF2.shp
  have g2 : GmF H2 nG sh := ⟨by rw [hF2.int (by decide) (by decide), g1.1], fun i hi => by rw [hF2.arr (by decide), g1.2 i hi]⟩
  generalize gBs R st n nW nG nU m = Bs at hQ hB e2
  have hF3 : Fg [33, 34, 36, 38, 40, 42, 52, 54, 56, 58, 60] [] H H2 := (hF1.mono (by decide) (by decide)).trans (hF2.mono (by decide) (by decide))
  simp (maxDischargeDepth := 12) only [w15_0, w15_1, w15_2, w15_5, w15_6, w15_7, w15_8, w15_11, w15_12, w15_13, w15_14, w15_18, w15_19, w15_22, w15_25, w15_26, w15_27, w15_28, w15_29, w15_32, w15_35, w15_36, w15_37, w15_38, w15_42, w15_45, w15_46, w15_48, w15_51, w15_54, w15_57, oK_some, cont_int, cont_intS, cont_none, cont_noneS, cont_long, cont_longS, true_and, and_true, false_and, and_false, true_implies, false_implies, not_true_eq_false, not_false_eq_true, eq_self, or_true, true_or, Option.isSome_some, hpf_length, hpa_length, bI_eq0, fi_hpa, fl_hpa, ar_hpf, fi_hpf_ne, fl_hpf_ne, ar_hpa_ne, hpa_hpa, hpf_hpf, nI_1, two_ne, fokZ, implies_true, Nat.reduceEqDiff, rc_52, g_52_6, sf_52_6, fe_52_6, hF2.len]
  have key := down (P := fun i => Wp scr (d + 6) 15 16 [some (.ref 52), some (.ref 30), some (.int (nI m)), some (.int (nI (3 ^ i))), some (.int (nI i))] [] H2 Q) (fcn nG sh) ?_ ?_
  · exact key
  · have hp3 : 0 < 3 ^ fcn nG sh := Nat.pow_pos (by decide)
    have e1 : nI (3 ^ fcn nG sh) - 1 = nI (3 ^ fcn nG sh - 1) := pk_sub (b := 1) hp3
    rw [w15_16]
    simp (maxDischargeDepth := 12) only [w15_0, w15_1, w15_2, w15_5, w15_6, w15_7, w15_8, w15_11, w15_12, w15_13, w15_14, w15_18, w15_19, w15_22, w15_25, w15_26, w15_27, w15_28, w15_29, w15_32, w15_35, w15_36, w15_37, w15_38, w15_42, w15_45, w15_46, w15_48, w15_51, w15_54, w15_57, oK_some, cont_int, cont_intS, cont_none, cont_noneS, cont_long, cont_longS, true_and, and_true, false_and, and_false, true_implies, false_implies, not_true_eq_false, not_false_eq_true, eq_self, or_true, true_or, Option.isSome_some, hpf_length, hpa_length, bI_eq0, fi_hpa, fl_hpa, ar_hpf, fi_hpf_ne, fl_hpf_ne, ar_hpa_ne, hpa_hpa, hpf_hpf, nI_1, two_ne, fokZ, implies_true, Nat.reduceEqDiff, rc_52, g_52_6, sf_52_6, fe_52_6, hs2, g2.1, nI_les, e1]
    -- the codes go down
    have goD : ∀ c, c < 3 ^ fcn nG sh → ∀ H4, Fg [33, 34, 36, 38, 40, 42, 52, 54, 56, 58, 60] [] H H4 → GmF H4 nG sh → GmE H4 Bs nG sh → GmT H4 Bs nG sh (c + 1) → Wp scr (d + 6) 15 40 [some (.ref 52), some (.ref 30), some (.int (nI m)), some (.int (nI (3 ^ fcn nG sh))), some (.int (nI c))] [] H4 Q := by
      intro c
      induction c with
      | zero =>
        intro hc H4 hF4 q1 q2 q3
        have hs4 := hF4.shp
        rw [w15_40]
        simp (maxDischargeDepth := 12) only [w15_0, w15_1, w15_2, w15_5, w15_6, w15_7, w15_8, w15_11, w15_12, w15_13, w15_14, w15_18, w15_19, w15_22, w15_25, w15_26, w15_27, w15_28, w15_29, w15_32, w15_35, w15_36, w15_37, w15_38, w15_42, w15_45, w15_46, w15_48, w15_51, w15_54, w15_57, oK_some, cont_int, cont_intS, cont_none, cont_noneS, cont_long, cont_longS, true_and, and_true, false_and, and_false, true_implies, false_implies, not_true_eq_false, not_false_eq_true, eq_self, or_true, true_or, Option.isSome_some, hpf_length, hpa_length, bI_eq0, fi_hpa, fl_hpa, ar_hpf, fi_hpf_ne, fl_hpf_ne, ar_hpa_ne, hpa_hpa, hpf_hpf, nI_1, two_ne, fokZ, implies_true, Nat.reduceEqDiff, rc_52, g_52_6, sf_52_6, fe_52_6, hs4, show ((nI 0 : Int32) < 0) = False from eq_false (by decide)]
        refine c_settleG hs4 (by omega) hs hB q1 q2 q3 hc (fun H5 hF5 r1 r2 r3 r4 => ?_)
        simp (maxDischargeDepth := 12) only [w15_0, w15_1, w15_2, w15_5, w15_6, w15_7, w15_8, w15_11, w15_12, w15_13, w15_14, w15_18, w15_19, w15_22, w15_25, w15_26, w15_27, w15_28, w15_29, w15_32, w15_35, w15_36, w15_37, w15_38, w15_42, w15_45, w15_46, w15_48, w15_51, w15_54, w15_57, oK_some, cont_int, cont_intS, cont_none, cont_noneS, cont_long, cont_longS, true_and, and_true, false_and, and_false, true_implies, false_implies, not_true_eq_false, not_false_eq_true, eq_self, or_true, true_or, Option.isSome_some, hpf_length, hpa_length, bI_eq0, fi_hpa, fl_hpa, ar_hpf, fi_hpf_ne, fl_hpf_ne, ar_hpa_ne, hpa_hpa, hpf_hpf, nI_1, two_ne, fokZ, implies_true, Nat.reduceEqDiff, rc_52, g_52_6, sf_52_6, fe_52_6, hF5.len]
        have em : nI 0 + (-1 : Int32) = -1 := by decide
        rw [em, w15_40]
        simp (maxDischargeDepth := 12) only [w15_0, w15_1, w15_2, w15_5, w15_6, w15_7, w15_8, w15_11, w15_12, w15_13, w15_14, w15_18, w15_19, w15_22, w15_25, w15_26, w15_27, w15_28, w15_29, w15_32, w15_35, w15_36, w15_37, w15_38, w15_42, w15_45, w15_46, w15_48, w15_51, w15_54, w15_57, oK_some, cont_int, cont_intS, cont_none, cont_noneS, cont_long, cont_longS, true_and, and_true, false_and, and_false, true_implies, false_implies, not_true_eq_false, not_false_eq_true, eq_self, or_true, true_or, Option.isSome_some, hpf_length, hpa_length, bI_eq0, fi_hpa, fl_hpa, ar_hpf, fi_hpf_ne, fl_hpf_ne, ar_hpa_ne, hpa_hpa, hpf_hpf, nI_1, two_ne, fokZ, implies_true, Nat.reduceEqDiff, rc_52, g_52_6, sf_52_6, fe_52_6, show ((-1 : Int32) < 0) = True from eq_true (by decide)]
        exact hQ H5 (hF4.trans (hF5.mono (by decide) (by decide))) r1 r3 r4
      | succ c ih =>
        intro hc H4 hF4 q1 q2 q3
        have hs4 := hF4.shp
        rw [w15_40]
        simp (maxDischargeDepth := 12) only [w15_0, w15_1, w15_2, w15_5, w15_6, w15_7, w15_8, w15_11, w15_12, w15_13, w15_14, w15_18, w15_19, w15_22, w15_25, w15_26, w15_27, w15_28, w15_29, w15_32, w15_35, w15_36, w15_37, w15_38, w15_42, w15_45, w15_46, w15_48, w15_51, w15_54, w15_57, oK_some, cont_int, cont_intS, cont_none, cont_noneS, cont_long, cont_longS, true_and, and_true, false_and, and_false, true_implies, false_implies, not_true_eq_false, not_false_eq_true, eq_self, or_true, true_or, Option.isSome_some, hpf_length, hpa_length, bI_eq0, fi_hpa, fl_hpa, ar_hpf, fi_hpf_ne, fl_hpf_ne, ar_hpa_ne, hpa_hpa, hpf_hpf, nI_1, two_ne, fokZ, implies_true, Nat.reduceEqDiff, rc_52, g_52_6, sf_52_6, fe_52_6, hs4, show ((nI (c + 1) : Int32) < 0) = False from eq_false (nI_pos (by omega))]
        refine c_settleG hs4 (by omega) hs hB q1 q2 q3 hc (fun H5 hF5 r1 r2 r3 r4 => ?_)
        simp (maxDischargeDepth := 12) only [w15_0, w15_1, w15_2, w15_5, w15_6, w15_7, w15_8, w15_11, w15_12, w15_13, w15_14, w15_18, w15_19, w15_22, w15_25, w15_26, w15_27, w15_28, w15_29, w15_32, w15_35, w15_36, w15_37, w15_38, w15_42, w15_45, w15_46, w15_48, w15_51, w15_54, w15_57, oK_some, cont_int, cont_intS, cont_none, cont_noneS, cont_long, cont_longS, true_and, and_true, false_and, and_false, true_implies, false_implies, not_true_eq_false, not_false_eq_true, eq_self, or_true, true_or, Option.isSome_some, hpf_length, hpa_length, bI_eq0, fi_hpa, fl_hpa, ar_hpf, fi_hpf_ne, fl_hpf_ne, ar_hpa_ne, hpa_hpa, hpf_hpf, nI_1, two_ne, fokZ, implies_true, Nat.reduceEqDiff, rc_52, g_52_6, sf_52_6, fe_52_6, hF5.len, pk_m1]
        exact ih (by omega) H5 (hF4.trans (hF5.mono (by decide) (by decide))) r1 r2 r3
    exact goD (3 ^ fcn nG sh - 1) (by omega) H2 hF3 g2 e2 (fun c h1 h2 => absurd h2 (by omega))
  · intro i hi hw
    have h3i : 3 ^ i ≤ 729 := p3_le (by omega)
    have e3 : nI (3 ^ i) * 3 = nI (3 ^ (i + 1)) := by rw [show (3 : Int32) = nI 3 from rfl, pk_mul, ← Nat.pow_succ]
    rw [w15_16]
    simp (maxDischargeDepth := 12) only [w15_0, w15_1, w15_2, w15_5, w15_6, w15_7, w15_8, w15_11, w15_12, w15_13, w15_14, w15_18, w15_19, w15_22, w15_25, w15_26, w15_27, w15_28, w15_29, w15_32, w15_35, w15_36, w15_37, w15_38, w15_42, w15_45, w15_46, w15_48, w15_51, w15_54, w15_57, oK_some, cont_int, cont_intS, cont_none, cont_noneS, cont_long, cont_longS, true_and, and_true, false_and, and_false, true_implies, false_implies, not_true_eq_false, not_false_eq_true, eq_self, or_true, true_or, Option.isSome_some, hpf_length, hpa_length, bI_eq0, fi_hpa, fl_hpa, ar_hpf, fi_hpf_ne, fl_hpf_ne, ar_hpa_ne, hpa_hpa, hpf_hpf, nI_1, two_ne, fokZ, implies_true, Nat.reduceEqDiff, rc_52, g_52_6, sf_52_6, fe_52_6, hs2, g2.1, nI_lef hi (by omega : fcn nG sh < 2147483648), e3]
    exact hw
theorem own_0 {w : Nat} (hw : ¬ w = 0) : ownC nG sh w 0 = 0 := by
  unfold ownC
  have : forN (fun i a => if 0 / 3 ^ i % 3 = w then a ||| 2 ^ flI nG sh i else a) (fcn nG sh) 0 = forN (fun _ a => a) (fcn nG sh) 0 := forN_congr _ 0 (fun i hi x => by
    rw [Nat.zero_div, Nat.zero_mod, if_neg (fun q => hw q.symm)])
  rw [this]
  have h3 := forN_tail (F := fun _ (a : Nat) => a) (m := 0) (x := 0) (fun _ _ _ => rfl) (fcn nG sh)
  rw [Nat.zero_add] at h3
  exact h3
theorem vC_0 {t p : Nat} : vC Bs sh nG t p 0 = vV Bs sh nG 14 0 0 t p := by
  unfold vC
  rw [own_0 (by decide), own_0 (by decide)]
theorem c_worth (hS : Shp H) (hT : GmT H Bs nG sh 0) : Wp scr (d + 1) 16 0 [some (.ref 52)] [] H Q ↔ Q (some (.int (vV Bs sh nG 14 0 0 0 0))) H := by
  have hx58 : (ar H 58).length < 2147483648 := by rw [gn_58 hS]; decide
  have hp3 : 0 < 3 ^ fcn nG sh := Nat.pow_pos (by decide)
  have e : (ar H 58).getD 0 0 = vV Bs sh nG 14 0 0 0 0 := by rw [(hT 0 (Nat.le_refl _) hp3).1, vC_0]
  have e0 : cAt (ar H 58) 0 = (ar H 58).getD 0 0 := cAt_nI (i := 0) (by decide)
  simp (maxDischargeDepth := 12) only [w16_0, w16_1, w16_4, w16_5, w16_8, oK_some, cont_int, cont_intS, cont_none, cont_noneS, cont_long, cont_longS, true_and, and_true, false_and, and_false, true_implies, false_implies, not_true_eq_false, not_false_eq_true, eq_self, or_true, true_or, Option.isSome_some, hpf_length, hpa_length, bI_eq0, fi_hpa, fl_hpa, ar_hpf, fi_hpf_ne, fl_hpf_ne, ar_hpa_ne, hpa_hpa, hpf_hpf, nI_1, two_ne, fokZ, implies_true, Nat.reduceEqDiff, g_52_4, rc_57, rc_1, rc_31, rc_35, rc_37, rc_39, rc_41, rc_46, rc_48, rc_50, rc_53, rc_55, rc_59, rc_63, rc_66, hS, c_Cells_at (g_57_0 hS) (ga_58 hS) hx58, e0, e]
theorem C_value (hgo : GoC) {m : Int32} (hC : CIv H R st n nS nW nG nU nN) (hg : Gb st) (hsh : st.getD 7 0 = nI sh) (hs : sh < 64) (hQ : CR H Q (if whyF (decide (0 < n)) m 40 = 0 then vV (gBs R st n nW nG nU m.toNatClampNeg) sh nG 14 0 0 0 0 else -1) (whyF (decide (0 < n)) m 40)) : Wp scr (d + 7) 165 0 [some (.ref 0), some (.int m)] [] H Q := by
  have hS := hC.shp
  obtain ⟨c2, c3, c4, c5, c6, c7, b2, b3, b4, b5, b6, b7⟩ := id hC.1.2.1
  have hs0 := sf_0_13 (v := 0) hS
  have hC0 := hC.tr (v := 0)
  by_cases hw : whyF (decide (0 < n)) m 40 = 0
  · rw [hw, if_pos rfl] at hQ
    obtain ⟨hk, hm⟩ := whyF_0 hw
    obtain ⟨em, lm⟩ := of_in (n := 40) hm (by omega)
    simp (maxDischargeDepth := 12) only [w165_0, w165_1, w165_2, w165_3, w165_6, w165_9, w165_10, w165_13, w165_16, w165_17, w165_18, w165_19, w165_22, w165_23, w165_26, w165_27, w165_30, w165_31, w165_34, w165_37, oK_some, cont_int, cont_intS, cont_none, cont_noneS, cont_long, cont_longS, true_and, and_true, false_and, and_false, true_implies, false_implies, not_true_eq_false, not_false_eq_true, eq_self, or_true, true_or, Option.isSome_some, hpf_length, hpa_length, bI_eq0, fi_hpa, fl_hpa, ar_hpf, fi_hpf_ne, fl_hpf_ne, ar_hpa_ne, hpa_hpa, hpf_hpf, nI_1, two_ne, fokZ, implies_true, Nat.reduceEqDiff, rc_0, g_0_13, sf_0_13, fe_0_13, g_0_9, rc_52, g_0_5, rc_30, hS, c_daysTrouble hC, hw, hs0]
    generalize m.toNatClampNeg = mm at em lm hQ
    subst em
    refine c_play hgo hC0 hg lm hsh hs (fun H2 hF2 q1 q2 q3 => ?_)
    have hs2 := hF2.shp
    simp (maxDischargeDepth := 12) only [w165_0, w165_1, w165_2, w165_3, w165_6, w165_9, w165_10, w165_13, w165_16, w165_17, w165_18, w165_19, w165_22, w165_23, w165_26, w165_27, w165_30, w165_31, w165_34, w165_37, oK_some, cont_int, cont_intS, cont_none, cont_noneS, cont_long, cont_longS, true_and, and_true, false_and, and_false, true_implies, false_implies, not_true_eq_false, not_false_eq_true, eq_self, or_true, true_or, Option.isSome_some, hpf_length, hpa_length, bI_eq0, fi_hpa, fl_hpa, ar_hpf, fi_hpf_ne, fl_hpf_ne, ar_hpa_ne, hpa_hpa, hpf_hpf, nI_1, two_ne, fokZ, implies_true, Nat.reduceEqDiff, rc_0, g_0_13, sf_0_13, fe_0_13, g_0_9, rc_52, g_0_5, rc_30, hF2.len, hs2, c_worth hs2 q2]
    exact cr_ok hS hF2 (by decide) (by decide) (by decide) (by decide) hQ
  · rw [if_neg hw] at hQ
    simp (maxDischargeDepth := 12) only [w165_0, w165_1, w165_2, w165_3, w165_6, w165_9, w165_10, w165_13, w165_16, w165_17, w165_18, w165_19, w165_22, w165_23, w165_26, w165_27, w165_30, w165_31, w165_34, w165_37, oK_some, cont_int, cont_intS, cont_none, cont_noneS, cont_long, cont_longS, true_and, and_true, false_and, and_false, true_implies, false_implies, not_true_eq_false, not_false_eq_true, eq_self, or_true, true_or, Option.isSome_some, hpf_length, hpa_length, bI_eq0, fi_hpa, fl_hpa, ar_hpf, fi_hpf_ne, fl_hpf_ne, ar_hpa_ne, hpa_hpa, hpf_hpf, nI_1, two_ne, fokZ, implies_true, Nat.reduceEqDiff, rc_0, g_0_13, sf_0_13, fe_0_13, g_0_9, rc_52, g_0_5, rc_30, hS, c_daysTrouble hC, hw]
    exact cr_no hS hQ
end CGAME
