/-! ===== the class: days ahead; what is looked up while reading ===== -/
theorem goC : GoC := by
  intro scr d H Q R ws rum n nS nW nG nU nN m hC hW hg hm hQ
  simp only [w106_0, w106_1]
  have key := down (P := fun i => ∀ H2, Fg [34, 36, 38, 40, 42] [] H H2 → Wk H2 (daysM R rum n nW nG nU i ws) rum n nS nW → Wp scr (d + 4) 106 2 [some (.ref 33), some (.int (nI m)), some (.int (nI i))] [] H2 Q) m ?_ ?_
  · exact key H (Fg.rfl' hC.shp) hW
  · intro H2 hF2 hW2
    rw [w106_2]
    simp (maxDischargeDepth := 12) only [w106_0, w106_1, w106_3, w106_4, w106_7, w106_8, w106_11, w106_12, w106_15, w106_18, oK_some, cont_int, cont_intS, cont_none, cont_noneS, cont_long, cont_longS, true_and, and_true, false_and, and_false, true_implies, false_implies, not_true_eq_false, not_false_eq_true, eq_self, or_true, true_or, Option.isSome_some, hpf_length, hpa_length, bI_eq0, fi_hpa, fl_hpa, ar_hpf, fi_hpf_ne, fl_hpf_ne, ar_hpa_ne, hpa_hpa, hpf_hpf, nI_1, two_ne, fokZ, implies_true, Nat.reduceEqDiff, rc_33, nI_les]
    exact hQ H2 hF2 (fun i hi => hW2.1.1 i hi)
  · intro i hi hw H2 hF2 hW2
    have hC2 := hC.of hF2 (by decide) (by decide)
    have hs2 := hF2.shp
    rw [w106_2]
    simp (maxDischargeDepth := 12) only [w106_0, w106_1, w106_3, w106_4, w106_7, w106_8, w106_11, w106_12, w106_15, w106_18, oK_some, cont_int, cont_intS, cont_none, cont_noneS, cont_long, cont_longS, true_and, and_true, false_and, and_false, true_implies, false_implies, not_true_eq_false, not_false_eq_true, eq_self, or_true, true_or, Option.isSome_some, hpf_length, hpa_length, bI_eq0, fi_hpa, fl_hpa, ar_hpf, fi_hpf_ne, fl_hpf_ne, ar_hpa_ne, hpa_hpa, hpf_hpf, nI_1, two_ne, fokZ, implies_true, Nat.reduceEqDiff, rc_33, hs2, nI_lef hi (by omega : m < 2147483648)]
    refine w_pass hC2 hW2 (fun H3 hF3 hW3 => ?_)
    simp (maxDischargeDepth := 12) only [w106_0, w106_1, w106_3, w106_4, w106_7, w106_8, w106_11, w106_12, w106_15, w106_18, oK_some, cont_int, cont_intS, cont_none, cont_noneS, cont_long, cont_longS, true_and, and_true, false_and, and_false, true_implies, false_implies, not_true_eq_false, not_false_eq_true, eq_self, or_true, true_or, Option.isSome_some, hpf_length, hpa_length, bI_eq0, fi_hpa, fl_hpa, ar_hpf, fi_hpf_ne, fl_hpf_ne, ar_hpa_ne, hpa_hpa, hpf_hpf, nI_1, two_ne, fokZ, implies_true, Nat.reduceEqDiff, rc_33, hF3.len]
    exact hw H3 (hF2.trans hF3) hW3
def sOn (ss : List Int32) (m : Nat) (x y : Int32) : Int32 := fnd (fun s => decide (tg ss s 0 = x) && decide (tg ss s 1 = y)) m (-1)
def sdB (sd : List Int32) (m : Nat) (x y : Int32) : Bool := exN (fun s => decide (tg sd s 0 = x) && decide (tg sd s 3 = y)) m
section LOOK
variable {scr : List Int32} {d : Nat} {H : List AC} {Q : Option Value → List AC → Prop}
theorem c_sightOf {sl t b m : Nat} {xs : List Int32} {x y : Int32} (h1 : gfl H sl 6 3 = some (.ref t)) (h2 : gfl H t 9 1 = some (.ref b)) (h3 : gfl H t 9 2 = some (.int (nI m))) (h4 : garr H b = some xs) (hx : xs.length < 2147483648) (hm : m < 100000) : Wp scr (d + 1) 63 0 [some (.ref sl), some (.int x), some (.int y), none] [] H Q ↔ Q (some (.int (sOn xs m x y))) H := by
  refine Wp_iff ?_
  generalize hQ : (fun (r : Option Value) (H' : List AC) => r = some (.int (sOn xs m x y)) ∧ H' = H) = Q1
  simp only [w63_0, w63_1]
  have key := down (P := fun i => (∀ j, j < i → (decide (tg xs j 0 = x) && decide (tg xs j 1 = y)) = false) → Wp scr (d + 1) 63 2 [some (.ref sl), some (.int x), some (.int y), some (.int (nI i))] [] H Q1) m ?_ ?_
  · exact key (fun j hj => absurd hj (Nat.not_lt_zero _))
  · intro hno
    rw [w63_2]
    simp only [w63_0, w63_1, w63_3, w63_4, w63_7, w63_10, w63_13, w63_14, w63_17, w63_18, w63_19, w63_22, w63_23, w63_26, w63_27, w63_30, w63_31, w63_32, w63_35, w63_36, w63_39, w63_40, w63_41, w63_44, w63_47, w63_48, oK_some, cont_int, cont_intS, cont_none, cont_noneS, cont_long, cont_longS, true_and, and_true, false_and, and_false, true_implies, false_implies, not_true_eq_false, not_false_eq_true, eq_self, or_true, true_or, Option.isSome_some, hpf_length, hpa_length, bI_eq0, fi_hpa, fl_hpa, ar_hpf, fi_hpf_ne, fl_hpf_ne, ar_hpa_ne, hpa_hpa, hpf_hpf, nI_1, two_ne, fokZ, implies_true, Nat.reduceEqDiff, h1, rcv_of h2, c_Table_count h3, nI_les]
    rw [← hQ]
    unfold sOn
    rw [fnd_miss hno]
    exact ⟨rfl, rfl⟩
  · intro i hi hw hno
    have go : (decide (tg xs i 0 = x) && decide (tg xs i 1 = y)) = false → Wp scr (d + 1) 63 2 [some (.ref sl), some (.int x), some (.int y), some (.int (nI (i + 1)))] [] H Q1 := fun hf => hw (fun j hj => by
      rcases Nat.lt_or_ge j i with q | q
      · exact hno j q
      · rw [show j = i by omega]; exact hf)
    rw [w63_2]
    simp only [w63_0, w63_1, w63_3, w63_4, w63_7, w63_10, w63_13, w63_14, w63_17, w63_18, w63_19, w63_22, w63_23, w63_26, w63_27, w63_30, w63_31, w63_32, w63_35, w63_36, w63_39, w63_40, w63_41, w63_44, w63_47, w63_48, oK_some, cont_int, cont_intS, cont_none, cont_noneS, cont_long, cont_longS, true_and, and_true, false_and, and_false, true_implies, false_implies, not_true_eq_false, not_false_eq_true, eq_self, or_true, true_or, Option.isSome_some, hpf_length, hpa_length, bI_eq0, fi_hpa, fl_hpa, ar_hpf, fi_hpf_ne, fl_hpf_ne, ar_hpa_ne, hpa_hpa, hpf_hpf, nI_1, two_ne, fokZ, implies_true, Nat.reduceEqDiff, h1, rcv_of h2, c_Table_count h3, nI_lef hi (by omega : m < 2147483648), c_Table_at h2 h4 hx, tg_eq (xs := xs) (i := i) 0 (v := 0) (by omega) (by decide) rfl, tg_eq (xs := xs) (i := i) 1 (v := 1) (by omega) (by decide) rfl]
    by_cases hc : tg xs i 0 = x
    · by_cases he : tg xs i 1 = y
      · simp only [hc, he, oK_some, cont_int, cont_intS, cont_none, cont_noneS, cont_long, cont_longS, true_and, and_true, false_and, and_false, true_implies, false_implies, not_true_eq_false, not_false_eq_true, eq_self, or_true, true_or, Option.isSome_some, hpf_length, hpa_length, bI_eq0, fi_hpa, fl_hpa, ar_hpf, fi_hpf_ne, fl_hpf_ne, ar_hpa_ne, hpa_hpa, hpf_hpf, nI_1, two_ne, fokZ, implies_true, Nat.reduceEqDiff]
        rw [← hQ]
        unfold sOn
        rw [fnd_hit hi (by rw [decide_eq_true hc, decide_eq_true he]; rfl) hno]
        exact ⟨rfl, rfl⟩
      · simp only [hc, he, oK_some, cont_int, cont_intS, cont_none, cont_noneS, cont_long, cont_longS, true_and, and_true, false_and, and_false, true_implies, false_implies, not_true_eq_false, not_false_eq_true, eq_self, or_true, true_or, Option.isSome_some, hpf_length, hpa_length, bI_eq0, fi_hpa, fl_hpa, ar_hpf, fi_hpf_ne, fl_hpf_ne, ar_hpa_ne, hpa_hpa, hpf_hpf, nI_1, two_ne, fokZ, implies_true, Nat.reduceEqDiff]
        exact go (by rw [decide_eq_false he, Bool.and_false])
    · simp only [hc, oK_some, cont_int, cont_intS, cont_none, cont_noneS, cont_long, cont_longS, true_and, and_true, false_and, and_false, true_implies, false_implies, not_true_eq_false, not_false_eq_true, eq_self, or_true, true_or, Option.isSome_some, hpf_length, hpa_length, bI_eq0, fi_hpa, fl_hpa, ar_hpf, fi_hpf_ne, fl_hpf_ne, ar_hpa_ne, hpa_hpa, hpf_hpf, nI_1, two_ne, fokZ, implies_true, Nat.reduceEqDiff]
      exact go (by rw [decide_eq_false hc, Bool.false_and])
theorem c_isSaid {sl t b m : Nat} {xs : List Int32} {x y : Int32} (h1 : gfl H sl 6 7 = some (.ref t)) (h2 : gfl H t 9 1 = some (.ref b)) (h3 : gfl H t 9 2 = some (.int (nI m))) (h4 : garr H b = some xs) (hx : xs.length < 2147483648) (hm : m < 100000) : Wp scr (d + 1) 65 0 [some (.ref sl), some (.int x), some (.int y), none] [] H Q ↔ Q (some (.int (bI (sdB xs m x y)))) H := by
  refine Wp_iff ?_
  generalize hQ : (fun (r : Option Value) (H' : List AC) => r = some (.int (bI (sdB xs m x y))) ∧ H' = H) = Q1
  simp only [w65_0, w65_1]
  have key := down (P := fun i => (∀ j, j < i → (decide (tg xs j 0 = x) && decide (tg xs j 3 = y)) = false) → Wp scr (d + 1) 65 2 [some (.ref sl), some (.int x), some (.int y), some (.int (nI i))] [] H Q1) m ?_ ?_
  · exact key (fun j hj => absurd hj (Nat.not_lt_zero _))
  · intro hno
    rw [w65_2]
    simp only [w65_0, w65_1, w65_3, w65_4, w65_7, w65_10, w65_13, w65_14, w65_17, w65_18, w65_19, w65_22, w65_23, w65_26, w65_27, w65_30, w65_31, w65_32, w65_35, w65_36, w65_39, w65_40, w65_41, w65_44, w65_47, w65_48, oK_some, cont_int, cont_intS, cont_none, cont_noneS, cont_long, cont_longS, true_and, and_true, false_and, and_false, true_implies, false_implies, not_true_eq_false, not_false_eq_true, eq_self, or_true, true_or, Option.isSome_some, hpf_length, hpa_length, bI_eq0, fi_hpa, fl_hpa, ar_hpf, fi_hpf_ne, fl_hpf_ne, ar_hpa_ne, hpa_hpa, hpf_hpf, nI_1, two_ne, fokZ, implies_true, Nat.reduceEqDiff, h1, rcv_of h2, c_Table_count h3, nI_les]
    rw [← hQ]
    unfold sdB
    rw [exN_f hno]
    exact ⟨rfl, rfl⟩
  · intro i hi hw hno
    have go : (decide (tg xs i 0 = x) && decide (tg xs i 3 = y)) = false → Wp scr (d + 1) 65 2 [some (.ref sl), some (.int x), some (.int y), some (.int (nI (i + 1)))] [] H Q1 := fun hf => hw (fun j hj => by
      rcases Nat.lt_or_ge j i with q | q
      · exact hno j q
      · rw [show j = i by omega]; exact hf)
    rw [w65_2]
    simp only [w65_0, w65_1, w65_3, w65_4, w65_7, w65_10, w65_13, w65_14, w65_17, w65_18, w65_19, w65_22, w65_23, w65_26, w65_27, w65_30, w65_31, w65_32, w65_35, w65_36, w65_39, w65_40, w65_41, w65_44, w65_47, w65_48, oK_some, cont_int, cont_intS, cont_none, cont_noneS, cont_long, cont_longS, true_and, and_true, false_and, and_false, true_implies, false_implies, not_true_eq_false, not_false_eq_true, eq_self, or_true, true_or, Option.isSome_some, hpf_length, hpa_length, bI_eq0, fi_hpa, fl_hpa, ar_hpf, fi_hpf_ne, fl_hpf_ne, ar_hpa_ne, hpa_hpa, hpf_hpf, nI_1, two_ne, fokZ, implies_true, Nat.reduceEqDiff, h1, rcv_of h2, c_Table_count h3, nI_lef hi (by omega : m < 2147483648), c_Table_at h2 h4 hx, tg_eq (xs := xs) (i := i) 0 (v := 0) (by omega) (by decide) rfl, tg_eq (xs := xs) (i := i) 3 (v := 3) (by omega) (by decide) rfl]
    by_cases hc : tg xs i 0 = x
    · by_cases he : tg xs i 3 = y
      · simp only [hc, he, oK_some, cont_int, cont_intS, cont_none, cont_noneS, cont_long, cont_longS, true_and, and_true, false_and, and_false, true_implies, false_implies, not_true_eq_false, not_false_eq_true, eq_self, or_true, true_or, Option.isSome_some, hpf_length, hpa_length, bI_eq0, fi_hpa, fl_hpa, ar_hpf, fi_hpf_ne, fl_hpf_ne, ar_hpa_ne, hpa_hpa, hpf_hpf, nI_1, two_ne, fokZ, implies_true, Nat.reduceEqDiff]
        rw [← hQ]
        unfold sdB
        rw [exN_t hi (by rw [decide_eq_true hc, decide_eq_true he]; rfl)]
        exact ⟨rfl, rfl⟩
      · simp only [hc, he, oK_some, cont_int, cont_intS, cont_none, cont_noneS, cont_long, cont_longS, true_and, and_true, false_and, and_false, true_implies, false_implies, not_true_eq_false, not_false_eq_true, eq_self, or_true, true_or, Option.isSome_some, hpf_length, hpa_length, bI_eq0, fi_hpa, fl_hpa, ar_hpf, fi_hpf_ne, fl_hpf_ne, ar_hpa_ne, hpa_hpa, hpf_hpf, nI_1, two_ne, fokZ, implies_true, Nat.reduceEqDiff]
        exact go (by rw [decide_eq_false he, Bool.and_false])
    · simp only [hc, oK_some, cont_int, cont_intS, cont_none, cont_noneS, cont_long, cont_longS, true_and, and_true, false_and, and_false, true_implies, false_implies, not_true_eq_false, not_false_eq_true, eq_self, or_true, true_or, Option.isSome_some, hpf_length, hpa_length, bI_eq0, fi_hpa, fl_hpa, ar_hpf, fi_hpf_ne, fl_hpf_ne, ar_hpa_ne, hpa_hpa, hpf_hpf, nI_1, two_ne, fokZ, implies_true, Nat.reduceEqDiff]
      exact go (by rw [decide_eq_false hc, Bool.false_and])
end LOOK
section CFAIL
variable {scr : List Int32} {d n c : Nat} {t : Tk} {xs : List Int32} {H : List AC} {Q : Option Value → List AC → Prop}
/-- what the class reads once it failed: numbers and rows of no use -/
def jnk (xs : List Int32) (t : Tk) : Int32 := if t.2.2 = 2 then whT xs t else -1
theorem c_whF {lo hi : Int32} (h : CP H xs n t) (hf : ¬ fi H 29 7 = 0) : Wp scr (d + 1) 51 0 [some (.ref 29), some (.int lo), some (.int hi), none, none] [] H Q ↔ Q (some (.int (jnk xs t))) H := by
  refine Wp_iff ?_
  have hS := h.shp
  have f5 : (fi H 29 5 = 2) = (t.2.2 = 2) := h.so (k := 2) (by decide)
  unfold jnk
  by_cases h2 : t.2.2 = 2
  · have L := c_whLoop (scr := scr) (d := d) (Q := fun r H' => r = some (.int (if t.2.2 = 2 then whT xs t else -1)) ∧ H' = H) (lo := lo) (hi := hi) h ?_
    · simp (maxDischargeDepth := 12) only [w51_0, w51_1, w51_4, w51_5, w51_8, w51_9, w51_10, w51_13, w51_14, w51_16, w51_17, w51_18, w51_21, w51_23, w51_25, w51_26, w51_29, w51_32, w51_33, w51_35, w51_36, w51_37, w51_40, w51_42, w51_45, w51_46, w51_48, w51_49, w51_50, w51_53, w51_56, w51_57, w51_58, w51_61, w51_62, w51_63, w51_66, w51_67, w51_68, w51_71, w51_72, oK_some, cont_int, cont_intS, cont_none, cont_noneS, cont_long, cont_longS, true_and, and_true, false_and, and_false, true_implies, false_implies, not_true_eq_false, not_false_eq_true, eq_self, or_true, true_or, Option.isSome_some, hpf_length, hpa_length, bI_eq0, fi_hpa, fl_hpa, ar_hpf, fi_hpf_ne, fl_hpf_ne, ar_hpa_ne, hpa_hpa, hpf_hpf, nI_1, two_ne, fokZ, implies_true, Nat.reduceEqDiff, g_29_5, sf_29_5, fe_29_5, rc_29, g_29_3, sf_29_3, fe_29_3, g_29_4, sf_29_4, fe_29_4, g_29_0, rc_1, rc_31, rc_35, rc_37, rc_39, rc_41, rc_46, rc_48, rc_50, rc_53, rc_55, rc_57, rc_59, rc_63, rc_66, hS, f5, h2]
      simp only [h2] at L
      exact L
    · simp (maxDischargeDepth := 12) only [w51_0, w51_1, w51_4, w51_5, w51_8, w51_9, w51_10, w51_13, w51_14, w51_15, w51_16, w51_17, w51_18, w51_21, w51_23, w51_25, w51_26, w51_29, w51_32, w51_33, w51_35, w51_36, w51_37, w51_40, w51_42, w51_45, w51_46, w51_48, w51_49, w51_50, w51_53, w51_56, w51_57, w51_58, w51_61, w51_62, w51_63, w51_66, w51_67, w51_68, w51_71, w51_72, oK_some, cont_int, cont_intS, cont_none, cont_noneS, cont_long, cont_longS, true_and, and_true, false_and, and_false, true_implies, false_implies, not_true_eq_false, not_false_eq_true, eq_self, or_true, true_or, Option.isSome_some, hpf_length, hpa_length, bI_eq0, fi_hpa, fl_hpa, ar_hpf, fi_hpf_ne, fl_hpf_ne, ar_hpa_ne, hpa_hpa, hpf_hpf, nI_1, two_ne, fokZ, implies_true, Nat.reduceEqDiff, g_29_5, sf_29_5, fe_29_5, rc_29, g_29_3, sf_29_3, fe_29_3, g_29_4, sf_29_4, fe_29_4, g_29_0, rc_1, rc_31, rc_35, rc_37, rc_39, rc_41, rc_46, rc_48, rc_50, rc_53, rc_55, rc_57, rc_59, rc_63, rc_66, hS, c_failF hS hf, h2]
      simp only [if_true, and_self, implies_true]
  · simp (maxDischargeDepth := 12) only [w51_0, w51_1, w51_4, w51_5, w51_8, w51_9, w51_10, w51_13, w51_14, w51_15, w51_16, w51_17, w51_18, w51_21, w51_23, w51_25, w51_26, w51_29, w51_32, w51_33, w51_35, w51_36, w51_37, w51_40, w51_42, w51_45, w51_46, w51_48, w51_49, w51_50, w51_53, w51_56, w51_57, w51_58, w51_61, w51_62, w51_63, w51_66, w51_67, w51_68, w51_71, w51_72, oK_some, cont_int, cont_intS, cont_none, cont_noneS, cont_long, cont_longS, true_and, and_true, false_and, and_false, true_implies, false_implies, not_true_eq_false, not_false_eq_true, eq_self, or_true, true_or, Option.isSome_some, hpf_length, hpa_length, bI_eq0, fi_hpa, fl_hpa, ar_hpf, fi_hpf_ne, fl_hpf_ne, ar_hpa_ne, hpa_hpa, hpf_hpf, nI_1, two_ne, fokZ, implies_true, Nat.reduceEqDiff, g_29_5, sf_29_5, fe_29_5, rc_29, g_29_3, sf_29_3, fe_29_3, g_29_4, sf_29_4, fe_29_4, g_29_0, rc_1, rc_31, rc_35, rc_37, rc_39, rc_41, rc_46, rc_48, rc_50, rc_53, rc_55, rc_57, rc_59, rc_63, rc_66, hS, f5, h2, c_failF hS hf]
    try simp
theorem c_numF {lo hi : Int32} (h : CP H xs n t) (hf : ¬ fi H 29 7 = 0) : Wp scr (d + 2) 52 0 [some (.ref 29), some (.int lo), some (.int hi), none] [] H Q ↔ Q (some (.int (jnk xs t))) H := by
  have hS := h.shp
  simp (maxDischargeDepth := 12) only [w52_0, w52_1, w52_2, w52_3, w52_6, w52_7, w52_8, w52_11, w52_12, oK_some, cont_int, cont_intS, cont_none, cont_noneS, cont_long, cont_longS, true_and, and_true, false_and, and_false, true_implies, false_implies, not_true_eq_false, not_false_eq_true, eq_self, or_true, true_or, Option.isSome_some, hpf_length, hpa_length, bI_eq0, fi_hpa, fl_hpa, ar_hpf, fi_hpf_ne, fl_hpf_ne, ar_hpa_ne, hpa_hpa, hpf_hpf, nI_1, two_ne, fokZ, implies_true, Nat.reduceEqDiff, rc_29, hS, c_whF h hf, c_advF hS hf]
def jnr (xs rw : List Int32) (t : Tk) (c : Nat) : Int32 := if pName xs t = true then fdI (nmH xs rw t c) else -1
theorem c_rowHF (h : CP H xs n t) (hf : ¬ fi H 29 7 = 0) (hN : NmP H c) : Wp scr (d + 6) 48 0 [some (.ref 29), none] [] H Q ↔ Q (some (.int (jnr xs (ar H 18) t c))) H := by
  refine Wp_iff ?_
  have hS := h.shp
  have f5 : (fi H 29 5 = 1) = (t.2.2 = 1) := h.so (k := 1) (by decide)
  unfold jnr pName
  by_cases h1 : t.2.2 = 1
  · cases hk : isKey xs t
    · have hk' : (nI (lnK xs t) = 0) = True := by rw [lnK_key, hk]; exact eq_true rfl
      simp (maxDischargeDepth := 12) only [w48_0, w48_1, w48_4, w48_5, w48_8, w48_9, w48_12, w48_15, w48_16, w48_17, w48_20, w48_21, w48_22, w48_23, w48_26, w48_27, w48_28, w48_29, w48_32, w48_33, w48_34, w48_37, w48_38, oK_some, cont_int, cont_intS, cont_none, cont_noneS, cont_long, cont_longS, true_and, and_true, false_and, and_false, true_implies, false_implies, not_true_eq_false, not_false_eq_true, eq_self, or_true, true_or, Option.isSome_some, hpf_length, hpa_length, bI_eq0, fi_hpa, fl_hpa, ar_hpf, fi_hpf_ne, fl_hpf_ne, ar_hpa_ne, hpa_hpa, hpf_hpf, nI_1, two_ne, fokZ, implies_true, Nat.reduceEqDiff, g_29_5, sf_29_5, fe_29_5, rc_29, hS, f5, h1, c_lineHere h, hk', c_named (d := d + 3) h hN, c_failF hS hf]
      simp
    · have hk' : (nI (lnK xs t) = 0) = False := by rw [lnK_key, hk]; exact eq_false (by decide)
      simp (maxDischargeDepth := 12) only [w48_0, w48_1, w48_4, w48_5, w48_8, w48_9, w48_12, w48_15, w48_16, w48_17, w48_20, w48_21, w48_22, w48_23, w48_26, w48_27, w48_28, w48_29, w48_32, w48_33, w48_34, w48_37, w48_38, oK_some, cont_int, cont_intS, cont_none, cont_noneS, cont_long, cont_longS, true_and, and_true, false_and, and_false, true_implies, false_implies, not_true_eq_false, not_false_eq_true, eq_self, or_true, true_or, Option.isSome_some, hpf_length, hpa_length, bI_eq0, fi_hpa, fl_hpa, ar_hpf, fi_hpf_ne, fl_hpf_ne, ar_hpa_ne, hpa_hpa, hpf_hpf, nI_1, two_ne, fokZ, implies_true, Nat.reduceEqDiff, g_29_5, sf_29_5, fe_29_5, rc_29, hS, f5, h1, c_lineHere h, hk', c_failF hS hf]
      simp
  · simp (maxDischargeDepth := 12) only [w48_0, w48_1, w48_4, w48_5, w48_8, w48_9, w48_12, w48_15, w48_16, w48_17, w48_20, w48_21, w48_22, w48_23, w48_26, w48_27, w48_28, w48_29, w48_32, w48_33, w48_34, w48_37, w48_38, oK_some, cont_int, cont_intS, cont_none, cont_noneS, cont_long, cont_longS, true_and, and_true, false_and, and_false, true_implies, false_implies, not_true_eq_false, not_false_eq_true, eq_self, or_true, true_or, Option.isSome_some, hpf_length, hpa_length, bI_eq0, fi_hpa, fl_hpa, ar_hpf, fi_hpf_ne, fl_hpf_ne, ar_hpa_ne, hpa_hpa, hpf_hpf, nI_1, two_ne, fokZ, implies_true, Nat.reduceEqDiff, g_29_5, sf_29_5, fe_29_5, rc_29, hS, f5, h1, c_failF hS hf]
    simp
end CFAIL
