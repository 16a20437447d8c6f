/-! ===== the class: hail ===== -/
def CRl (H : List AC) (Q : Option Value → List AC → Prop) (res : Int64) (tr : Int32) : Prop := ∀ H', Fg SC FC H H' → fi H' 0 13 = tr → Q (some (.long res)) H'
/-- what is counted: rows that believe; whether all do; whether a row doubts -/
def hcn (a n : Nat) (ws : List Int32) : Nat := match a with
  | 0 => n - pc (dbN n ws)
  | 1 => if dbN n ws = 0 then 1 else 0
  | k + 2 => if ws.getD k 0 < 10 then 1 else 0
def hcv (a : Nat) : Int32 := match a with
  | 0 => -1
  | 1 => -2
  | k + 2 => nI k
theorem lcmpP {x : Nat} (h : 0 < x) (hx : x < 2 ^ 63) : (lg_cmp (lN x) 0 ≤ 0) = False := by
  have h1 : lN x > 0 := (pk_lLT (a := 0) (b := x) (by decide) hx).mpr h
  unfold lg_cmp
  rw [if_pos h1]
  exact eq_false (by decide)
section CHAIL
variable {scr : List Int32} {d n nS nW nG nU nN hl : Nat} {H : List AC} {R st ws : List Int32} {rum : Int32} {Q : Option Value → List AC → Prop}
theorem w_hailDown (hC : CSl H R n nS nW nG nU nN) (hW : Wk H ws rum n nS nW) (hQ : ∀ H', Fg [36] [] H H' → Wk H' (forN hlK n ws) rum n nS nW → Q none H') : Wp scr (d + 2) 109 0 [some (.ref 33), none] [] H Q := by
  have b2 := hC.2.1.2.2.2.2.2.2.1
  simp only [w109_0, w109_1]
  have key := down (P := fun i => ∀ H2, Fg [36] [] H H2 → Wk H2 (forN hlK i ws) rum n nS nW → Wp scr (d + 2) 109 2 [some (.ref 33), some (.int (nI i))] [] H2 Q) n ?_ ?_
  · exact key H (Fg.rfl' hC.shp) hW
  · intro H2 hF2 hW2
    have hC2 := hC.of hF2 (by decide) (by decide)
    have hs2 := hF2.shp
    have c2' := hC2.2.1.1
    rw [w109_2]
    simp (maxDischargeDepth := 12) only [w109_0, w109_1, w109_3, w109_4, w109_7, w109_10, w109_13, w109_16, w109_17, w109_20, w109_21, w109_24, w109_27, w109_28, w109_29, w109_30, w109_33, w109_36, w109_39, oK_some, cont_int, cont_intS, cont_none, cont_noneS, cont_long, cont_longS, true_and, and_true, false_and, and_false, true_implies, false_implies, not_true_eq_false, not_false_eq_true, eq_self, or_true, true_or, Option.isSome_some, hpf_length, hpa_length, bI_eq0, fi_hpa, fl_hpa, ar_hpf, fi_hpf_ne, fl_hpf_ne, ar_hpa_ne, hpa_hpa, hpf_hpf, nI_1, two_ne, fokZ, implies_true, Nat.reduceEqDiff, g_33_0, rc_3, g_3_2, rc_4, g_16_2, rc_17, rc_6, rc_8, rc_10, rc_12, rc_14, rc_19, rc_21, rc_23, rc_25, rc_27, g_33_1, rc_34, rc_30, rc_45, rc_33, hs2, c_Table_count (g_4_2 hs2), c2', nI_les]
    exact hQ H2 hF2 hW2
  · intro i hi hw H2 hF2 hW2
    have hC2 := hC.of hF2 (by decide) (by decide)
    have hs2 := hF2.shp
    have c2' := hC2.2.1.1
    have hx : (ar H2 36).length < 2147483648 := by rw [gn_36 hs2]; decide
    rw [forN_succ] at hw
    generalize forN hlK i ws = ys at hw hW2
    obtain ⟨x, hx30, ex⟩ := hW2.2.2.2.2 i hi
    have e36 : (ar H2 36).getD i 0 = nI x := by rw [hW2.1.1 i hi, ex]
    rw [w109_2]
    simp (maxDischargeDepth := 12) only [w109_0, w109_1, w109_3, w109_4, w109_7, w109_10, w109_13, w109_16, w109_17, w109_20, w109_21, w109_24, w109_27, w109_28, w109_29, w109_30, w109_33, w109_36, w109_39, oK_some, cont_int, cont_intS, cont_none, cont_noneS, cont_long, cont_longS, true_and, and_true, false_and, and_false, true_implies, false_implies, not_true_eq_false, not_false_eq_true, eq_self, or_true, true_or, Option.isSome_some, hpf_length, hpa_length, bI_eq0, fi_hpa, fl_hpa, ar_hpf, fi_hpf_ne, fl_hpf_ne, ar_hpa_ne, hpa_hpa, hpf_hpf, nI_1, two_ne, fokZ, implies_true, Nat.reduceEqDiff, g_33_0, rc_3, g_3_2, rc_4, g_16_2, rc_17, rc_6, rc_8, rc_10, rc_12, rc_14, rc_19, rc_21, rc_23, rc_25, rc_27, g_33_1, rc_34, rc_30, rc_45, rc_33, hs2, c_Table_count (g_4_2 hs2), c2', nI_lef hi (by omega : n < 2147483648), c_State_doubts (g_34_0 hs2) (g_35_0 hs2) (ga_36 hs2) hx, cAt_nI (show i < 2147483648 by omega), e36]
    unfold hlK at hw
    rw [ex] at hw
    by_cases hc : nI x < 10
    · have e : ys.set i (nI x - 0) = ys := by
        apply ext_getD (by rw [List.length_set])
        intro j hj
        rw [getD_set, Int32.sub_zero]
        by_cases e : i = j ∧ j < ys.length
        · rw [if_pos e, ← ex, e.1]
        · rw [if_neg e]
      rw [if_pos hc, e] at hw
      simp only [hc, oK_some, cont_int, cont_intS, cont_none, cont_noneS, cont_long, cont_longS, true_and, and_true, false_and, and_false, true_implies, false_implies, not_true_eq_false, not_false_eq_true, eq_self, or_true, true_or, Option.isSome_some, hpf_length, hpa_length, bI_eq0, fi_hpa, fl_hpa, ar_hpf, fi_hpf_ne, fl_hpf_ne, ar_hpa_ne, hpa_hpa, hpf_hpf, nI_1, two_ne, fokZ, implies_true, Nat.reduceEqDiff, decide_true, Bool.true_eq_false]
      exact hw H2 hF2 hW2
    · have h10 : 10 ≤ x := by
        rcases Nat.lt_or_ge x 10 with q | q
        · exact absurd (nI_lt (b := 10) q (by decide)) hc
        · exact q
      rw [if_neg hc, show (1 : Int32) = nI 1 from rfl, pk_sub (by omega)] at hw
      simp only [hc, oK_some, cont_int, cont_intS, cont_none, cont_noneS, cont_long, cont_longS, true_and, and_true, false_and, and_false, true_implies, false_implies, not_true_eq_false, not_false_eq_true, eq_self, or_true, true_or, Option.isSome_some, hpf_length, hpa_length, bI_eq0, fi_hpa, fl_hpa, ar_hpf, fi_hpf_ne, fl_hpf_ne, ar_hpa_ne, hpa_hpa, hpf_hpf, nI_1, two_ne, fokZ, implies_true, Nat.reduceEqDiff, decide_false]
      refine w_lose (y := 1) hs2 b2 hi hW2 rfl (by decide) (fun H3 x' hx' ex' hF3 hW3 => ?_)
      have exx : x' = x := (nI_eq (by omega) (by omega)).mp (ex'.symm.trans ex)
      subst exx
      simp (maxDischargeDepth := 12) only [w109_0, w109_1, w109_3, w109_4, w109_7, w109_10, w109_13, w109_16, w109_17, w109_20, w109_21, w109_24, w109_27, w109_28, w109_29, w109_30, w109_33, w109_36, w109_39, oK_some, cont_int, cont_intS, cont_none, cont_noneS, cont_long, cont_longS, true_and, and_true, false_and, and_false, true_implies, false_implies, not_true_eq_false, not_false_eq_true, eq_self, or_true, true_or, Option.isSome_some, hpf_length, hpa_length, bI_eq0, fi_hpa, fl_hpa, ar_hpf, fi_hpf_ne, fl_hpf_ne, ar_hpa_ne, hpa_hpa, hpf_hpf, nI_1, two_ne, fokZ, implies_true, Nat.reduceEqDiff, g_33_0, rc_3, g_3_2, rc_4, g_16_2, rc_17, rc_6, rc_8, rc_10, rc_12, rc_14, rc_19, rc_21, rc_23, rc_25, rc_27, g_33_1, rc_34, rc_30, rc_45, rc_33, hF3.len]
      exact hw H3 (hF2.trans hF3) hW3
theorem c_goHailed {set m : Nat} (hC : CIv H R st n nS nW nG nU nN) (hm : m ≤ 6) (hs : set < 128) (hQ : ∀ H', Fg [33, 34, 36, 38, 40, 42] [] H H' → Wk H' (hlD R (allU nU) n nW nG nU set m st) (allU nU) n nS nW → Q none H') : Wp scr (d + 5) 25 0 [some (.ref 61), some (.ref 30), some (.int (nI set)), some (.int (nI m)), none] [] H Q := by
  have hS := hC.shp
  simp (maxDischargeDepth := 12) only [w25_0, w25_1, w25_4, w25_5, w25_8, w25_9, w25_13, w25_14, w25_17, w25_18, w25_21, w25_24, w25_25, w25_26, w25_28, w25_29, w25_30, w25_31, w25_34, w25_35, w25_38, w25_41, w25_44, w25_47, oK_some, cont_int, cont_intS, cont_none, cont_noneS, cont_long, cont_longS, true_and, and_true, false_and, and_false, true_implies, false_implies, not_true_eq_false, not_false_eq_true, eq_self, or_true, true_or, Option.isSome_some, hpf_length, hpa_length, bI_eq0, fi_hpa, fl_hpa, ar_hpf, fi_hpf_ne, fl_hpf_ne, ar_hpa_ne, hpa_hpa, hpf_hpf, nI_1, two_ne, fokZ, implies_true, Nat.reduceEqDiff, g_61_1, rc_33, hS]
  refine w_start hC (fun H1 hF1 hW1 => ?_)
  simp (maxDischargeDepth := 12) only [w25_0, w25_1, w25_4, w25_5, w25_8, w25_9, w25_13, w25_14, w25_17, w25_18, w25_21, w25_24, w25_25, w25_26, w25_28, w25_29, w25_30, w25_31, w25_34, w25_35, w25_38, w25_41, w25_44, w25_47, oK_some, cont_int, cont_intS, cont_none, cont_noneS, cont_long, cont_longS, true_and, and_true, false_and, and_false, true_implies, false_implies, not_true_eq_false, not_false_eq_true, eq_self, or_true, true_or, Option.isSome_some, hpf_length, hpa_length, bI_eq0, fi_hpa, fl_hpa, ar_hpf, fi_hpf_ne, fl_hpf_ne, ar_hpa_ne, hpa_hpa, hpf_hpf, nI_1, two_ne, fokZ, implies_true, Nat.reduceEqDiff, g_61_1, rc_33, hF1.len]
  have key := down (P := fun i => ∀ H2, Fg [33, 34, 36, 38, 40, 42] [] H H2 → Wk H2 (hlD R (allU nU) n nW nG nU set i st) (allU nU) n nS nW → Wp scr (d + 5) 25 11 [some (.ref 61), some (.ref 30), some (.int (nI set)), some (.int (nI m)), some (.int (nI i))] [] H2 Q) m ?_ ?_
  · exact key H1 (hF1.mono (by decide) (by decide)) hW1
  · intro H2 hF2 hW2
    rw [w25_11]
    simp (maxDischargeDepth := 12) only [w25_0, w25_1, w25_4, w25_5, w25_8, w25_9, w25_13, w25_14, w25_17, w25_18, w25_21, w25_24, w25_25, w25_26, w25_28, w25_29, w25_30, w25_31, w25_34, w25_35, w25_38, w25_41, w25_44, w25_47, oK_some, cont_int, cont_intS, cont_none, cont_noneS, cont_long, cont_longS, true_and, and_true, false_and, and_false, true_implies, false_implies, not_true_eq_false, not_false_eq_true, eq_self, or_true, true_or, Option.isSome_some, hpf_length, hpa_length, bI_eq0, fi_hpa, fl_hpa, ar_hpf, fi_hpf_ne, fl_hpf_ne, ar_hpa_ne, hpa_hpa, hpf_hpf, nI_1, two_ne, fokZ, implies_true, Nat.reduceEqDiff, g_61_1, rc_33, nI_les]
    exact hQ H2 hF2 hW2
  · intro i hi hw H2 hF2 hW2
    have hC2 := hC.1.of hF2 (by decide) (by decide)
    have hs2 := hF2.shp
    have ews : hlD R (allU nU) n nW nG nU set (i + 1) st = hlL n (set.testBit i) (dayM R (allU nU) n nW nG nU (hlD R (allU nU) n nW nG nU set i st)) := rfl
    rw [ews] at hw
    rw [w25_11]
    simp (maxDischargeDepth := 12) only [w25_0, w25_1, w25_4, w25_5, w25_8, w25_9, w25_13, w25_14, w25_17, w25_18, w25_21, w25_24, w25_25, w25_26, w25_28, w25_29, w25_30, w25_31, w25_34, w25_35, w25_38, w25_41, w25_44, w25_47, oK_some, cont_int, cont_intS, cont_none, cont_noneS, cont_long, cont_longS, true_and, and_true, false_and, and_false, true_implies, false_implies, not_true_eq_false, not_false_eq_true, eq_self, or_true, true_or, Option.isSome_some, hpf_length, hpa_length, bI_eq0, fi_hpa, fl_hpa, ar_hpf, fi_hpf_ne, fl_hpf_ne, ar_hpa_ne, hpa_hpa, hpf_hpf, nI_1, two_ne, fokZ, implies_true, Nat.reduceEqDiff, g_61_1, rc_33, hs2, nI_lef hi (by omega : m < 2147483648)]
    refine w_pass hC2 hW2 (fun H3 hF3 hW3 => ?_)
    have hC3 := hC2.of hF3 (by decide) (by decide)
    have hs3 := hF3.shp
    have hF4 := hF2.trans (hF3.mono (T := [33, 34, 36, 38, 40, 42]) (G := []) (by decide) (by decide))
    have ehb : hb (nI set) (nI i) = set.testBit i := hb_nI set (List.mem_range.mpr hs) i (List.mem_range.mpr (by omega))
    simp (maxDischargeDepth := 12) only [w25_0, w25_1, w25_4, w25_5, w25_8, w25_9, w25_13, w25_14, w25_17, w25_18, w25_21, w25_24, w25_25, w25_26, w25_28, w25_29, w25_30, w25_31, w25_34, w25_35, w25_38, w25_41, w25_44, w25_47, oK_some, cont_int, cont_intS, cont_none, cont_noneS, cont_long, cont_longS, true_and, and_true, false_and, and_false, true_implies, false_implies, not_true_eq_false, not_false_eq_true, eq_self, or_true, true_or, Option.isSome_some, hpf_length, hpa_length, bI_eq0, fi_hpa, fl_hpa, ar_hpf, fi_hpf_ne, fl_hpf_ne, ar_hpa_ne, hpa_hpa, hpf_hpf, nI_1, two_ne, fokZ, implies_true, Nat.reduceEqDiff, g_61_1, rc_33, hF3.len, hs3, bit_hb (show i < 32 by omega), ehb]
    unfold hlL at hw
    cases hbt : set.testBit i
    · simp only [hbt, Bool.false_eq_true, if_false] at hw
      simp only [oK_some, cont_int, cont_intS, cont_none, cont_noneS, cont_long, cont_longS, true_and, and_true, false_and, and_false, true_implies, false_implies, not_true_eq_false, not_false_eq_true, eq_self, or_true, true_or, Option.isSome_some, hpf_length, hpa_length, bI_eq0, fi_hpa, fl_hpa, ar_hpf, fi_hpf_ne, fl_hpf_ne, ar_hpa_ne, hpa_hpa, hpf_hpf, nI_1, two_ne, fokZ, implies_true, Nat.reduceEqDiff]
      exact hw H3 hF4 hW3
    · simp only [hbt, if_true] at hw
      simp only [oK_some, cont_int, cont_intS, cont_none, cont_noneS, cont_long, cont_longS, true_and, and_true, false_and, and_false, true_implies, false_implies, not_true_eq_false, not_false_eq_true, eq_self, or_true, true_or, Option.isSome_some, hpf_length, hpa_length, bI_eq0, fi_hpa, fl_hpa, ar_hpf, fi_hpf_ne, fl_hpf_ne, ar_hpa_ne, hpa_hpa, hpf_hpf, nI_1, two_ne, fokZ, implies_true, Nat.reduceEqDiff, Bool.true_eq_false]
      refine w_hailDown hC3 hW3 (fun H5 hF5 hW5 => ?_)
      simp (maxDischargeDepth := 12) only [w25_0, w25_1, w25_4, w25_5, w25_8, w25_9, w25_13, w25_14, w25_17, w25_18, w25_21, w25_24, w25_25, w25_26, w25_28, w25_29, w25_30, w25_31, w25_34, w25_35, w25_38, w25_41, w25_44, w25_47, oK_some, cont_int, cont_intS, cont_none, cont_noneS, cont_long, cont_longS, true_and, and_true, false_and, and_false, true_implies, false_implies, not_true_eq_false, not_false_eq_true, eq_self, or_true, true_or, Option.isSome_some, hpf_length, hpa_length, bI_eq0, fi_hpa, fl_hpa, ar_hpf, fi_hpf_ne, fl_hpf_ne, ar_hpa_ne, hpa_hpa, hpf_hpf, nI_1, two_ne, fokZ, implies_true, Nat.reduceEqDiff, g_61_1, rc_33, hF5.len]
      exact hw H5 (hF4.trans (hF5.mono (by decide) (by decide))) hW5
theorem c_weightOfH {set m : Nat} (hC : CSl H R n nS nW nG nU nN) (hH : rg R 1 = nI hl) (hl1 : hl ≤ 100) (hm : m ≤ 6) (hs : set < 128) : Wp scr d 24 0 [some (.ref 61), some (.int (nI set)), some (.int (nI m)), none, none, none] [] H Q ↔ Q (some (.long (lN (hlW hl set m)))) H := by
  refine Wp_iff ?_
  generalize hQ : (fun (r : Option Value) (H' : List AC) => r = some (.long (lN (hlW hl set m))) ∧ H' = H) = Q1
  have hS := hC.shp
  have f1 : fi H 3 1 = nI hl := by rw [hC.2.2.2.2.2.2.2.2.2, hH]
  have l1 : (1 : Int64) = lN 1 := rfl
  have e100 : (100 : Int32) - nI hl = nI (100 - hl) := pk_sub (a := 100) hl1
  simp (maxDischargeDepth := 12) only [w24_0, w24_1, w24_2, w24_3, w24_7, w24_8, w24_11, w24_12, w24_13, w24_15, w24_16, w24_17, w24_18, w24_21, w24_22, w24_25, w24_28, w24_29, w24_32, w24_34, w24_35, w24_38, w24_41, w24_42, w24_43, w24_44, w24_45, w24_48, w24_51, w24_52, oK_some, cont_int, cont_intS, cont_none, cont_noneS, cont_long, cont_longS, true_and, and_true, false_and, and_false, true_implies, false_implies, not_true_eq_false, not_false_eq_true, eq_self, or_true, true_or, Option.isSome_some, hpf_length, hpa_length, bI_eq0, fi_hpa, fl_hpa, ar_hpf, fi_hpf_ne, fl_hpf_ne, ar_hpa_ne, hpa_hpa, hpf_hpf, nI_1, two_ne, fokZ, implies_true, Nat.reduceEqDiff, g_61_0, rc_3, g_3_1, sf_3_1, fe_3_1, g_16_1, sf_16_1, fe_16_1, l1]
  have key := down (P := fun i => Wp scr d 24 5 [some (.ref 61), some (.int (nI set)), some (.int (nI m)), some (.long (lN (hlW hl set i))), none, some (.int (nI i))] [] H Q1) m ?_ ?_
  · exact key
  · rw [w24_5]
    simp (maxDischargeDepth := 12) only [w24_0, w24_1, w24_2, w24_3, w24_7, w24_8, w24_11, w24_12, w24_13, w24_15, w24_16, w24_17, w24_18, w24_21, w24_22, w24_25, w24_28, w24_29, w24_32, w24_34, w24_35, w24_38, w24_41, w24_42, w24_43, w24_44, w24_45, w24_48, w24_51, w24_52, oK_some, cont_int, cont_intS, cont_none, cont_noneS, cont_long, cont_longS, true_and, and_true, false_and, and_false, true_implies, false_implies, not_true_eq_false, not_false_eq_true, eq_self, or_true, true_or, Option.isSome_some, hpf_length, hpa_length, bI_eq0, fi_hpa, fl_hpa, ar_hpf, fi_hpf_ne, fl_hpf_ne, ar_hpa_ne, hpa_hpa, hpf_hpf, nI_1, two_ne, fokZ, implies_true, Nat.reduceEqDiff, g_61_0, rc_3, g_3_1, sf_3_1, fe_3_1, g_16_1, sf_16_1, fe_16_1, nI_les]
    rw [← hQ]
    exact ⟨rfl, rfl⟩
  · intro i hi hw
    have ewt : hlW hl set (i + 1) = hlW hl set i * (if set.testBit i = true then hl else 100 - hl) := rfl
    rw [ewt] at hw
    have ehb : hb (nI set) (nI i) = set.testBit i := hb_nI set (List.mem_range.mpr hs) i (List.mem_range.mpr (by omega))
    rw [w24_5]
    simp (maxDischargeDepth := 12) only [w24_0, w24_1, w24_2, w24_3, w24_7, w24_8, w24_11, w24_12, w24_13, w24_15, w24_16, w24_17, w24_18, w24_21, w24_22, w24_25, w24_28, w24_29, w24_32, w24_34, w24_35, w24_38, w24_41, w24_42, w24_43, w24_44, w24_45, w24_48, w24_51, w24_52, oK_some, cont_int, cont_intS, cont_none, cont_noneS, cont_long, cont_longS, true_and, and_true, false_and, and_false, true_implies, false_implies, not_true_eq_false, not_false_eq_true, eq_self, or_true, true_or, Option.isSome_some, hpf_length, hpa_length, bI_eq0, fi_hpa, fl_hpa, ar_hpf, fi_hpf_ne, fl_hpf_ne, ar_hpa_ne, hpa_hpa, hpf_hpf, nI_1, two_ne, fokZ, implies_true, Nat.reduceEqDiff, g_61_0, rc_3, g_3_1, sf_3_1, fe_3_1, g_16_1, sf_16_1, fe_16_1, hS, nI_lef hi (by omega : m < 2147483648), bit_hb (show i < 32 by omega), ehb, f1, e100, lN_l (by omega : hl < 2 ^ 31), lN_l (by omega : 100 - hl < 2 ^ 31), lN_mul]
    cases hbt : set.testBit i
    · simp only [hbt, Bool.false_eq_true, if_false] at hw
      simp only [oK_some, cont_int, cont_intS, cont_none, cont_noneS, cont_long, cont_longS, true_and, and_true, false_and, and_false, true_implies, false_implies, not_true_eq_false, not_false_eq_true, eq_self, or_true, true_or, Option.isSome_some, hpf_length, hpa_length, bI_eq0, fi_hpa, fl_hpa, ar_hpf, fi_hpf_ne, fl_hpf_ne, ar_hpa_ne, hpa_hpa, hpf_hpf, nI_1, two_ne, fokZ, implies_true, Nat.reduceEqDiff]
      exact hw
    · simp only [hbt, if_true] at hw
      simp only [oK_some, cont_int, cont_intS, cont_none, cont_noneS, cont_long, cont_longS, true_and, and_true, false_and, and_false, true_implies, false_implies, not_true_eq_false, not_false_eq_true, eq_self, or_true, true_or, Option.isSome_some, hpf_length, hpa_length, bI_eq0, fi_hpa, fl_hpa, ar_hpf, fi_hpf_ne, fl_hpf_ne, ar_hpa_ne, hpa_hpa, hpf_hpf, nI_1, two_ne, fokZ, implies_true, Nat.reduceEqDiff, Bool.true_eq_false]
      exact hw
theorem c_counted {a : Nat} (hC : CSl H R n nS nW nG nU nN) (hf : ∀ i, i < n → (ar H 36).getD i 0 = ws.getD i 0) (ha : a < n + 2) : Wp scr (d + 4) 26 0 [some (.ref 61), some (.int (hcv a)), none] [] H Q ↔ Q (some (.int (nI (hcn a n ws)))) H := by
  refine Wp_iff ?_
  have hS := hC.shp
  have b2 := hC.2.1.2.2.2.2.2.2.1
  have c2 := hC.2.1.1
  obtain ⟨od1, od2⟩ := ones_dbt (n := n) (ws := ws) b2
  have ed : dbt n ws = nI (dbN n ws) := dbN_dbt (by omega)
  have eb := dbN_lt (n := n) (ws := ws)
  have eb2 : 2 ^ n ≤ 2 ^ 7 := p2_lt b2
  simp (maxDischargeDepth := 12) only [w26_0, w26_1, w26_4, w26_7, w26_8, w26_9, w26_10, w26_13, w26_14, w26_17, w26_20, w26_23, w26_24, w26_27, w26_28, w26_29, w26_30, w26_32, w26_35, w26_36, w26_39, w26_40, w26_43, w26_44, w26_45, w26_46, w26_47, w26_48, w26_49, w26_50, oK_some, cont_int, cont_intS, cont_none, cont_noneS, cont_long, cont_longS, true_and, and_true, false_and, and_false, true_implies, false_implies, not_true_eq_false, not_false_eq_true, eq_self, or_true, true_or, Option.isSome_some, hpf_length, hpa_length, bI_eq0, fi_hpa, fl_hpa, ar_hpf, fi_hpf_ne, fl_hpf_ne, ar_hpa_ne, hpa_hpa, hpf_hpf, nI_1, two_ne, fokZ, implies_true, Nat.reduceEqDiff, g_61_1, rc_33, g_61_0, rc_3, g_3_2, rc_4, g_16_2, rc_17, rc_6, rc_8, rc_10, rc_12, rc_14, rc_19, rc_21, rc_23, rc_25, rc_27, hS, w_doubting hC hf, c_Table_count (g_4_2 hS), c2, c_bcD b2, od1, pk_sub od2]
  match a, ha with
  | 0, _ =>
    simp only [hcv, hcn, oK_some, cont_int, cont_intS, cont_none, cont_noneS, cont_long, cont_longS, true_and, and_true, false_and, and_false, true_implies, false_implies, not_true_eq_false, not_false_eq_true, eq_self, or_true, true_or, Option.isSome_some, hpf_length, hpa_length, bI_eq0, fi_hpa, fl_hpa, ar_hpf, fi_hpf_ne, fl_hpf_ne, ar_hpa_ne, hpa_hpa, hpf_hpf, nI_1, two_ne, fokZ, implies_true, Nat.reduceEqDiff]
  | 1, _ =>
    have ez : (nI (dbN n ws) = 0) = (dbN n ws = 0) := propext (nI_eq (b := 0) (by omega) (by decide))
    simp only [hcv, hcn, oK_some, cont_int, cont_intS, cont_none, cont_noneS, cont_long, cont_longS, true_and, and_true, false_and, and_false, true_implies, false_implies, not_true_eq_false, not_false_eq_true, eq_self, or_true, true_or, Option.isSome_some, hpf_length, hpa_length, bI_eq0, fi_hpa, fl_hpa, ar_hpf, fi_hpf_ne, fl_hpf_ne, ar_hpa_ne, hpa_hpa, hpf_hpf, nI_1, two_ne, fokZ, implies_true, Nat.reduceEqDiff, show ((-2 : Int32) = -1) = False from eq_false (by decide), ed, ez]
    by_cases hz : dbN n ws = 0
    · simp only [hz, oK_some, cont_int, cont_intS, cont_none, cont_noneS, cont_long, cont_longS, true_and, and_true, false_and, and_false, true_implies, false_implies, not_true_eq_false, not_false_eq_true, eq_self, or_true, true_or, Option.isSome_some, hpf_length, hpa_length, bI_eq0, fi_hpa, fl_hpa, ar_hpf, fi_hpf_ne, fl_hpf_ne, ar_hpa_ne, hpa_hpa, hpf_hpf, nI_1, two_ne, fokZ, implies_true, Nat.reduceEqDiff, if_true]; rfl
    · simp only [hz, oK_some, cont_int, cont_intS, cont_none, cont_noneS, cont_long, cont_longS, true_and, and_true, false_and, and_false, true_implies, false_implies, not_true_eq_false, not_false_eq_true, eq_self, or_true, true_or, Option.isSome_some, hpf_length, hpa_length, bI_eq0, fi_hpa, fl_hpa, ar_hpf, fi_hpf_ne, fl_hpf_ne, ar_hpa_ne, hpa_hpa, hpf_hpf, nI_1, two_ne, fokZ, implies_true, Nat.reduceEqDiff, if_false]; rfl
  | k + 2, hk =>
    have k1 : (nI k = (-1 : Int32)) = False := eq_false (fun q => by
      have := congrArg Int32.toInt q
      rw [nI_toInt (by omega), show (-1 : Int32).toInt = -1 by decide] at this
      omega)
    have k2 : (nI k = (-2 : Int32)) = False := eq_false (fun q => by
      have := congrArg Int32.toInt q
      rw [nI_toInt (by omega), show (-2 : Int32).toInt = -2 by decide] at this
      omega)
    simp only [hcv, hcn, oK_some, cont_int, cont_intS, cont_none, cont_noneS, cont_long, cont_longS, true_and, and_true, false_and, and_false, true_implies, false_implies, not_true_eq_false, not_false_eq_true, eq_self, or_true, true_or, Option.isSome_some, hpf_length, hpa_length, bI_eq0, fi_hpa, fl_hpa, ar_hpf, fi_hpf_ne, fl_hpf_ne, ar_hpa_ne, hpa_hpa, hpf_hpf, nI_1, two_ne, fokZ, implies_true, Nat.reduceEqDiff, k1, k2]
    have hbk : hb (dbt n ws) (nI k) = decide (ws.getD k 0 < 10) := by
      rw [hb_bt (by omega), ed, bt_nI (by omega), dbN_bit, decide_eq_true (show k < n by omega), Bool.true_and]
    unfold hb at hbk
    by_cases hc : ws.getD k 0 < 10
    · rw [decide_eq_true hc] at hbk
      rw [if_pos hc, of_decide_eq_true hbk]
      rfl
    · rw [decide_eq_false hc] at hbk
      rw [if_neg hc]
      rcases bit01 (dbt n ws >>> (nI k &&& 31)) with e | e
      · rw [e]; rfl
      · exact absurd e (of_decide_eq_false hbk)
theorem c_reduce {a b : Nat} (hS : Shp H) (ha : 0 < a) (ha2 : a < 2 ^ 63) (hb : b < 2 ^ 63) (fa : fl H 61 3 = lN a) (fb : fl H 61 2 = lN b) (hQ : ∀ H', Fg [61] [] H H' → fl H' 61 2 = lN (b / Nat.gcd a b) → fl H' 61 3 = lN (a / Nat.gcd a b) → Q none H') : Wp scr d 27 0 [some (.ref 61), none, none, none, none, none, none, none] [] H Q := by
  have e200 : ∀ i, i < 200 → ((200 : Int32) ≤ nI i) = False := fun i hi => eq_false (nI_ge (b := 200) hi (by decide))
  -- the end
  have fin : ∀ x : Nat, ∀ o6 : Option Value, ∀ y i : Nat, 0 < x → x < 2 ^ 63 → x = Nat.gcd a b → Wp scr d 27 43 [some (.ref 61), some (.long (lN x)), none, some (.long (lN y)), none, some (.int (nI i)), o6, none] [] H Q := by
    intro x o6 y i hx hx2 hg
    have hs1 := sf_61_2 (v := lN (b / x)) hS
    have g3 : fl (hpf H 61 2 (.long (lN (b / x)))) 61 3 = lN a := by rw [fl_hpf_ne (by decide), fa]
    simp (maxDischargeDepth := 12) only [w27_0, w27_1, w27_4, w27_5, w27_6, w27_9, w27_10, w27_11, w27_15, w27_18, w27_21, w27_22, w27_23, w27_24, w27_27, w27_28, w27_29, w27_30, w27_32, w27_33, w27_34, w27_36, w27_37, w27_40, w27_44, w27_45, w27_46, w27_49, w27_50, w27_51, w27_54, w27_55, w27_56, w27_59, w27_60, w27_61, w27_64, w27_65, w27_66, w27_69, oK_some, cont_int, cont_intS, cont_none, cont_noneS, cont_long, cont_longS, true_and, and_true, false_and, and_false, true_implies, false_implies, not_true_eq_false, not_false_eq_true, eq_self, or_true, true_or, Option.isSome_some, hpf_length, hpa_length, bI_eq0, fi_hpa, fl_hpa, ar_hpf, fi_hpf_ne, fl_hpf_ne, ar_hpa_ne, hpa_hpa, hpf_hpf, nI_1, two_ne, fokZ, implies_true, Nat.reduceEqDiff, g_61_3, sf_61_3, fe_61_3, g_61_2, sf_61_2, fe_61_2, w27_43, hS, lcmpP hx hx2, fb, fa, lN_ne0 hx hx2, pk_lDiv hb hx hx2, pk_lDiv ha2 hx hx2, hs1, g3]
    refine hQ _ ((fr_hpfl (S := [61]) (ci := 3) hS rfl (by decide)).fg.trans (fr_hpfl (S := [61]) (ci := 3) hs1 rfl (by decide)).fg) ?_ ?_
    · rw [fl_hpf_ne (by decide), fe_61_2 hS, ← hg]
    · rw [fe_61_3 hs1, ← hg]
  have key : ∀ k i x y : Nat, ∀ o6 : Option Value, y < 2 ^ k → i + 2 * k ≤ 199 → 0 < x → x < 2 ^ 63 → y < 2 ^ 63 → Nat.gcd x y = Nat.gcd a b → Wp scr d 27 13 [some (.ref 61), some (.long (lN x)), none, some (.long (lN y)), none, some (.int (nI i)), o6, none] [] H Q := by
    intro k
    induction k with
    | zero =>
      intro i x y o6 hy hi hx hx2 hy2 hg
      have : y = 0 := by simp at hy; exact hy
      subst this
      rw [Nat.gcd_zero_right] at hg
      rw [w27_13]
      simp (maxDischargeDepth := 12) only [w27_0, w27_1, w27_4, w27_5, w27_6, w27_9, w27_10, w27_11, w27_15, w27_18, w27_21, w27_22, w27_23, w27_24, w27_27, w27_28, w27_29, w27_30, w27_32, w27_33, w27_34, w27_36, w27_37, w27_40, w27_44, w27_45, w27_46, w27_49, w27_50, w27_51, w27_54, w27_55, w27_56, w27_59, w27_60, w27_61, w27_64, w27_65, w27_66, w27_69, oK_some, cont_int, cont_intS, cont_none, cont_noneS, cont_long, cont_longS, true_and, and_true, false_and, and_false, true_implies, false_implies, not_true_eq_false, not_false_eq_true, eq_self, or_true, true_or, Option.isSome_some, hpf_length, hpa_length, bI_eq0, fi_hpa, fl_hpa, ar_hpf, fi_hpf_ne, fl_hpf_ne, ar_hpa_ne, hpa_hpa, hpf_hpf, nI_1, two_ne, fokZ, implies_true, Nat.reduceEqDiff, g_61_3, sf_61_3, fe_61_3, g_61_2, sf_61_2, fe_61_2, e200 i (by omega), lcmp0 hy2]
      exact fin x o6 0 i hx hx2 hg
    | succ k ih =>
      intro i x y o6 hy hi hx hx2 hy2 hg
      rw [w27_13]
      simp (maxDischargeDepth := 12) only [w27_0, w27_1, w27_4, w27_5, w27_6, w27_9, w27_10, w27_11, w27_15, w27_18, w27_21, w27_22, w27_23, w27_24, w27_27, w27_28, w27_29, w27_30, w27_32, w27_33, w27_34, w27_36, w27_37, w27_40, w27_44, w27_45, w27_46, w27_49, w27_50, w27_51, w27_54, w27_55, w27_56, w27_59, w27_60, w27_61, w27_64, w27_65, w27_66, w27_69, oK_some, cont_int, cont_intS, cont_none, cont_noneS, cont_long, cont_longS, true_and, and_true, false_and, and_false, true_implies, false_implies, not_true_eq_false, not_false_eq_true, eq_self, or_true, true_or, Option.isSome_some, hpf_length, hpa_length, bI_eq0, fi_hpa, fl_hpa, ar_hpf, fi_hpf_ne, fl_hpf_ne, ar_hpa_ne, hpa_hpa, hpf_hpf, nI_1, two_ne, fokZ, implies_true, Nat.reduceEqDiff, g_61_3, sf_61_3, fe_61_3, g_61_2, sf_61_2, fe_61_2, e200 i (by omega), lcmp0 hy2]
      by_cases hz : y = 0
      · subst hz
        rw [Nat.gcd_zero_right] at hg
        simp only [oK_some, cont_int, cont_intS, cont_none, cont_noneS, cont_long, cont_longS, true_and, and_true, false_and, and_false, true_implies, false_implies, not_true_eq_false, not_false_eq_true, eq_self, or_true, true_or, Option.isSome_some, hpf_length, hpa_length, bI_eq0, fi_hpa, fl_hpa, ar_hpf, fi_hpf_ne, fl_hpf_ne, ar_hpa_ne, hpa_hpa, hpf_hpf, nI_1, two_ne, fokZ, implies_true, Nat.reduceEqDiff]
        exact fin x o6 0 i hx hx2 hg
      · have hy0 : 0 < y := by omega
        have hr : x % y < y := Nat.mod_lt _ hy0
        simp only [hz, oK_some, cont_int, cont_intS, cont_none, cont_noneS, cont_long, cont_longS, true_and, and_true, false_and, and_false, true_implies, false_implies, not_true_eq_false, not_false_eq_true, eq_self, or_true, true_or, Option.isSome_some, hpf_length, hpa_length, bI_eq0, fi_hpa, fl_hpa, ar_hpf, fi_hpf_ne, fl_hpf_ne, ar_hpa_ne, hpa_hpa, hpf_hpf, nI_1, two_ne, fokZ, implies_true, Nat.reduceEqDiff, lN_ne0 hy0 hy2, pk_lRem hx2 hy0 hy2]
        have hg2 : Nat.gcd y (x % y) = Nat.gcd a b := by rw [← hg, Nat.gcd_comm x y, Nat.gcd_rec y x, Nat.gcd_comm]
        rw [w27_13]
        simp (maxDischargeDepth := 12) only [w27_0, w27_1, w27_4, w27_5, w27_6, w27_9, w27_10, w27_11, w27_15, w27_18, w27_21, w27_22, w27_23, w27_24, w27_27, w27_28, w27_29, w27_30, w27_32, w27_33, w27_34, w27_36, w27_37, w27_40, w27_44, w27_45, w27_46, w27_49, w27_50, w27_51, w27_54, w27_55, w27_56, w27_59, w27_60, w27_61, w27_64, w27_65, w27_66, w27_69, oK_some, cont_int, cont_intS, cont_none, cont_noneS, cont_long, cont_longS, true_and, and_true, false_and, and_false, true_implies, false_implies, not_true_eq_false, not_false_eq_true, eq_self, or_true, true_or, Option.isSome_some, hpf_length, hpa_length, bI_eq0, fi_hpa, fl_hpa, ar_hpf, fi_hpf_ne, fl_hpf_ne, ar_hpa_ne, hpa_hpa, hpf_hpf, nI_1, two_ne, fokZ, implies_true, Nat.reduceEqDiff, g_61_3, sf_61_3, fe_61_3, g_61_2, sf_61_2, fe_61_2, e200 (i + 1) (by omega), lcmp0 (show x % y < 2 ^ 63 by omega)]
        by_cases hz2 : x % y = 0
        · rw [hz2, Nat.gcd_zero_right] at hg2
          simp only [hz2, oK_some, cont_int, cont_intS, cont_none, cont_noneS, cont_long, cont_longS, true_and, and_true, false_and, and_false, true_implies, false_implies, not_true_eq_false, not_false_eq_true, eq_self, or_true, true_or, Option.isSome_some, hpf_length, hpa_length, bI_eq0, fi_hpa, fl_hpa, ar_hpf, fi_hpf_ne, fl_hpf_ne, ar_hpa_ne, hpa_hpa, hpf_hpf, nI_1, two_ne, fokZ, implies_true, Nat.reduceEqDiff]
          exact fin y _ 0 (i + 1) hy0 hy2 hg2
        · have hr0 : 0 < x % y := by omega
          have hr2 : y % (x % y) < x % y := Nat.mod_lt _ hr0
          simp only [hz2, oK_some, cont_int, cont_intS, cont_none, cont_noneS, cont_long, cont_longS, true_and, and_true, false_and, and_false, true_implies, false_implies, not_true_eq_false, not_false_eq_true, eq_self, or_true, true_or, Option.isSome_some, hpf_length, hpa_length, bI_eq0, fi_hpa, fl_hpa, ar_hpf, fi_hpf_ne, fl_hpf_ne, ar_hpa_ne, hpa_hpa, hpf_hpf, nI_1, two_ne, fokZ, implies_true, Nat.reduceEqDiff, lN_ne0 hr0 (show x % y < 2 ^ 63 by omega), pk_lRem hy2 hr0 (show x % y < 2 ^ 63 by omega)]
          refine ih (i + 1 + 1) (x % y) (y % (x % y)) _ ?_ (by omega) hr0 (by omega) (by omega) ?_
          · have h1 : y % (x % y) + x % y ≤ y := by
              have := Nat.div_add_mod y (x % y)
              have h2 : 1 ≤ y / (x % y) := (Nat.le_div_iff_mul_le hr0).mpr (by omega)
              have h3 : (x % y) * 1 ≤ (x % y) * (y / (x % y)) := Nat.mul_le_mul_left _ h2
              omega
            rw [Nat.pow_succ] at hy
            omega
          · rw [← hg2, Nat.gcd_comm y, Nat.gcd_rec (x % y) y, Nat.gcd_comm]
  simp (maxDischargeDepth := 12) only [w27_0, w27_1, w27_4, w27_5, w27_6, w27_9, w27_10, w27_11, w27_15, w27_18, w27_21, w27_22, w27_23, w27_24, w27_27, w27_28, w27_29, w27_30, w27_32, w27_33, w27_34, w27_36, w27_37, w27_40, w27_44, w27_45, w27_46, w27_49, w27_50, w27_51, w27_54, w27_55, w27_56, w27_59, w27_60, w27_61, w27_64, w27_65, w27_66, w27_69, oK_some, cont_int, cont_intS, cont_none, cont_noneS, cont_long, cont_longS, true_and, and_true, false_and, and_false, true_implies, false_implies, not_true_eq_false, not_false_eq_true, eq_self, or_true, true_or, Option.isSome_some, hpf_length, hpa_length, bI_eq0, fi_hpa, fl_hpa, ar_hpf, fi_hpf_ne, fl_hpf_ne, ar_hpa_ne, hpa_hpa, hpf_hpf, nI_1, two_ne, fokZ, implies_true, Nat.reduceEqDiff, g_61_3, sf_61_3, fe_61_3, g_61_2, sf_61_2, fe_61_2, hS, fa, fb]
  exact key 63 0 a b none hb (by decide) ha ha2 hb rfl
theorem c_weigh {a m : Nat} (hC : CIv H R st n nS nW nG nU nN) (hH : rg R 1 = nI hl) (hl1 : hl ≤ 100) (hm : m ≤ 6) (ha : a < n + 2) (hn : 0 < n) (hQ : ∀ H', Fg [33, 34, 36, 38, 40, 42, 61] [] H H' → (∀ lw, (if lw = true then fl H' 61 3 else fl H' 61 2) = hlR (hlS (fun set => hlW hl set m * hcn a n (hlD R (allU nU) n nW nG nU set m st)) (2 ^ m)) (100 ^ m) lw) → Q none H') : Wp scr (d + 6) 23 0 [some (.ref 61), some (.ref 30), some (.int (nI m)), some (.int (hcv a)), none, none, none] [] H Q := by
  have hS := hC.shp
  have b2 := hC.1.2.1.2.2.2.2.2.2.1
  have hpw : 2 ^ m ≤ 2 ^ 6 := p2_lt hm
  have l1 : (1 : Int64) = lN 1 := rfl
  have l0 : (0 : Int64) = lN 0 := rfl
  have l100 : (100 : Int64) = lN 100 := rfl
  generalize hF : (fun set => hlW hl set m * hcn a n (hlD R (allU nU) n nW nG nU set m st)) = F at hQ
  have hFi : ∀ set, hlW hl set m * hcn a n (hlD R (allU nU) n nW nG nU set m st) = F set := fun set => by rw [← hF]
  have s2 := sf_61_2 (v := lN 0) hS
  simp (maxDischargeDepth := 12) only [w23_0, w23_1, w23_2, w23_5, w23_6, w23_7, w23_10, w23_11, w23_15, w23_16, w23_19, w23_20, w23_21, w23_24, w23_27, w23_28, w23_31, w23_34, w23_37, w23_38, w23_42, w23_43, w23_44, w23_45, w23_48, w23_49, w23_51, w23_52, w23_55, w23_57, w23_59, w23_60, w23_61, w23_64, w23_65, w23_66, w23_68, w23_69, w23_72, w23_73, w23_74, w23_77, w23_79, w23_80, w23_81, w23_84, w23_85, w23_86, w23_87, w23_90, w23_93, w23_96, w23_97, w23_100, oK_some, cont_int, cont_intS, cont_none, cont_noneS, cont_long, cont_longS, true_and, and_true, false_and, and_false, true_implies, false_implies, not_true_eq_false, not_false_eq_true, eq_self, or_true, true_or, Option.isSome_some, hpf_length, hpa_length, bI_eq0, fi_hpa, fl_hpa, ar_hpf, fi_hpf_ne, fl_hpf_ne, ar_hpa_ne, hpa_hpa, hpf_hpf, nI_1, two_ne, fokZ, implies_true, Nat.reduceEqDiff, g_61_2, sf_61_2, fe_61_2, g_61_3, sf_61_3, fe_61_3, rc_61, hS, l0, l1]
  have key := down (P := fun i => ∀ H2, Fg [33, 34, 36, 38, 40, 42, 61] [] H H2 → fl H2 61 2 = lN 0 → fl H2 61 3 = lN (100 ^ i) → Wp scr (d + 6) 23 13 [some (.ref 61), some (.ref 30), some (.int (nI m)), some (.int (hcv a)), some (.int (nI i)), none, none] [] H2 Q) m ?_ ?_
  · refine key _ ((fr_hpfl (S := [33, 34, 36, 38, 40, 42, 61]) (ci := 3) hS rfl (by decide)).fg.trans (fr_hpfl (S := [33, 34, 36, 38, 40, 42, 61]) (ci := 3) s2 rfl (by decide)).fg) ?_ ?_
    · rw [fl_hpf_ne (by decide), fe_61_2 hS]
    · rw [fe_61_3 s2]
  · intro H2 hF2 g2 g3
    rw [w23_13]
    simp (maxDischargeDepth := 12) only [w23_0, w23_1, w23_2, w23_5, w23_6, w23_7, w23_10, w23_11, w23_15, w23_16, w23_19, w23_20, w23_21, w23_24, w23_27, w23_28, w23_31, w23_34, w23_37, w23_38, w23_42, w23_43, w23_44, w23_45, w23_48, w23_49, w23_51, w23_52, w23_55, w23_57, w23_59, w23_60, w23_61, w23_64, w23_65, w23_66, w23_68, w23_69, w23_72, w23_73, w23_74, w23_77, w23_79, w23_80, w23_81, w23_84, w23_85, w23_86, w23_87, w23_90, w23_93, w23_96, w23_97, w23_100, oK_some, cont_int, cont_intS, cont_none, cont_noneS, cont_long, cont_longS, true_and, and_true, false_and, and_false, true_implies, false_implies, not_true_eq_false, not_false_eq_true, eq_self, or_true, true_or, Option.isSome_some, hpf_length, hpa_length, bI_eq0, fi_hpa, fl_hpa, ar_hpf, fi_hpf_ne, fl_hpf_ne, ar_hpa_ne, hpa_hpa, hpf_hpf, nI_1, two_ne, fokZ, implies_true, Nat.reduceEqDiff, g_61_2, sf_61_2, fe_61_2, g_61_3, sf_61_3, fe_61_3, rc_61, nI_les]
    have key2 := down (P := fun set => ∀ H4, ∀ o5 : Option Value, Fg [33, 34, 36, 38, 40, 42, 61] [] H H4 → fl H4 61 2 = lN (hlS F set) → fl H4 61 3 = lN (100 ^ m) → Wp scr (d + 6) 23 40 [some (.ref 61), some (.ref 30), some (.int (nI m)), some (.int (hcv a)), some (.int (nI set)), o5, none] [] H4 Q) (2 ^ m) ?_ ?_
    · exact key2 H2 none hF2 g2 g3
    · intro H4 o5 hF4 g2 g3
      have hs4 := hF4.shp
      have hup : hlS F (2 ^ m) < 2 ^ 63 := by
        have h100 : 100 ^ m ≤ 100 ^ 6 := Nat.pow_le_pow_right (by decide) hm
        have hb : ∀ s, F s ≤ 100 ^ 6 * 7 := fun s => by
          rw [← hFi]
          refine Nat.mul_le_mul (Nat.le_trans (hlW_le hl1 m) h100) ?_
          unfold hcn
          match a with
          | 0 => show n - _ ≤ 7; omega
          | 1 => show (if _ then 1 else 0) ≤ 7; split <;> omega
          | k + 2 => show (if _ then 1 else 0) ≤ 7; split <;> omega
        have := hlS_le hb (2 ^ m)
        have hb2 : 2 ^ m * (100 ^ 6 * 7) ≤ 2 ^ 6 * (100 ^ 6 * 7) := Nat.mul_le_mul_right _ hpw
        omega
      rw [w23_40]
      simp (maxDischargeDepth := 12) only [w23_0, w23_1, w23_2, w23_5, w23_6, w23_7, w23_10, w23_11, w23_15, w23_16, w23_19, w23_20, w23_21, w23_24, w23_27, w23_28, w23_31, w23_34, w23_37, w23_38, w23_42, w23_43, w23_44, w23_45, w23_48, w23_49, w23_51, w23_52, w23_55, w23_57, w23_59, w23_60, w23_61, w23_64, w23_65, w23_66, w23_68, w23_69, w23_72, w23_73, w23_74, w23_77, w23_79, w23_80, w23_81, w23_84, w23_85, w23_86, w23_87, w23_90, w23_93, w23_96, w23_97, w23_100, oK_some, cont_int, cont_intS, cont_none, cont_noneS, cont_long, cont_longS, true_and, and_true, false_and, and_false, true_implies, false_implies, not_true_eq_false, not_false_eq_true, eq_self, or_true, true_or, Option.isSome_some, hpf_length, hpa_length, bI_eq0, fi_hpa, fl_hpa, ar_hpf, fi_hpf_ne, fl_hpf_ne, ar_hpa_ne, hpa_hpa, hpf_hpf, nI_1, two_ne, fokZ, implies_true, Nat.reduceEqDiff, g_61_2, sf_61_2, fe_61_2, g_61_3, sf_61_3, fe_61_3, rc_61, hs4, p2 (by omega : m ≤ 10), nI_les]
      refine c_reduce hs4 (p100 hm).1 (p100 hm).2 hup g3 g2 (fun H5 hF5 k2 k3 => ?_)
      simp (maxDischargeDepth := 12) only [w23_0, w23_1, w23_2, w23_5, w23_6, w23_7, w23_10, w23_11, w23_15, w23_16, w23_19, w23_20, w23_21, w23_24, w23_27, w23_28, w23_31, w23_34, w23_37, w23_38, w23_42, w23_43, w23_44, w23_45, w23_48, w23_49, w23_51, w23_52, w23_55, w23_57, w23_59, w23_60, w23_61, w23_64, w23_65, w23_66, w23_68, w23_69, w23_72, w23_73, w23_74, w23_77, w23_79, w23_80, w23_81, w23_84, w23_85, w23_86, w23_87, w23_90, w23_93, w23_96, w23_97, w23_100, oK_some, cont_int, cont_intS, cont_none, cont_noneS, cont_long, cont_longS, true_and, and_true, false_and, and_false, true_implies, false_implies, not_true_eq_false, not_false_eq_true, eq_self, or_true, true_or, Option.isSome_some, hpf_length, hpa_length, bI_eq0, fi_hpa, fl_hpa, ar_hpf, fi_hpf_ne, fl_hpf_ne, ar_hpa_ne, hpa_hpa, hpf_hpf, nI_1, two_ne, fokZ, implies_true, Nat.reduceEqDiff, g_61_2, sf_61_2, fe_61_2, g_61_3, sf_61_3, fe_61_3, rc_61, hF5.len]
      refine hQ H5 (hF4.trans (hF5.mono (by decide) (by decide))) (fun lw => ?_)
      unfold hlR
      cases lw
      · simp only [Bool.false_eq_true, if_false]; exact k2
      · simp only [if_true]; exact k3
    · intro set hset hw H4 o5 hF4 g2 g3
      have hC4 := hC.of hF4 (by decide) (by decide)
      have hs4 := hF4.shp
      have ewb : hlW hl set m < 2 ^ 63 := by
        have := hlW_le (set := set) hl1 m
        have := (p100 hm).2
        omega
      have eS : hlS F (set + 1) = hlS F set + F set := rfl
      rw [eS, ← hFi] at hw
      rw [w23_40]
      simp (maxDischargeDepth := 12) only [w23_0, w23_1, w23_2, w23_5, w23_6, w23_7, w23_10, w23_11, w23_15, w23_16, w23_19, w23_20, w23_21, w23_24, w23_27, w23_28, w23_31, w23_34, w23_37, w23_38, w23_42, w23_43, w23_44, w23_45, w23_48, w23_49, w23_51, w23_52, w23_55, w23_57, w23_59, w23_60, w23_61, w23_64, w23_65, w23_66, w23_68, w23_69, w23_72, w23_73, w23_74, w23_77, w23_79, w23_80, w23_81, w23_84, w23_85, w23_86, w23_87, w23_90, w23_93, w23_96, w23_97, w23_100, oK_some, cont_int, cont_intS, cont_none, cont_noneS, cont_long, cont_longS, true_and, and_true, false_and, and_false, true_implies, false_implies, not_true_eq_false, not_false_eq_true, eq_self, or_true, true_or, Option.isSome_some, hpf_length, hpa_length, bI_eq0, fi_hpa, fl_hpa, ar_hpf, fi_hpf_ne, fl_hpf_ne, ar_hpa_ne, hpa_hpa, hpf_hpf, nI_1, two_ne, fokZ, implies_true, Nat.reduceEqDiff, g_61_2, sf_61_2, fe_61_2, g_61_3, sf_61_3, fe_61_3, rc_61, hs4, p2 (by omega : m ≤ 10), nI_lef hset (by omega : 2 ^ m < 2147483648), c_weightOfH hC4.1 hH hl1 hm (by omega : set < 128), lcmp0 ewb]
      by_cases hz : hlW hl set m = 0
      · rw [hz, Nat.zero_mul, Nat.add_zero] at hw
        simp only [hz, oK_some, cont_int, cont_intS, cont_none, cont_noneS, cont_long, cont_longS, true_and, and_true, false_and, and_false, true_implies, false_implies, not_true_eq_false, not_false_eq_true, eq_self, or_true, true_or, Option.isSome_some, hpf_length, hpa_length, bI_eq0, fi_hpa, fl_hpa, ar_hpf, fi_hpf_ne, fl_hpf_ne, ar_hpa_ne, hpa_hpa, hpf_hpf, nI_1, two_ne, fokZ, implies_true, Nat.reduceEqDiff]
        exact hw H4 _ hF4 g2 g3
      · simp only [hz, oK_some, cont_int, cont_intS, cont_none, cont_noneS, cont_long, cont_longS, true_and, and_true, false_and, and_false, true_implies, false_implies, not_true_eq_false, not_false_eq_true, eq_self, or_true, true_or, Option.isSome_some, hpf_length, hpa_length, bI_eq0, fi_hpa, fl_hpa, ar_hpf, fi_hpf_ne, fl_hpf_ne, ar_hpa_ne, hpa_hpa, hpf_hpf, nI_1, two_ne, fokZ, implies_true, Nat.reduceEqDiff]
        refine c_goHailed hC4 hm (by omega) (fun H5 hF5 hW5 => ?_)
        have hF6 := hF4.trans (hF5.mono (T := [33, 34, 36, 38, 40, 42, 61]) (G := []) (by decide) (by decide))
        have hC5 := hC4.1.of hF5 (by decide) (by decide)
        have hs5 := hF5.shp
        have q2 : fl H5 61 2 = lN (hlS F set) := by rw [hF5.lng (by decide) (by decide), g2]
        have q3 : fl H5 61 3 = lN (100 ^ m) := by rw [hF5.lng (by decide) (by decide), g3]
        have hcb : hcn a n (hlD R (allU nU) n nW nG nU set m st) < 2 ^ 31 := by
          unfold hcn
          match a with
          | 0 => show n - _ < _; omega
          | 1 => show (if _ then 1 else 0) < _; split <;> omega
          | k + 2 => show (if _ then 1 else 0) < _; split <;> omega
        simp (maxDischargeDepth := 12) only [w23_0, w23_1, w23_2, w23_5, w23_6, w23_7, w23_10, w23_11, w23_15, w23_16, w23_19, w23_20, w23_21, w23_24, w23_27, w23_28, w23_31, w23_34, w23_37, w23_38, w23_42, w23_43, w23_44, w23_45, w23_48, w23_49, w23_51, w23_52, w23_55, w23_57, w23_59, w23_60, w23_61, w23_64, w23_65, w23_66, w23_68, w23_69, w23_72, w23_73, w23_74, w23_77, w23_79, w23_80, w23_81, w23_84, w23_85, w23_86, w23_87, w23_90, w23_93, w23_96, w23_97, w23_100, oK_some, cont_int, cont_intS, cont_none, cont_noneS, cont_long, cont_longS, true_and, and_true, false_and, and_false, true_implies, false_implies, not_true_eq_false, not_false_eq_true, eq_self, or_true, true_or, Option.isSome_some, hpf_length, hpa_length, bI_eq0, fi_hpa, fl_hpa, ar_hpf, fi_hpf_ne, fl_hpf_ne, ar_hpa_ne, hpa_hpa, hpf_hpf, nI_1, two_ne, fokZ, implies_true, Nat.reduceEqDiff, g_61_2, sf_61_2, fe_61_2, g_61_3, sf_61_3, fe_61_3, rc_61, hF5.len, hs5, q2, c_counted hC5 hW5.1.1 ha, lN_l hcb, lN_mul, lN_add]
        refine hw _ _ (hF6.trans (fr_hpfl (S := [33, 34, 36, 38, 40, 42, 61]) (ci := 3) hs5 rfl (by decide)).fg) ?_ ?_
        · rw [fe_61_2 hs5]
        · rw [fl_hpf_ne (by decide), q3]
  · intro i hi hw H2 hF2 g2 g3
    have hs2 := hF2.shp
    rw [w23_13]
    simp (maxDischargeDepth := 12) only [w23_0, w23_1, w23_2, w23_5, w23_6, w23_7, w23_10, w23_11, w23_15, w23_16, w23_19, w23_20, w23_21, w23_24, w23_27, w23_28, w23_31, w23_34, w23_37, w23_38, w23_42, w23_43, w23_44, w23_45, w23_48, w23_49, w23_51, w23_52, w23_55, w23_57, w23_59, w23_60, w23_61, w23_64, w23_65, w23_66, w23_68, w23_69, w23_72, w23_73, w23_74, w23_77, w23_79, w23_80, w23_81, w23_84, w23_85, w23_86, w23_87, w23_90, w23_93, w23_96, w23_97, w23_100, oK_some, cont_int, cont_intS, cont_none, cont_noneS, cont_long, cont_longS, true_and, and_true, false_and, and_false, true_implies, false_implies, not_true_eq_false, not_false_eq_true, eq_self, or_true, true_or, Option.isSome_some, hpf_length, hpa_length, bI_eq0, fi_hpa, fl_hpa, ar_hpf, fi_hpf_ne, fl_hpf_ne, ar_hpa_ne, hpa_hpa, hpf_hpf, nI_1, two_ne, fokZ, implies_true, Nat.reduceEqDiff, g_61_2, sf_61_2, fe_61_2, g_61_3, sf_61_3, fe_61_3, rc_61, hs2, nI_lef hi (by omega : m < 2147483648), g3, l100, lN_mul]
    refine hw _ (hF2.trans (fr_hpfl (S := [33, 34, 36, 38, 40, 42, 61]) (ci := 3) hs2 rfl (by decide)).fg) ?_ ?_
    · rw [fl_hpf_ne (by decide), g2]
    · rw [fe_61_3 hs2, Nat.pow_succ]
theorem c_whole {lw : Bool} (hS : Shp H) : Wp scr d 22 0 [some (.ref 61), some (.int (bI lw))] [] H Q ↔ Q (some (.long (if lw = true then fl H 61 3 else fl H 61 2))) H := by
  refine Wp_iff ?_
  simp (maxDischargeDepth := 12) only [w22_0, w22_1, w22_4, w22_5, w22_8, w22_11, w22_12, w22_15, oK_some, cont_int, cont_intS, cont_none, cont_noneS, cont_long, cont_longS, true_and, and_true, false_and, and_false, true_implies, false_implies, not_true_eq_false, not_false_eq_true, eq_self, or_true, true_or, Option.isSome_some, hpf_length, hpa_length, bI_eq0, fi_hpa, fl_hpa, ar_hpf, fi_hpf_ne, fl_hpf_ne, ar_hpa_ne, hpa_hpa, hpf_hpf, nI_1, two_ne, fokZ, implies_true, Nat.reduceEqDiff, g_61_3, sf_61_3, fe_61_3, g_61_2, sf_61_2, fe_61_2, hS]
  cases lw
  · simp
  · simp
theorem crl_ok {res : Int64} {t : Int32} {S : List Nat} {F : List (Nat × Nat)} {H2 : List AC} (hS : Shp H) (hF : Fg S F (hpf H 0 13 (.int t)) H2) (hs : ∀ a ∈ S, a ∈ SC) (hf : ∀ p ∈ F, p ∈ FC ∨ p.1 ∈ SC) (h0 : 0 ∉ S) (h13 : (0, 13) ∉ F) (hQ : CRl H Q res t) : Q (some (.long res)) H2 := by
  refine hQ _ (((fg_hpf (a := 0) (f := 13) (ci := 11) hS rfl (by decide)) : Fg SC FC _ _).trans (hF.mono hs hf)) ?_
  rw [hF.int h0 h13, fe_0_13 hS]
theorem crl_no {t : Int32} {v : Int64} (hS : Shp H) (hQ : CRl H Q v t) : Q (some (.long v)) (hpf H 0 13 (.int t)) := hQ _ (fg_hpf (a := 0) (f := 13) (ci := 11) hS rfl (by decide)) (fe_0_13 hS)
theorem hcn_B {D : Nat → List Int32} {m : Nat} : (fun set => hlW hl set m * hcn 0 n (D set)) = hBe D n hl m := rfl
theorem hcn_A {D : Nat → List Int32} {m : Nat} : (fun set => hlW hl set m * hcn 1 n (D set)) = hAl D n hl m := by
  funext set
  unfold hAl hcn
  by_cases h : dbN n (D set) = 0
  · simp [h]
  · simp [h]
theorem hcn_D {D : Nat → List Int32} {m k : Nat} : (fun set => hlW hl set m * hcn (k + 2) n (D set)) = hDo D k hl m := by
  funext set
  unfold hDo hcn
  by_cases h : (D set).getD k 0 < 10
  · simp only [h, if_true, Nat.mul_one]
  · simp only [h, if_false, Nat.mul_zero]
theorem C_mean {m : Int32} {lw : Bool} (hC : CIv H R st n nS nW nG nU nN) (hH : rg R 1 = nI hl) (hl1 : hl ≤ 100) (hQ : CRl H Q (if whyF (decide (0 < n)) m 6 = 0 then hlR (hlS (hBe (fun set => hlD R (allU nU) n nW nG nU set m.toNatClampNeg st) n hl m.toNatClampNeg) (2 ^ m.toNatClampNeg)) (100 ^ m.toNatClampNeg) lw else -1) (whyF (decide (0 < n)) m 6)) : Wp scr (d + 7) 167 0 [some (.ref 0), some (.int m), some (.int (bI lw))] [] H Q := by
  have hS := hC.shp
  obtain ⟨c2, c3, c4, c5, c6, c7, b2, b3, b4, b5, b6, b7⟩ := id hC.1.2.1
  have hs0 := sf_0_13 (v := 0) hS
  have hC0 := hC.tr (v := 0)
  by_cases hw : whyF (decide (0 < n)) m 6 = 0
  · rw [hw, if_pos rfl] at hQ
    obtain ⟨hk, hm⟩ := whyF_0 hw
    obtain ⟨em, lm⟩ := of_in (n := 6) hm (by omega)
    have hn0 : 0 < n := of_decide_eq_true hk
    simp (maxDischargeDepth := 12) only [w167_0, w167_1, w167_2, w167_3, w167_6, w167_9, w167_10, w167_13, w167_16, w167_19, w167_20, w167_21, w167_24, w167_25, w167_28, w167_29, w167_30, w167_33, w167_34, w167_37, w167_38, w167_41, oK_some, cont_int, cont_intS, cont_none, cont_noneS, cont_long, cont_longS, true_and, and_true, false_and, and_false, true_implies, false_implies, not_true_eq_false, not_false_eq_true, eq_self, or_true, true_or, Option.isSome_some, hpf_length, hpa_length, bI_eq0, fi_hpa, fl_hpa, ar_hpf, fi_hpf_ne, fl_hpf_ne, ar_hpa_ne, hpa_hpa, hpf_hpf, nI_1, two_ne, fokZ, implies_true, Nat.reduceEqDiff, rc_0, g_0_13, sf_0_13, fe_0_13, g_0_10, rc_61, g_0_5, rc_30, hS, c_hailTrouble hC, hw, hs0]
    generalize m.toNatClampNeg = mm at em lm hQ
    subst em
    refine c_weigh (a := 0) hC0 hH hl1 lm (by omega) hn0 (fun H2 hF2 h2 => ?_)
    have hs2 := hF2.shp
    simp (maxDischargeDepth := 12) only [w167_0, w167_1, w167_2, w167_3, w167_6, w167_9, w167_10, w167_13, w167_16, w167_19, w167_20, w167_21, w167_24, w167_25, w167_28, w167_29, w167_30, w167_33, w167_34, w167_37, w167_38, w167_41, oK_some, cont_int, cont_intS, cont_none, cont_noneS, cont_long, cont_longS, true_and, and_true, false_and, and_false, true_implies, false_implies, not_true_eq_false, not_false_eq_true, eq_self, or_true, true_or, Option.isSome_some, hpf_length, hpa_length, bI_eq0, fi_hpa, fl_hpa, ar_hpf, fi_hpf_ne, fl_hpf_ne, ar_hpa_ne, hpa_hpa, hpf_hpf, nI_1, two_ne, fokZ, implies_true, Nat.reduceEqDiff, rc_0, g_0_13, sf_0_13, fe_0_13, g_0_10, rc_61, g_0_5, rc_30, hF2.len, hs2, c_whole hs2, h2]
    exact crl_ok hS hF2 (by decide) (by decide) (by decide) (by decide) hQ
  · rw [if_neg hw] at hQ
    simp (maxDischargeDepth := 12) only [w167_0, w167_1, w167_2, w167_3, w167_6, w167_9, w167_10, w167_13, w167_16, w167_19, w167_20, w167_21, w167_24, w167_25, w167_28, w167_29, w167_30, w167_33, w167_34, w167_37, w167_38, w167_41, oK_some, cont_int, cont_intS, cont_none, cont_noneS, cont_long, cont_longS, true_and, and_true, false_and, and_false, true_implies, false_implies, not_true_eq_false, not_false_eq_true, eq_self, or_true, true_or, Option.isSome_some, hpf_length, hpa_length, bI_eq0, fi_hpa, fl_hpa, ar_hpf, fi_hpf_ne, fl_hpf_ne, ar_hpa_ne, hpa_hpa, hpf_hpf, nI_1, two_ne, fokZ, implies_true, Nat.reduceEqDiff, rc_0, g_0_13, sf_0_13, fe_0_13, g_0_10, rc_61, g_0_5, rc_30, hS, c_hailTrouble hC, hw]
    exact crl_no hS hQ
theorem C_all {m : Int32} {lw : Bool} (hC : CIv H R st n nS nW nG nU nN) (hH : rg R 1 = nI hl) (hl1 : hl ≤ 100) (hQ : CRl H Q (if whyF (decide (0 < n)) m 6 = 0 then hlR (hlS (hAl (fun set => hlD R (allU nU) n nW nG nU set m.toNatClampNeg st) n hl m.toNatClampNeg) (2 ^ m.toNatClampNeg)) (100 ^ m.toNatClampNeg) lw else -1) (whyF (decide (0 < n)) m 6)) : Wp scr (d + 7) 168 0 [some (.ref 0), some (.int m), some (.int (bI lw))] [] H Q := by
  have hS := hC.shp
  obtain ⟨c2, c3, c4, c5, c6, c7, b2, b3, b4, b5, b6, b7⟩ := id hC.1.2.1
  have hs0 := sf_0_13 (v := 0) hS
  have hC0 := hC.tr (v := 0)
  by_cases hw : whyF (decide (0 < n)) m 6 = 0
  · rw [hw, if_pos rfl] at hQ
    obtain ⟨hk, hm⟩ := whyF_0 hw
    obtain ⟨em, lm⟩ := of_in (n := 6) hm (by omega)
    have hn0 : 0 < n := of_decide_eq_true hk
    simp (maxDischargeDepth := 12) only [w168_0, w168_1, w168_2, w168_3, w168_6, w168_9, w168_10, w168_13, w168_16, w168_19, w168_20, w168_21, w168_24, w168_25, w168_28, w168_29, w168_31, w168_34, w168_35, w168_38, w168_39, w168_42, oK_some, cont_int, cont_intS, cont_none, cont_noneS, cont_long, cont_longS, true_and, and_true, false_and, and_false, true_implies, false_implies, not_true_eq_false, not_false_eq_true, eq_self, or_true, true_or, Option.isSome_some, hpf_length, hpa_length, bI_eq0, fi_hpa, fl_hpa, ar_hpf, fi_hpf_ne, fl_hpf_ne, ar_hpa_ne, hpa_hpa, hpf_hpf, nI_1, two_ne, fokZ, implies_true, Nat.reduceEqDiff, rc_0, g_0_13, sf_0_13, fe_0_13, g_0_10, rc_61, g_0_5, rc_30, hS, c_hailTrouble hC, hw, hs0]
    generalize m.toNatClampNeg = mm at em lm hQ
    subst em
    rw [← hcn_A] at hQ
    refine c_weigh (a := 1) hC0 hH hl1 lm (by omega) hn0 (fun H2 hF2 h2 => ?_)
    have hs2 := hF2.shp
    simp (maxDischargeDepth := 12) only [w168_0, w168_1, w168_2, w168_3, w168_6, w168_9, w168_10, w168_13, w168_16, w168_19, w168_20, w168_21, w168_24, w168_25, w168_28, w168_29, w168_31, w168_34, w168_35, w168_38, w168_39, w168_42, oK_some, cont_int, cont_intS, cont_none, cont_noneS, cont_long, cont_longS, true_and, and_true, false_and, and_false, true_implies, false_implies, not_true_eq_false, not_false_eq_true, eq_self, or_true, true_or, Option.isSome_some, hpf_length, hpa_length, bI_eq0, fi_hpa, fl_hpa, ar_hpf, fi_hpf_ne, fl_hpf_ne, ar_hpa_ne, hpa_hpa, hpf_hpf, nI_1, two_ne, fokZ, implies_true, Nat.reduceEqDiff, rc_0, g_0_13, sf_0_13, fe_0_13, g_0_10, rc_61, g_0_5, rc_30, hF2.len, hs2, c_whole hs2, h2]
    exact crl_ok hS hF2 (by decide) (by decide) (by decide) (by decide) hQ
  · rw [if_neg hw] at hQ
    simp (maxDischargeDepth := 12) only [w168_0, w168_1, w168_2, w168_3, w168_6, w168_9, w168_10, w168_13, w168_16, w168_19, w168_20, w168_21, w168_24, w168_25, w168_28, w168_29, w168_31, w168_34, w168_35, w168_38, w168_39, w168_42, oK_some, cont_int, cont_intS, cont_none, cont_noneS, cont_long, cont_longS, true_and, and_true, false_and, and_false, true_implies, false_implies, not_true_eq_false, not_false_eq_true, eq_self, or_true, true_or, Option.isSome_some, hpf_length, hpa_length, bI_eq0, fi_hpa, fl_hpa, ar_hpf, fi_hpf_ne, fl_hpf_ne, ar_hpa_ne, hpa_hpa, hpf_hpf, nI_1, two_ne, fokZ, implies_true, Nat.reduceEqDiff, rc_0, g_0_13, sf_0_13, fe_0_13, g_0_10, rc_61, g_0_5, rc_30, hS, c_hailTrouble hC, hw]
    exact crl_no hS hQ
theorem C_doubt {k m : Int32} {lw : Bool} (hC : CIv H R st n nS nW nG nU nN) (hH : rg R 1 = nI hl) (hl1 : hl ≤ 100) (hQ : CRl H Q (if whyF (decide (0 ≤ k ∧ k < nI n)) m 6 = 0 then hlR (hlS (hDo (fun set => hlD R (allU nU) n nW nG nU set m.toNatClampNeg st) k.toNatClampNeg hl m.toNatClampNeg) (2 ^ m.toNatClampNeg)) (100 ^ m.toNatClampNeg) lw else -1) (whyF (decide (0 ≤ k ∧ k < nI n)) m 6)) : Wp scr (d + 7) 169 0 [some (.ref 0), some (.int k), some (.int m), some (.int (bI lw))] [] H Q := by
  have hS := hC.shp
  obtain ⟨c2, c3, c4, c5, c6, c7, b2, b3, b4, b5, b6, b7⟩ := id hC.1.2.1
  have hs0 := sf_0_13 (v := 0) hS
  have hC0 := hC.tr (v := 0)
  by_cases hp : 0 ≤ k ∧ k < nI n
  · obtain ⟨ek, lk⟩ := of_row hp (by omega)
    have hn0 : 0 < n := by omega
    have ew : whyF (decide (0 ≤ k ∧ k < nI n)) m 6 = whyF (decide (0 < n)) m 6 := by rw [decide_eq_true hp, decide_eq_true hn0]
    rw [ew] at hQ
    by_cases hw : whyF (decide (0 < n)) m 6 = 0
    · rw [hw, if_pos rfl] at hQ
      obtain ⟨hk, hm⟩ := whyF_0 hw
      obtain ⟨em, lm⟩ := of_in (n := 6) hm (by omega)
      simp (maxDischargeDepth := 12) only [w169_0, w169_1, w169_2, w169_3, w169_6, w169_9, w169_10, w169_13, w169_14, w169_15, w169_18, w169_21, w169_22, w169_25, w169_28, w169_31, w169_32, w169_33, w169_36, w169_37, w169_40, w169_41, w169_42, w169_45, w169_46, w169_49, w169_50, w169_53, oK_some, cont_int, cont_intS, cont_none, cont_noneS, cont_long, cont_longS, true_and, and_true, false_and, and_false, true_implies, false_implies, not_true_eq_false, not_false_eq_true, eq_self, or_true, true_or, Option.isSome_some, hpf_length, hpa_length, bI_eq0, fi_hpa, fl_hpa, ar_hpf, fi_hpf_ne, fl_hpf_ne, ar_hpa_ne, hpa_hpa, hpf_hpf, nI_1, two_ne, fokZ, implies_true, Nat.reduceEqDiff, rc_0, g_0_13, sf_0_13, fe_0_13, g_0_10, rc_61, g_0_5, rc_30, hS, c_rowTrouble hC, hp, and_self, if_true, c_hailTrouble hC, hw, hs0]
      generalize m.toNatClampNeg = mm at em lm hQ
      generalize k.toNatClampNeg = kk at ek lk hQ
      subst em
      subst ek
      rw [← hcn_D] at hQ
      refine c_weigh (a := kk + 2) hC0 hH hl1 lm (by omega) hn0 (fun H2 hF2 h2 => ?_)
      have hs2 := hF2.shp
      simp (maxDischargeDepth := 12) only [w169_0, w169_1, w169_2, w169_3, w169_6, w169_9, w169_10, w169_13, w169_14, w169_15, w169_18, w169_21, w169_22, w169_25, w169_28, w169_31, w169_32, w169_33, w169_36, w169_37, w169_40, w169_41, w169_42, w169_45, w169_46, w169_49, w169_50, w169_53, oK_some, cont_int, cont_intS, cont_none, cont_noneS, cont_long, cont_longS, true_and, and_true, false_and, and_false, true_implies, false_implies, not_true_eq_false, not_false_eq_true, eq_self, or_true, true_or, Option.isSome_some, hpf_length, hpa_length, bI_eq0, fi_hpa, fl_hpa, ar_hpf, fi_hpf_ne, fl_hpf_ne, ar_hpa_ne, hpa_hpa, hpf_hpf, nI_1, two_ne, fokZ, implies_true, Nat.reduceEqDiff, rc_0, g_0_13, sf_0_13, fe_0_13, g_0_10, rc_61, g_0_5, rc_30, hF2.len, hs2, c_whole hs2, h2]
      exact crl_ok hS hF2 (by decide) (by decide) (by decide) (by decide) hQ
    · rw [if_neg hw] at hQ
      simp (maxDischargeDepth := 12) only [w169_0, w169_1, w169_2, w169_3, w169_6, w169_9, w169_10, w169_13, w169_14, w169_15, w169_18, w169_21, w169_22, w169_25, w169_28, w169_31, w169_32, w169_33, w169_36, w169_37, w169_40, w169_41, w169_42, w169_45, w169_46, w169_49, w169_50, w169_53, oK_some, cont_int, cont_intS, cont_none, cont_noneS, cont_long, cont_longS, true_and, and_true, false_and, and_false, true_implies, false_implies, not_true_eq_false, not_false_eq_true, eq_self, or_true, true_or, Option.isSome_some, hpf_length, hpa_length, bI_eq0, fi_hpa, fl_hpa, ar_hpf, fi_hpf_ne, fl_hpf_ne, ar_hpa_ne, hpa_hpa, hpf_hpf, nI_1, two_ne, fokZ, implies_true, Nat.reduceEqDiff, rc_0, g_0_13, sf_0_13, fe_0_13, g_0_10, rc_61, g_0_5, rc_30, hS, c_rowTrouble hC, hp, and_self, if_true, c_hailTrouble hC, hw]
      exact crl_no hS hQ
  · have ew : whyF (decide (0 ≤ k ∧ k < nI n)) m 6 = 1 := by unfold whyF; rw [decide_eq_false hp, if_pos rfl]
    rw [ew, if_neg (by decide)] at hQ
    simp (maxDischargeDepth := 12) only [w169_0, w169_1, w169_2, w169_3, w169_6, w169_9, w169_10, w169_13, w169_14, w169_15, w169_18, w169_21, w169_22, w169_25, w169_28, w169_31, w169_32, w169_33, w169_36, w169_37, w169_40, w169_41, w169_42, w169_45, w169_46, w169_49, w169_50, w169_53, oK_some, cont_int, cont_intS, cont_none, cont_noneS, cont_long, cont_longS, true_and, and_true, false_and, and_false, true_implies, false_implies, not_true_eq_false, not_false_eq_true, eq_self, or_true, true_or, Option.isSome_some, hpf_length, hpa_length, bI_eq0, fi_hpa, fl_hpa, ar_hpf, fi_hpf_ne, fl_hpf_ne, ar_hpa_ne, hpa_hpa, hpf_hpf, nI_1, two_ne, fokZ, implies_true, Nat.reduceEqDiff, rc_0, g_0_13, sf_0_13, fe_0_13, g_0_10, rc_61, g_0_5, rc_30, hS, c_rowTrouble hC, hp, if_false, show ((1 : Int32) = 0) = False from eq_false (by decide)]
    exact crl_no hS hQ
end CHAIL
