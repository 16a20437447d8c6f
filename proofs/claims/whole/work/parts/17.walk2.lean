/-! ===== Walk: a day, on ===== -/
section WALK2
variable {scr : List Int32} {d n st c b h a : Nat} {H : List AC} {xs : List Int32} {Q : Option Value → List AC → Prop}
def hruF (ru rw : List Int32) (rum gone : Int32) (k : Nat) (ys : List Int32) : List Int32 := if (rum >>> (nI k &&& 31)) &&& 1 = 0 then ys else if tg ru k 3 = gone then cAdd ys (tg ru k 0) (-(wgt (tg ru k 1) (cAt rw (tg ru k 0 * 4 + 0)))) else ys
theorem hruF_len {ru rw : List Int32} {rum gone : Int32} (k : Nat) (ys : List Int32) : (hruF ru rw rum gone k ys).length = ys.length := by
  unfold hruF; split
  · rfl
  · split
    · exact cAdd_length
    · rfl
theorem c_hearRumours (hS : Shp H) (hn : fi H 12 2 = nI n) (hb : n < 100000) : Wp scr (d + 1) 114 0 [some (.ref 33), none, none, none] [] H Q ↔ Q none (hpa H 38 (forN (hruF (ar H 13) (ar H 5) (fi H 33 6) (fi H 34 1)) n (ar H 38))) := by
  refine Wp_iff ?_
  simp only [w114_0, w114_1]
  have hlen : ∀ i, (forN (hruF (ar H 13) (ar H 5) (fi H 33 6) (fi H 34 1)) i (ar H 38)).length = 7 := fun i => by rw [forN_len hruF_len, gn_38 hS]
  have key := down (P := fun i => ∀ o2 o3 : Option Value, Wp scr (d + 1) 114 2 [some (.ref 33), some (.int (nI i)), o2, o3] [] (hpa H 38 (forN (hruF (ar H 13) (ar H 5) (fi H 33 6) (fi H 34 1)) i (ar H 38))) (fun r H' => r = none ∧ H' = hpa H 38 (forN (hruF (ar H 13) (ar H 5) (fi H 33 6) (fi H 34 1)) n (ar H 38)))) n ?_ ?_
  · have := key none none
    simpa [nI_0, forN, hpa_self (ga_38 hS)] using this
  · intro o2 o3
    have hs : Shp (hpa H 38 (forN (hruF (ar H 13) (ar H 5) (fi H 33 6) (fi H 34 1)) n (ar H 38))) := shp_hpa hS (by rw [hlen, gn_38 hS])
    rw [w114_2]
    simp only [w114_0, w114_1, w114_3, w114_4, w114_7, w114_10, w114_13, w114_16, w114_17, w114_20, w114_21, w114_22, w114_23, w114_24, w114_27, w114_28, w114_31, w114_34, w114_35, w114_36, w114_39, w114_40, w114_43, w114_46, w114_49, w114_50, w114_53, w114_56, w114_57, w114_58, w114_61, w114_62, w114_63, w114_66, w114_69, w114_70, w114_71, w114_74, w114_75, w114_76, w114_79, w114_80, w114_81, w114_82, w114_85, w114_88, w114_89, w114_90, w114_93, w114_96, w114_97, w114_100, w114_103, w114_106, g_33_0 hs, g_3_6 hs, rc_12 hs, c_Table_count (g_12_2 hs), fi_hpa, hn, cont_int, oK_some, true_and, nI_les, true_implies, not_true_eq_false, false_implies, and_true]
  · intro i hi hw o2 o3
    simp only [forN] at hw
    have hl := hlen i
    generalize hy : forN (hruF (ar H 13) (ar H 5) (fi H 33 6) (fi H 34 1)) i (ar H 38) = ys at hw hl ⊢
    have hs : Shp (hpa H 38 ys) := shp_hpa hS (by rw [hl, gn_38 hS])
    have hx : (ar (hpa H 38 ys) 13).length < 2147483648 := by rw [gn_13 hs]; decide
    have hx5 : (ar (hpa H 38 ys) 5).length < 2147483648 := by rw [gn_5 hs]; decide
    have hx2 : (ar (hpa H 38 ys) 38).length < 2147483648 := by rw [gn_38 hs]; decide
    rw [w114_2]
    simp only [w114_0, w114_1, w114_3, w114_4, w114_7, w114_10, w114_13, w114_16, w114_17, w114_20, w114_21, w114_22, w114_23, w114_24, w114_27, w114_28, w114_31, w114_34, w114_35, w114_36, w114_39, w114_40, w114_43, w114_46, w114_49, w114_50, w114_53, w114_56, w114_57, w114_58, w114_61, w114_62, w114_63, w114_66, w114_69, w114_70, w114_71, w114_74, w114_75, w114_76, w114_79, w114_80, w114_81, w114_82, w114_85, w114_88, w114_89, w114_90, w114_93, w114_96, w114_97, w114_100, w114_103, w114_106, g_33_0 hs, g_33_1 hs, g_33_2 hs, g_33_6 hs, g_3_6 hs, g_3_2 hs, rc_12 hs, rc_4 hs, rc_37 hs, g_34_1 hs, c_Table_count (g_12_2 hs), c_Table_at (g_12_1 hs) (ga_13 hs) hx, c_Table_at (g_4_1 hs) (ga_5 hs) hx5, c_Cells_add (g_37_0 hs) (ga_38 hs) hx2, c_weightOf, fi_hpa, ar_hpa_ne (by decide : ¬ (38 : Nat) = 13), ar_hpa_ne (by decide : ¬ (38 : Nat) = 5), ar_hpa_eq (ga_38 hS), hpa_hpa, hpa_length, hn, cont_int, cont_intS, cont_none, oK_some, true_and, nI_lef hi (by omega : n < 2147483648), true_implies, not_false_eq_true, false_implies, nI_1, tg_eq (xs := ar H 13) (i := i) 0 (v := 0) (by omega) (by decide) rfl, tg_eq (xs := ar H 13) (i := i) 1 (v := 1) (by omega) (by decide) rfl, tg_eq (xs := ar H 13) (i := i) 3 (v := 3) (by omega) (by decide) rfl]
    unfold hruF at hw
    by_cases hc : (fi H 33 6 >>> (nI i &&& 31)) &&& 1 = 0
    · simp only [hc, if_true] at hw
      simp only [hc, not_true_eq_false, false_implies, true_implies, and_true]
      exact hw _ _
    · by_cases h3 : tg (ar H 13) i 3 = fi H 34 1
      · simp only [hc, h3, if_false, if_true] at hw
        simp only [hc, h3, not_false_eq_true, not_true_eq_false, false_implies, true_implies, true_and]
        exact hw _ _
      · simp only [hc, h3, if_false] at hw
        simp only [hc, h3, not_false_eq_true, not_true_eq_false, false_implies, true_implies, true_and, and_true]
        exact hw _ _
/-- what is seen: of those that doubt (first), of those that believe more (second) -/
def seeF (ss : List Int32) (op : Int32) (f : List Int32) (s : Nat) (p : List Int32 × List Int32) : List Int32 × List Int32 :=
  if (op >>> (nI s &&& 31)) &&& 1 = 0 then p else if cAt f (tg ss s 1) < 10 then (cAdd p.1 (tg ss s 0) (tg ss s 2), p.2) else if cAt f (tg ss s 1) ≤ cAt f (tg ss s 0) then p else (p.1, cAdd p.2 (tg ss s 0) 1)
theorem seeF_len {ss f : List Int32} {op : Int32} : ∀ (n : Nat) (p : List Int32 × List Int32), (forN (seeF ss op f) n p).1.length = p.1.length ∧ (forN (seeF ss op f) n p).2.length = p.2.length
  | 0, _ => ⟨rfl, rfl⟩
  | n + 1, p => by
    have ih := seeF_len (ss := ss) (f := f) (op := op) n p
    rw [forN]
    unfold seeF
    split
    · exact ih
    · split
      · exact ⟨cAdd_length.trans ih.1, ih.2⟩
      · split
        · exact ih
        · exact ⟨ih.1, cAdd_length.trans ih.2⟩
theorem c_seeOthers (hS : Shp H) (hn : fi H 6 2 = nI n) (hb : n < 100000) : Wp scr (d + 2) 116 0 [some (.ref 33), none, none, none] [] H Q ↔ Q none (hpa (hpa H 40 (forN (seeF (ar H 7) (fi H 33 5) (ar H 36)) n (ar H 40, ar H 42)).1) 42 (forN (seeF (ar H 7) (fi H 33 5) (ar H 36)) n (ar H 40, ar H 42)).2) := by
  refine Wp_iff ?_
  simp only [w116_0, w116_1]
  have hlen : ∀ i, (forN (seeF (ar H 7) (fi H 33 5) (ar H 36)) i (ar H 40, ar H 42)).1.length = 7 ∧ (forN (seeF (ar H 7) (fi H 33 5) (ar H 36)) i (ar H 40, ar H 42)).2.length = 7 := fun i => by
    have := seeF_len (ss := ar H 7) (f := ar H 36) (op := fi H 33 5) i (ar H 40, ar H 42)
    rw [this.1, this.2, gn_40 hS, gn_42 hS]
    exact ⟨rfl, rfl⟩
  have key := down (P := fun i => ∀ o2 o3 : Option Value, Wp scr (d + 2) 116 2 [some (.ref 33), some (.int (nI i)), o2, o3] [] (hpa (hpa H 40 (forN (seeF (ar H 7) (fi H 33 5) (ar H 36)) i (ar H 40, ar H 42)).1) 42 (forN (seeF (ar H 7) (fi H 33 5) (ar H 36)) i (ar H 40, ar H 42)).2) (fun r H' => r = none ∧ H' = hpa (hpa H 40 (forN (seeF (ar H 7) (fi H 33 5) (ar H 36)) n (ar H 40, ar H 42)).1) 42 (forN (seeF (ar H 7) (fi H 33 5) (ar H 36)) n (ar H 40, ar H 42)).2)) n ?_ ?_
  · have := key none none
    simpa [nI_0, forN, hpa_self (ga_40 hS), hpa_self (ga_42 hS)] using this
  · intro o2 o3
    have hl := hlen n
    have hs1 : Shp (hpa H 40 (forN (seeF (ar H 7) (fi H 33 5) (ar H 36)) n (ar H 40, ar H 42)).1) := shp_hpa hS (by rw [hl.1, gn_40 hS])
    have hs := shp_hpa (a := 42) (xs := (forN (seeF (ar H 7) (fi H 33 5) (ar H 36)) n (ar H 40, ar H 42)).2) hs1 (by rw [hl.2, gn_42 hs1])
    rw [w116_2]
    simp only [w116_0, w116_1, w116_3, w116_4, w116_7, w116_10, w116_13, w116_16, w116_17, w116_20, w116_21, w116_22, w116_23, w116_24, w116_27, w116_28, w116_31, w116_34, w116_35, w116_36, w116_39, w116_40, w116_41, w116_44, w116_47, w116_48, w116_49, w116_52, w116_53, w116_54, w116_57, w116_58, w116_61, w116_64, w116_65, w116_68, w116_69, w116_70, w116_73, w116_76, w116_77, w116_78, w116_81, w116_84, w116_87, w116_88, w116_91, w116_94, w116_95, w116_98, w116_99, w116_102, w116_105, w116_106, w116_109, w116_112, w116_113, w116_116, w116_117, w116_118, w116_121, w116_124, w116_127, g_33_0 hs, g_3_3 hs, rc_6 hs, c_Table_count (g_6_2 hs), fi_hpa, hn, cont_int, oK_some, true_and, nI_les, true_implies, not_true_eq_false, false_implies, and_true]
  · intro i hi hw o2 o3
    simp only [forN] at hw
    have hl := hlen i
    generalize hy : forN (seeF (ar H 7) (fi H 33 5) (ar H 36)) i (ar H 40, ar H 42) = p at hw hl ⊢
    obtain ⟨p1, p2⟩ := p
    simp only at hl hw ⊢
    have hs1 : Shp (hpa H 40 p1) := shp_hpa hS (by rw [hl.1, gn_40 hS])
    have hs : Shp (hpa (hpa H 40 p1) 42 p2) := shp_hpa hs1 (by rw [hl.2, gn_42 hs1])
    have hx : (ar (hpa (hpa H 40 p1) 42 p2) 7).length < 2147483648 := by rw [gn_7 hs]; decide
    have hx36 : (ar (hpa (hpa H 40 p1) 42 p2) 36).length < 2147483648 := by rw [gn_36 hs]; decide
    have hx40 : (ar (hpa (hpa H 40 p1) 42 p2) 40).length < 2147483648 := by rw [gn_40 hs]; decide
    have hx42 : (ar (hpa (hpa H 40 p1) 42 p2) 42).length < 2147483648 := by rw [gn_42 hs]; decide
    have e40 : ∀ q, hpa (hpa (hpa H 40 p1) 42 p2) 40 q = hpa (hpa H 40 q) 42 p2 := fun q => by rw [hpa_comm (by decide), hpa_hpa]
    rw [w116_2]
    simp only [w116_0, w116_1, w116_3, w116_4, w116_7, w116_10, w116_13, w116_16, w116_17, w116_20, w116_21, w116_22, w116_23, w116_24, w116_27, w116_28, w116_31, w116_34, w116_35, w116_36, w116_39, w116_40, w116_41, w116_44, w116_47, w116_48, w116_49, w116_52, w116_53, w116_54, w116_57, w116_58, w116_61, w116_64, w116_65, w116_68, w116_69, w116_70, w116_73, w116_76, w116_77, w116_78, w116_81, w116_84, w116_87, w116_88, w116_91, w116_94, w116_95, w116_98, w116_99, w116_102, w116_105, w116_106, w116_109, w116_112, w116_113, w116_116, w116_117, w116_118, w116_121, w116_124, w116_127, g_33_0 hs, g_33_1 hs, g_33_3 hs, g_33_4 hs, g_33_5 hs, g_3_3 hs, rc_6 hs, rc_39 hs, rc_41 hs, rc_34 hs, rc_35 hs, g_34_0 hs, c_Table_count (g_6_2 hs), c_Table_at (g_6_1 hs) (ga_7 hs) hx, c_State_doubts (g_34_0 hs) (g_35_0 hs) (ga_36 hs) hx36, c_Cells_at (g_35_0 hs) (ga_36 hs) hx36, c_Cells_add (g_39_0 hs) (ga_40 hs) hx40, c_Cells_add (g_41_0 hs) (ga_42 hs) hx42, fi_hpa, ar_hpa_ne (by decide : ¬ (42 : Nat) = 7), ar_hpa_ne (by decide : ¬ (40 : Nat) = 7), ar_hpa_ne (by decide : ¬ (42 : Nat) = 36), ar_hpa_ne (by decide : ¬ (40 : Nat) = 36), ar_hpa_ne (by decide : ¬ (42 : Nat) = 40), ar_hpa_eq (ga_40 hS), ar_hpa_eq (ga_42 hs1), hpa_hpa, hpa_length, e40, hn, cont_int, cont_none, oK_some, true_and, bI_eq0, decide_eq_false_iff_not, nI_lef hi (by omega : n < 2147483648), true_implies, not_false_eq_true, false_implies, nI_1, tg_eq (xs := ar H 7) (i := i) 0 (v := 0) (by omega) (by decide) rfl, tg_eq (xs := ar H 7) (i := i) 1 (v := 1) (by omega) (by decide) rfl, tg_eq (xs := ar H 7) (i := i) 2 (v := 2) (by omega) (by decide) rfl]
    unfold seeF at hw
    by_cases hc : (fi H 33 5 >>> (nI i &&& 31)) &&& 1 = 0
    · simp only [hc, if_true] at hw
      simp only [hc, not_true_eq_false, false_implies, true_implies, and_true]
      exact hw _ _
    · by_cases h3 : cAt (ar H 36) (tg (ar H 7) i 1) < 10
      · simp only [hc, h3, if_false, if_true] at hw
        simp only [hc, h3, not_false_eq_true, not_true_eq_false, false_implies, true_implies, true_and]
        exact hw _ _
      · by_cases h4 : cAt (ar H 36) (tg (ar H 7) i 1) ≤ cAt (ar H 36) (tg (ar H 7) i 0)
        · simp only [hc, h3, h4, if_false, if_true] at hw
          simp only [hc, h3, h4, not_false_eq_true, not_true_eq_false, false_implies, true_implies, true_and, and_true]
          exact hw _ _
        · simp only [hc, h3, h4, if_false] at hw
          simp only [hc, h3, h4, not_false_eq_true, not_true_eq_false, false_implies, true_implies, true_and, and_true]
          exact hw _ _
end WALK2
