/-! ===== the class: queries of days to come, on; what go is to do ===== -/
def ush (x y : Int32) : Int32 := (x.toUInt32 >>> (y.toUInt32 &&& Int32.toUInt32 31)).toInt32
def bcA (x : Int32) : Int32 := x - (ush x 1 &&& 1431655765)
def bcB (a : Int32) : Int32 := (a &&& 858993459) + (ush a 2 &&& 858993459)
def bcC (b : Int32) : Int32 := (b + ush b 4) &&& 252645135
def bcD (c : Int32) : Int32 := c + ush c 8
def bcE (e : Int32) : Int32 := e + ush e 16
def bcI (x : Int32) : Int32 := bcE (bcD (bcC (bcB (bcA x)))) &&& 63
theorem bc_pc : ∀ x ∈ List.range 256, bcI (nI x) = nI (pc x) := by decide +kernel
theorem c_bcI {scr : List Int32} {d : Nat} {H : List AC} {Q : Option Value → List AC → Prop} {x : Int32} : Wp scr d 305 0 [some (.int x)] [] H Q ↔ Q (some (.int (bcI x))) H := by
  simp only [w305_0, w305_1, w305_2, w305_3, w305_4, w305_7, w305_8, w305_9, w305_10, w305_11, w305_14, w305_15, w305_16, w305_17, w305_18, w305_21, w305_22, w305_23, w305_24, w305_25, w305_26, w305_27, w305_28, w305_29, w305_32, w305_33, w305_34, w305_35, w305_36, w305_38, w305_39, w305_40, w305_41, w305_42, w305_43, w305_45, w305_46, w305_47, w305_48, w305_49, w305_51, w305_52]
  rfl
theorem c_bc {scr : List Int32} {d : Nat} {H : List AC} {Q : Option Value → List AC → Prop} {x : Nat} (hx : x < 256) : Wp scr d 305 0 [some (.int (nI x))] [] H Q ↔ Q (some (.int (nI (pc x)))) H := by
  rw [c_bcI, bc_pc x (List.mem_range.mpr hx)]
theorem c_bcD {scr : List Int32} {d n : Nat} {H : List AC} {Q : Option Value → List AC → Prop} {ws : List Int32} (hn : n ≤ 7) : Wp scr d 305 0 [some (.int (dbt n ws))] [] H Q ↔ Q (some (.int (ones (dbt n ws)))) H := by
  have h := dbN_lt (n := n) (ws := ws)
  have h2 : 2 ^ n ≤ 2 ^ 7 := p2_lt (by omega)
  rw [(ones_dbt (ws := ws) hn).1, dbN_dbt (by omega), c_bc (by omega)]
def Gb (ws : List Int32) : Prop := ∃ g, g < 100000 ∧ ws.getD 9 0 = nI g
theorem Gb.wOr {st : List Int32} {s u : Int32} (h : Gb st) : Gb (wOr st s u) := by
  obtain ⟨g, h1, h2⟩ := h
  exact ⟨g, h1, by rw [wOr_lt (Or.inr rfl), h2]⟩
theorem Gb.set {st : List Int32} {k : Nat} {v : Int32} (h : Gb st) (hk : k < 7) : Gb (st.set k v) := by
  obtain ⟨g, h1, h2⟩ := h
  exact ⟨g, h1, by rw [getD_set, if_neg (by omega), h2]⟩
/-- what Walk.go is to do -/
def GoC : Prop := ∀ (scr : List Int32) (d : Nat) (H : List AC) (Q : Option Value → List AC → Prop) (R ws : List Int32) (rum : Int32) (n nS nW nG nU nN m : Nat), CSl H R n nS nW nG nU nN → Wk H ws rum n nS nW → Gb ws → m ≤ 40 → (∀ H', Fg [34, 36, 38, 40, 42] [] H H' → (∀ i, i < n → (ar H' 36).getD i 0 = (daysM R rum n nW nG nU m ws).getD i 0) → Q none H') → Wp scr (d + 4) 106 0 [some (.ref 33), some (.int (nI m)), none] [] H Q
section CQ2
variable {scr : List Int32} {d n nS nW nG nU nN : Nat} {H : List AC} {R st ws : List Int32} {rum : Int32} {Q : Option Value → List AC → Prop}
theorem C_first (hC : CIv H R st n nS nW nG nU nN) (hQ : CR H Q (if 0 < n then fst2 (fun i k => decide ((daysM R (allU nU) n nW nG nU i st).getD k 0 < 10)) 41 n else -1) (if 0 < n then 0 else 1)) : Wp scr (d + 5) 142 0 [some (.ref 0), none, none] [] H Q := by
  have hS := hC.shp
  obtain ⟨c2, c3, c4, c5, c6, c7, b2, b3, b4, b5, b6, b7⟩ := id hC.1.2.1
  have hs0 := sf_0_13 (v := 0) hS
  have hC0 := hC.tr (v := 0)
  by_cases hp : 0 < n
  · rw [if_pos hp, if_pos hp] at hQ
    generalize hpd : (fun i k => decide ((daysM R (allU nU) n nW nG nU i st).getD k 0 < 10)) = p at hQ
    have hpi : ∀ i k, decide ((daysM R (allU nU) n nW nG nU i st).getD k 0 < 10) = p i k := fun i k => by rw [← hpd]
    simp (maxDischargeDepth := 12) only [w142_0, w142_1, w142_2, w142_5, w142_8, w142_9, w142_12, w142_15, w142_16, w142_17, w142_18, w142_21, w142_22, w142_25, w142_28, w142_29, w142_31, w142_33, w142_36, w142_37, w142_39, w142_40, w142_43, w142_46, w142_49, w142_52, w142_53, w142_56, w142_57, w142_60, w142_63, w142_64, w142_65, w142_68, w142_71, w142_72, w142_75, w142_78, w142_79, w142_82, w142_85, w142_87, oK_some, cont_int, cont_intS, cont_none, cont_noneS, cont_long, cont_longS, true_and, and_true, false_and, and_false, true_implies, false_implies, not_true_eq_false, not_false_eq_true, eq_self, or_true, true_or, Option.isSome_some, hpf_length, hpa_length, bI_eq0, fi_hpa, fl_hpa, ar_hpf, fi_hpf_ne, fl_hpf_ne, ar_hpa_ne, hpa_hpa, hpf_hpf, nI_1, two_ne, fokZ, implies_true, Nat.reduceEqDiff, rc_0, g_0_13, sf_0_13, fe_0_13, g_0_6, rc_33, g_0_5, rc_30, g_0_2, rc_3, g_3_2, rc_4, g_16_2, rc_17, rc_6, rc_8, rc_10, rc_12, rc_14, rc_19, rc_21, rc_23, rc_25, rc_27, hS, c_slopeTrouble hC, hp, if_true, hs0]
    refine w_start hC0 (fun H1 hF1 hW1 => ?_)
    simp (maxDischargeDepth := 12) only [w142_0, w142_1, w142_2, w142_5, w142_8, w142_9, w142_12, w142_15, w142_16, w142_17, w142_18, w142_21, w142_22, w142_25, w142_28, w142_29, w142_31, w142_33, w142_36, w142_37, w142_39, w142_40, w142_43, w142_46, w142_49, w142_52, w142_53, w142_56, w142_57, w142_60, w142_63, w142_64, w142_65, w142_68, w142_71, w142_72, w142_75, w142_78, w142_79, w142_82, w142_85, w142_87, oK_some, cont_int, cont_intS, cont_none, cont_noneS, cont_long, cont_longS, true_and, and_true, false_and, and_false, true_implies, false_implies, not_true_eq_false, not_false_eq_true, eq_self, or_true, true_or, Option.isSome_some, hpf_length, hpa_length, bI_eq0, fi_hpa, fl_hpa, ar_hpf, fi_hpf_ne, fl_hpf_ne, ar_hpa_ne, hpa_hpa, hpf_hpf, nI_1, two_ne, fokZ, implies_true, Nat.reduceEqDiff, rc_0, g_0_13, sf_0_13, fe_0_13, g_0_6, rc_33, g_0_5, rc_30, g_0_2, rc_3, g_3_2, rc_4, g_16_2, rc_17, rc_6, rc_8, rc_10, rc_12, rc_14, rc_19, rc_21, rc_23, rc_25, rc_27, hF1.len]
    have key := down (P := fun i => (∀ j, j < i → ∀ q, q < n → p j q = false) → ∀ H2, ∀ o2 : Option Value, Fg [33, 34, 36, 38, 40, 42] [] (hpf H 0 13 (.int 0)) H2 → Wk H2 (daysM R (allU nU) n nW nG nU i st) (allU nU) n nS nW → Wp scr (d + 5) 142 30 [some (.ref 0), some (.int (nI i)), o2] [] H2 Q) 41 ?_ ?_
    · exact key (fun j hj => absurd hj (Nat.not_lt_zero _)) H1 none (hF1.mono (by decide) (by decide)) hW1
    · intro hno H2 o2 hF2 hW2
      rw [w142_30]
      simp (maxDischargeDepth := 12) only [w142_0, w142_1, w142_2, w142_5, w142_8, w142_9, w142_12, w142_15, w142_16, w142_17, w142_18, w142_21, w142_22, w142_25, w142_28, w142_29, w142_31, w142_33, w142_36, w142_37, w142_39, w142_40, w142_43, w142_46, w142_49, w142_52, w142_53, w142_56, w142_57, w142_60, w142_63, w142_64, w142_65, w142_68, w142_71, w142_72, w142_75, w142_78, w142_79, w142_82, w142_85, w142_87, oK_some, cont_int, cont_intS, cont_none, cont_noneS, cont_long, cont_longS, true_and, and_true, false_and, and_false, true_implies, false_implies, not_true_eq_false, not_false_eq_true, eq_self, or_true, true_or, Option.isSome_some, hpf_length, hpa_length, bI_eq0, fi_hpa, fl_hpa, ar_hpf, fi_hpf_ne, fl_hpf_ne, ar_hpa_ne, hpa_hpa, hpf_hpf, nI_1, two_ne, fokZ, implies_true, Nat.reduceEqDiff, rc_0, g_0_13, sf_0_13, fe_0_13, g_0_6, rc_33, g_0_5, rc_30, g_0_2, rc_3, g_3_2, rc_4, g_16_2, rc_17, rc_6, rc_8, rc_10, rc_12, rc_14, rc_19, rc_21, rc_23, rc_25, rc_27, l40t]
      rw [fst2_miss hno] at hQ
      exact cr_ok hS hF2 (by decide) (by decide) (by decide) (by decide) hQ
    · intro i hi hw hno H2 o2 hF2 hW2
      have hC2 := hC0.1.of hF2 (by decide) (by decide)
      have hs2 := hF2.shp
      have c2' := hC2.2.1.1
      rw [w142_30]
      simp (maxDischargeDepth := 12) only [w142_0, w142_1, w142_2, w142_5, w142_8, w142_9, w142_12, w142_15, w142_16, w142_17, w142_18, w142_21, w142_22, w142_25, w142_28, w142_29, w142_31, w142_33, w142_36, w142_37, w142_39, w142_40, w142_43, w142_46, w142_49, w142_52, w142_53, w142_56, w142_57, w142_60, w142_63, w142_64, w142_65, w142_68, w142_71, w142_72, w142_75, w142_78, w142_79, w142_82, w142_85, w142_87, oK_some, cont_int, cont_intS, cont_none, cont_noneS, cont_long, cont_longS, true_and, and_true, false_and, and_false, true_implies, false_implies, not_true_eq_false, not_false_eq_true, eq_self, or_true, true_or, Option.isSome_some, hpf_length, hpa_length, bI_eq0, fi_hpa, fl_hpa, ar_hpf, fi_hpf_ne, fl_hpf_ne, ar_hpa_ne, hpa_hpa, hpf_hpf, nI_1, two_ne, fokZ, implies_true, Nat.reduceEqDiff, rc_0, g_0_13, sf_0_13, fe_0_13, g_0_6, rc_33, g_0_5, rc_30, g_0_2, rc_3, g_3_2, rc_4, g_16_2, rc_17, rc_6, rc_8, rc_10, rc_12, rc_14, rc_19, rc_21, rc_23, rc_25, rc_27, l40f hi]
      have key2 := down (P := fun k => (∀ j, j < k → p i j = false) → Wp scr (d + 5) 142 38 [some (.ref 0), some (.int (nI i)), some (.int (nI k))] [] H2 Q) n ?_ ?_
      · exact key2 (fun j hj => absurd hj (Nat.not_lt_zero _))
      · intro hnk
        rw [w142_38]
        simp (maxDischargeDepth := 12) only [w142_0, w142_1, w142_2, w142_5, w142_8, w142_9, w142_12, w142_15, w142_16, w142_17, w142_18, w142_21, w142_22, w142_25, w142_28, w142_29, w142_31, w142_33, w142_36, w142_37, w142_39, w142_40, w142_43, w142_46, w142_49, w142_52, w142_53, w142_56, w142_57, w142_60, w142_63, w142_64, w142_65, w142_68, w142_71, w142_72, w142_75, w142_78, w142_79, w142_82, w142_85, w142_87, oK_some, cont_int, cont_intS, cont_none, cont_noneS, cont_long, cont_longS, true_and, and_true, false_and, and_false, true_implies, false_implies, not_true_eq_false, not_false_eq_true, eq_self, or_true, true_or, Option.isSome_some, hpf_length, hpa_length, bI_eq0, fi_hpa, fl_hpa, ar_hpf, fi_hpf_ne, fl_hpf_ne, ar_hpa_ne, hpa_hpa, hpf_hpf, nI_1, two_ne, fokZ, implies_true, Nat.reduceEqDiff, rc_0, g_0_13, sf_0_13, fe_0_13, g_0_6, rc_33, g_0_5, rc_30, g_0_2, rc_3, g_3_2, rc_4, g_16_2, rc_17, rc_6, rc_8, rc_10, rc_12, rc_14, rc_19, rc_21, rc_23, rc_25, rc_27, hs2, c_Table_count (g_4_2 hs2), c2', nI_les]
        refine w_pass hC2 hW2 (fun H3 hF3 hW3 => ?_)
        simp (maxDischargeDepth := 12) only [w142_0, w142_1, w142_2, w142_5, w142_8, w142_9, w142_12, w142_15, w142_16, w142_17, w142_18, w142_21, w142_22, w142_25, w142_28, w142_29, w142_31, w142_33, w142_36, w142_37, w142_39, w142_40, w142_43, w142_46, w142_49, w142_52, w142_53, w142_56, w142_57, w142_60, w142_63, w142_64, w142_65, w142_68, w142_71, w142_72, w142_75, w142_78, w142_79, w142_82, w142_85, w142_87, oK_some, cont_int, cont_intS, cont_none, cont_noneS, cont_long, cont_longS, true_and, and_true, false_and, and_false, true_implies, false_implies, not_true_eq_false, not_false_eq_true, eq_self, or_true, true_or, Option.isSome_some, hpf_length, hpa_length, bI_eq0, fi_hpa, fl_hpa, ar_hpf, fi_hpf_ne, fl_hpf_ne, ar_hpa_ne, hpa_hpa, hpf_hpf, nI_1, two_ne, fokZ, implies_true, Nat.reduceEqDiff, rc_0, g_0_13, sf_0_13, fe_0_13, g_0_6, rc_33, g_0_5, rc_30, g_0_2, rc_3, g_3_2, rc_4, g_16_2, rc_17, rc_6, rc_8, rc_10, rc_12, rc_14, rc_19, rc_21, rc_23, rc_25, rc_27, hF3.len]
        refine hw (fun j hj => ?_) H3 _ (hF2.trans (hF3.mono (by decide) (by decide))) hW3
        rcases Nat.lt_or_ge j i with q | q
        · exact hno j q
        · rw [show j = i by omega]; exact hnk
      · intro k hk hw2 hnk
        have ei : decide ((ar H2 36).getD k 0 < 10) = p i k := by rw [hW2.1.1 k hk, hpi]
        rw [w142_38]
        simp (maxDischargeDepth := 12) only [w142_0, w142_1, w142_2, w142_5, w142_8, w142_9, w142_12, w142_15, w142_16, w142_17, w142_18, w142_21, w142_22, w142_25, w142_28, w142_29, w142_31, w142_33, w142_36, w142_37, w142_39, w142_40, w142_43, w142_46, w142_49, w142_52, w142_53, w142_56, w142_57, w142_60, w142_63, w142_64, w142_65, w142_68, w142_71, w142_72, w142_75, w142_78, w142_79, w142_82, w142_85, w142_87, oK_some, cont_int, cont_intS, cont_none, cont_noneS, cont_long, cont_longS, true_and, and_true, false_and, and_false, true_implies, false_implies, not_true_eq_false, not_false_eq_true, eq_self, or_true, true_or, Option.isSome_some, hpf_length, hpa_length, bI_eq0, fi_hpa, fl_hpa, ar_hpf, fi_hpf_ne, fl_hpf_ne, ar_hpa_ne, hpa_hpa, hpf_hpf, nI_1, two_ne, fokZ, implies_true, Nat.reduceEqDiff, rc_0, g_0_13, sf_0_13, fe_0_13, g_0_6, rc_33, g_0_5, rc_30, g_0_2, rc_3, g_3_2, rc_4, g_16_2, rc_17, rc_6, rc_8, rc_10, rc_12, rc_14, rc_19, rc_21, rc_23, rc_25, rc_27, hs2, c_Table_count (g_4_2 hs2), c2', nI_lef hk (by omega : n < 2147483648), w_doubts hs2 (by omega : k < 7), ei]
        cases hpv : p i k
        · simp only [oK_some, cont_int, cont_intS, cont_none, cont_noneS, cont_long, cont_longS, true_and, and_true, false_and, and_false, true_implies, false_implies, not_true_eq_false, not_false_eq_true, eq_self, or_true, true_or, Option.isSome_some, hpf_length, hpa_length, bI_eq0, fi_hpa, fl_hpa, ar_hpf, fi_hpf_ne, fl_hpf_ne, ar_hpa_ne, hpa_hpa, hpf_hpf, nI_1, two_ne, fokZ, implies_true, Nat.reduceEqDiff]
          refine hw2 (fun j hj => ?_)
          rcases Nat.lt_or_ge j k with q | q
          · exact hnk j q
          · rw [show j = k by omega]; exact hpv
        · simp only [oK_some, cont_int, cont_intS, cont_none, cont_noneS, cont_long, cont_longS, true_and, and_true, false_and, and_false, true_implies, false_implies, not_true_eq_false, not_false_eq_true, eq_self, or_true, true_or, Option.isSome_some, hpf_length, hpa_length, bI_eq0, fi_hpa, fl_hpa, ar_hpf, fi_hpf_ne, fl_hpf_ne, ar_hpa_ne, hpa_hpa, hpf_hpf, nI_1, two_ne, fokZ, implies_true, Nat.reduceEqDiff, Bool.true_eq_false]
          rw [fst2_hit hi hk hpv hnk hno] at hQ
          exact cr_ok hS hF2 (by decide) (by decide) (by decide) (by decide) hQ
  · rw [if_neg hp, if_neg hp] at hQ
    simp (maxDischargeDepth := 12) only [w142_0, w142_1, w142_2, w142_5, w142_8, w142_9, w142_12, w142_15, w142_16, w142_17, w142_18, w142_21, w142_22, w142_25, w142_28, w142_29, w142_31, w142_33, w142_36, w142_37, w142_39, w142_40, w142_43, w142_46, w142_49, w142_52, w142_53, w142_56, w142_57, w142_60, w142_63, w142_64, w142_65, w142_68, w142_71, w142_72, w142_75, w142_78, w142_79, w142_82, w142_85, w142_87, oK_some, cont_int, cont_intS, cont_none, cont_noneS, cont_long, cont_longS, true_and, and_true, false_and, and_false, true_implies, false_implies, not_true_eq_false, not_false_eq_true, eq_self, or_true, true_or, Option.isSome_some, hpf_length, hpa_length, bI_eq0, fi_hpa, fl_hpa, ar_hpf, fi_hpf_ne, fl_hpf_ne, ar_hpa_ne, hpa_hpa, hpf_hpf, nI_1, two_ne, fokZ, implies_true, Nat.reduceEqDiff, rc_0, g_0_13, sf_0_13, fe_0_13, g_0_6, rc_33, g_0_5, rc_30, g_0_2, rc_3, g_3_2, rc_4, g_16_2, rc_17, rc_6, rc_8, rc_10, rc_12, rc_14, rc_19, rc_21, rc_23, rc_25, rc_27, hS, c_slopeTrouble hC, hp, if_false, show ((1 : Int32) = 0) = False from eq_false (by decide)]
    exact cr_no hS hQ
theorem C_worstDay (hC : CIv H R st n nS nW nG nU nN) (hQ : CR H Q (if 0 < n then (forN (wrF (fun i => ones (dbt n (daysM R (allU nU) n nW nG nU i st)))) 41 (0, -1)).1 else -1) (if 0 < n then 0 else 1)) : Wp scr (d + 5) 143 0 [some (.ref 0), none, none, none, none] [] H Q := by
  have hS := hC.shp
  obtain ⟨c2, c3, c4, c5, c6, c7, b2, b3, b4, b5, b6, b7⟩ := id hC.1.2.1
  have hs0 := sf_0_13 (v := 0) hS
  have hC0 := hC.tr (v := 0)
  by_cases hp : 0 < n
  · rw [if_pos hp, if_pos hp] at hQ
    generalize hcd : (fun i => ones (dbt n (daysM R (allU nU) n nW nG nU i st))) = c at hQ
    have hci : ∀ i, ones (dbt n (daysM R (allU nU) n nW nG nU i st)) = c i := fun i => by rw [← hcd]
    simp (maxDischargeDepth := 12) only [w143_0, w143_1, w143_2, w143_5, w143_8, w143_9, w143_12, w143_15, w143_16, w143_17, w143_18, w143_19, w143_20, w143_21, w143_22, w143_25, w143_26, w143_29, w143_32, w143_33, w143_35, w143_37, w143_40, w143_41, w143_44, w143_47, w143_50, w143_52, w143_54, w143_55, w143_58, w143_60, w143_61, w143_62, w143_63, w143_64, w143_67, w143_70, w143_71, w143_74, w143_77, w143_78, oK_some, cont_int, cont_intS, cont_none, cont_noneS, cont_long, cont_longS, true_and, and_true, false_and, and_false, true_implies, false_implies, not_true_eq_false, not_false_eq_true, eq_self, or_true, true_or, Option.isSome_some, hpf_length, hpa_length, bI_eq0, fi_hpa, fl_hpa, ar_hpf, fi_hpf_ne, fl_hpf_ne, ar_hpa_ne, hpa_hpa, hpf_hpf, nI_1, two_ne, fokZ, implies_true, Nat.reduceEqDiff, rc_0, g_0_13, sf_0_13, fe_0_13, g_0_6, rc_33, g_0_5, rc_30, hS, c_slopeTrouble hC, hp, if_true, hs0]
    refine w_start hC0 (fun H1 hF1 hW1 => ?_)
    simp (maxDischargeDepth := 12) only [w143_0, w143_1, w143_2, w143_5, w143_8, w143_9, w143_12, w143_15, w143_16, w143_17, w143_18, w143_19, w143_20, w143_21, w143_22, w143_25, w143_26, w143_29, w143_32, w143_33, w143_35, w143_37, w143_40, w143_41, w143_44, w143_47, w143_50, w143_52, w143_54, w143_55, w143_58, w143_60, w143_61, w143_62, w143_63, w143_64, w143_67, w143_70, w143_71, w143_74, w143_77, w143_78, oK_some, cont_int, cont_intS, cont_none, cont_noneS, cont_long, cont_longS, true_and, and_true, false_and, and_false, true_implies, false_implies, not_true_eq_false, not_false_eq_true, eq_self, or_true, true_or, Option.isSome_some, hpf_length, hpa_length, bI_eq0, fi_hpa, fl_hpa, ar_hpf, fi_hpf_ne, fl_hpf_ne, ar_hpa_ne, hpa_hpa, hpf_hpf, nI_1, two_ne, fokZ, implies_true, Nat.reduceEqDiff, rc_0, g_0_13, sf_0_13, fe_0_13, g_0_6, rc_33, g_0_5, rc_30, hF1.len]
    have key := down (P := fun i => ∀ H2, ∀ o4 : Option Value, Fg [33, 34, 36, 38, 40, 42] [] (hpf H 0 13 (.int 0)) H2 → Wk H2 (daysM R (allU nU) n nW nG nU i st) (allU nU) n nS nW → Wp scr (d + 5) 143 34 [some (.ref 0), some (.int (forN (wrF c) i (0, -1)).1), some (.int (forN (wrF c) i (0, -1)).2), some (.int (nI i)), o4] [] H2 Q) 41 ?_ ?_
    · exact key H1 none (hF1.mono (by decide) (by decide)) hW1
    · intro H2 o2 hF2 hW2
      rw [w143_34]
      simp (maxDischargeDepth := 12) only [w143_0, w143_1, w143_2, w143_5, w143_8, w143_9, w143_12, w143_15, w143_16, w143_17, w143_18, w143_19, w143_20, w143_21, w143_22, w143_25, w143_26, w143_29, w143_32, w143_33, w143_35, w143_37, w143_40, w143_41, w143_44, w143_47, w143_50, w143_52, w143_54, w143_55, w143_58, w143_60, w143_61, w143_62, w143_63, w143_64, w143_67, w143_70, w143_71, w143_74, w143_77, w143_78, oK_some, cont_int, cont_intS, cont_none, cont_noneS, cont_long, cont_longS, true_and, and_true, false_and, and_false, true_implies, false_implies, not_true_eq_false, not_false_eq_true, eq_self, or_true, true_or, Option.isSome_some, hpf_length, hpa_length, bI_eq0, fi_hpa, fl_hpa, ar_hpf, fi_hpf_ne, fl_hpf_ne, ar_hpa_ne, hpa_hpa, hpf_hpf, nI_1, two_ne, fokZ, implies_true, Nat.reduceEqDiff, rc_0, g_0_13, sf_0_13, fe_0_13, g_0_6, rc_33, g_0_5, rc_30, l40t]
      exact cr_ok hS hF2 (by decide) (by decide) (by decide) (by decide) hQ
    · intro i hi hw H2 o2 hF2 hW2
      have hC2 := hC0.1.of hF2 (by decide) (by decide)
      have hs2 := hF2.shp
      rw [forN_succ] at hw
      generalize forN (wrF c) i (0, -1) = p at hw ⊢
      obtain ⟨p1, p2⟩ := p
      rw [w143_34]
      simp (maxDischargeDepth := 12) only [w143_0, w143_1, w143_2, w143_5, w143_8, w143_9, w143_12, w143_15, w143_16, w143_17, w143_18, w143_19, w143_20, w143_21, w143_22, w143_25, w143_26, w143_29, w143_32, w143_33, w143_35, w143_37, w143_40, w143_41, w143_44, w143_47, w143_50, w143_52, w143_54, w143_55, w143_58, w143_60, w143_61, w143_62, w143_63, w143_64, w143_67, w143_70, w143_71, w143_74, w143_77, w143_78, oK_some, cont_int, cont_intS, cont_none, cont_noneS, cont_long, cont_longS, true_and, and_true, false_and, and_false, true_implies, false_implies, not_true_eq_false, not_false_eq_true, eq_self, or_true, true_or, Option.isSome_some, hpf_length, hpa_length, bI_eq0, fi_hpa, fl_hpa, ar_hpf, fi_hpf_ne, fl_hpf_ne, ar_hpa_ne, hpa_hpa, hpf_hpf, nI_1, two_ne, fokZ, implies_true, Nat.reduceEqDiff, rc_0, g_0_13, sf_0_13, fe_0_13, g_0_6, rc_33, g_0_5, rc_30, hs2, l40f hi, w_doubting hC2 hW2.1.1, c_bcD b2, hci]
      unfold wrF at hw
      by_cases hc : p2 < c i
      · have h3 : ¬ c i ≤ p2 := by rw [Int32.not_le]; exact hc
        simp only [hc, if_true] at hw
        simp only [h3, oK_some, cont_int, cont_intS, cont_none, cont_noneS, cont_long, cont_longS, true_and, and_true, false_and, and_false, true_implies, false_implies, not_true_eq_false, not_false_eq_true, eq_self, or_true, true_or, Option.isSome_some, hpf_length, hpa_length, bI_eq0, fi_hpa, fl_hpa, ar_hpf, fi_hpf_ne, fl_hpf_ne, ar_hpa_ne, hpa_hpa, hpf_hpf, nI_1, two_ne, fokZ, implies_true, Nat.reduceEqDiff]
        refine w_pass hC2 hW2 (fun H3 hF3 hW3 => ?_)
        simp (maxDischargeDepth := 12) only [w143_0, w143_1, w143_2, w143_5, w143_8, w143_9, w143_12, w143_15, w143_16, w143_17, w143_18, w143_19, w143_20, w143_21, w143_22, w143_25, w143_26, w143_29, w143_32, w143_33, w143_35, w143_37, w143_40, w143_41, w143_44, w143_47, w143_50, w143_52, w143_54, w143_55, w143_58, w143_60, w143_61, w143_62, w143_63, w143_64, w143_67, w143_70, w143_71, w143_74, w143_77, w143_78, oK_some, cont_int, cont_intS, cont_none, cont_noneS, cont_long, cont_longS, true_and, and_true, false_and, and_false, true_implies, false_implies, not_true_eq_false, not_false_eq_true, eq_self, or_true, true_or, Option.isSome_some, hpf_length, hpa_length, bI_eq0, fi_hpa, fl_hpa, ar_hpf, fi_hpf_ne, fl_hpf_ne, ar_hpa_ne, hpa_hpa, hpf_hpf, nI_1, two_ne, fokZ, implies_true, Nat.reduceEqDiff, rc_0, g_0_13, sf_0_13, fe_0_13, g_0_6, rc_33, g_0_5, rc_30, hF3.len]
        exact hw H3 _ (hF2.trans (hF3.mono (by decide) (by decide))) hW3
      · have h3 : c i ≤ p2 := by rw [← Int32.not_lt]; exact hc
        simp only [hc, if_false] at hw
        simp only [h3, oK_some, cont_int, cont_intS, cont_none, cont_noneS, cont_long, cont_longS, true_and, and_true, false_and, and_false, true_implies, false_implies, not_true_eq_false, not_false_eq_true, eq_self, or_true, true_or, Option.isSome_some, hpf_length, hpa_length, bI_eq0, fi_hpa, fl_hpa, ar_hpf, fi_hpf_ne, fl_hpf_ne, ar_hpa_ne, hpa_hpa, hpf_hpf, nI_1, two_ne, fokZ, implies_true, Nat.reduceEqDiff]
        refine w_pass hC2 hW2 (fun H3 hF3 hW3 => ?_)
        simp (maxDischargeDepth := 12) only [w143_0, w143_1, w143_2, w143_5, w143_8, w143_9, w143_12, w143_15, w143_16, w143_17, w143_18, w143_19, w143_20, w143_21, w143_22, w143_25, w143_26, w143_29, w143_32, w143_33, w143_35, w143_37, w143_40, w143_41, w143_44, w143_47, w143_50, w143_52, w143_54, w143_55, w143_58, w143_60, w143_61, w143_62, w143_63, w143_64, w143_67, w143_70, w143_71, w143_74, w143_77, w143_78, oK_some, cont_int, cont_intS, cont_none, cont_noneS, cont_long, cont_longS, true_and, and_true, false_and, and_false, true_implies, false_implies, not_true_eq_false, not_false_eq_true, eq_self, or_true, true_or, Option.isSome_some, hpf_length, hpa_length, bI_eq0, fi_hpa, fl_hpa, ar_hpf, fi_hpf_ne, fl_hpf_ne, ar_hpa_ne, hpa_hpa, hpf_hpf, nI_1, two_ne, fokZ, implies_true, Nat.reduceEqDiff, rc_0, g_0_13, sf_0_13, fe_0_13, g_0_6, rc_33, g_0_5, rc_30, hF3.len]
        exact hw H3 _ (hF2.trans (hF3.mono (by decide) (by decide))) hW3
  · rw [if_neg hp, if_neg hp] at hQ
    simp (maxDischargeDepth := 12) only [w143_0, w143_1, w143_2, w143_5, w143_8, w143_9, w143_12, w143_15, w143_16, w143_17, w143_18, w143_19, w143_20, w143_21, w143_22, w143_25, w143_26, w143_29, w143_32, w143_33, w143_35, w143_37, w143_40, w143_41, w143_44, w143_47, w143_50, w143_52, w143_54, w143_55, w143_58, w143_60, w143_61, w143_62, w143_63, w143_64, w143_67, w143_70, w143_71, w143_74, w143_77, w143_78, oK_some, cont_int, cont_intS, cont_none, cont_noneS, cont_long, cont_longS, true_and, and_true, false_and, and_false, true_implies, false_implies, not_true_eq_false, not_false_eq_true, eq_self, or_true, true_or, Option.isSome_some, hpf_length, hpa_length, bI_eq0, fi_hpa, fl_hpa, ar_hpf, fi_hpf_ne, fl_hpf_ne, ar_hpa_ne, hpa_hpa, hpf_hpf, nI_1, two_ne, fokZ, implies_true, Nat.reduceEqDiff, rc_0, g_0_13, sf_0_13, fe_0_13, g_0_6, rc_33, g_0_5, rc_30, hS, c_slopeTrouble hC, hp, if_false, show ((1 : Int32) = 0) = False from eq_false (by decide)]
    exact cr_no hS hQ
theorem C_still (hC : CIv H R st n nS nW nG nU nN) (hQ : CR H Q (if 0 < n then fnd (stlP R st n nW nG nU) 41 (-2) else -1) (if 0 < n then 0 else 1)) : Wp scr (d + 5) 144 0 [some (.ref 0), none] [] H Q := by
  have hS := hC.shp
  obtain ⟨c2, c3, c4, c5, c6, c7, b2, b3, b4, b5, b6, b7⟩ := id hC.1.2.1
  have hs0 := sf_0_13 (v := 0) hS
  have hC0 := hC.tr (v := 0)
  by_cases hp : 0 < n
  · rw [if_pos hp, if_pos hp] at hQ
    generalize hpd : stlP R st n nW nG nU = p at hQ
    have hpi : ∀ i, exN (fun k => decide (¬ (dayM R (allU nU) n nW nG nU (daysM R (allU nU) n nW nG nU i st)).getD k 0 = (daysM R (allU nU) n nW nG nU i st).getD k 0)) n = !(p i) := fun i => by
      rw [← hpd]
      show _ = !(!(exN _ n))
      rw [Bool.not_not]
      rfl
    simp (maxDischargeDepth := 12) only [w144_0, w144_1, w144_2, w144_5, w144_8, w144_9, w144_12, w144_15, w144_16, w144_17, w144_18, w144_21, w144_22, w144_25, w144_28, w144_29, w144_31, w144_33, w144_36, w144_37, w144_40, w144_43, w144_46, w144_47, w144_48, w144_51, w144_54, w144_56, oK_some, cont_int, cont_intS, cont_none, cont_noneS, cont_long, cont_longS, true_and, and_true, false_and, and_false, true_implies, false_implies, not_true_eq_false, not_false_eq_true, eq_self, or_true, true_or, Option.isSome_some, hpf_length, hpa_length, bI_eq0, fi_hpa, fl_hpa, ar_hpf, fi_hpf_ne, fl_hpf_ne, ar_hpa_ne, hpa_hpa, hpf_hpf, nI_1, two_ne, fokZ, implies_true, Nat.reduceEqDiff, rc_0, g_0_13, sf_0_13, fe_0_13, g_0_6, rc_33, g_0_5, rc_30, hS, c_slopeTrouble hC, hp, if_true, hs0]
    refine w_start hC0 (fun H1 hF1 hW1 => ?_)
    simp (maxDischargeDepth := 12) only [w144_0, w144_1, w144_2, w144_5, w144_8, w144_9, w144_12, w144_15, w144_16, w144_17, w144_18, w144_21, w144_22, w144_25, w144_28, w144_29, w144_31, w144_33, w144_36, w144_37, w144_40, w144_43, w144_46, w144_47, w144_48, w144_51, w144_54, w144_56, oK_some, cont_int, cont_intS, cont_none, cont_noneS, cont_long, cont_longS, true_and, and_true, false_and, and_false, true_implies, false_implies, not_true_eq_false, not_false_eq_true, eq_self, or_true, true_or, Option.isSome_some, hpf_length, hpa_length, bI_eq0, fi_hpa, fl_hpa, ar_hpf, fi_hpf_ne, fl_hpf_ne, ar_hpa_ne, hpa_hpa, hpf_hpf, nI_1, two_ne, fokZ, implies_true, Nat.reduceEqDiff, rc_0, g_0_13, sf_0_13, fe_0_13, g_0_6, rc_33, g_0_5, rc_30, hF1.len]
    have key := down (P := fun i => (∀ j, j < i → p j = false) → ∀ H2, Fg [33, 34, 36, 38, 40, 42] [] (hpf H 0 13 (.int 0)) H2 → Wk H2 (daysM R (allU nU) n nW nG nU i st) (allU nU) n nS nW → Wp scr (d + 5) 144 30 [some (.ref 0), some (.int (nI i))] [] H2 Q) 41 ?_ ?_
    · exact key (fun j hj => absurd hj (Nat.not_lt_zero _)) H1 (hF1.mono (by decide) (by decide)) hW1
    · intro hno H2 hF2 hW2
      rw [w144_30]
      simp (maxDischargeDepth := 12) only [w144_0, w144_1, w144_2, w144_5, w144_8, w144_9, w144_12, w144_15, w144_16, w144_17, w144_18, w144_21, w144_22, w144_25, w144_28, w144_29, w144_31, w144_33, w144_36, w144_37, w144_40, w144_43, w144_46, w144_47, w144_48, w144_51, w144_54, w144_56, oK_some, cont_int, cont_intS, cont_none, cont_noneS, cont_long, cont_longS, true_and, and_true, false_and, and_false, true_implies, false_implies, not_true_eq_false, not_false_eq_true, eq_self, or_true, true_or, Option.isSome_some, hpf_length, hpa_length, bI_eq0, fi_hpa, fl_hpa, ar_hpf, fi_hpf_ne, fl_hpf_ne, ar_hpa_ne, hpa_hpa, hpf_hpf, nI_1, two_ne, fokZ, implies_true, Nat.reduceEqDiff, rc_0, g_0_13, sf_0_13, fe_0_13, g_0_6, rc_33, g_0_5, rc_30, l40t]
      rw [fnd_miss hno] at hQ
      exact cr_ok hS hF2 (by decide) (by decide) (by decide) (by decide) hQ
    · intro i hi hw hno H2 hF2 hW2
      have hC2 := hC0.1.of hF2 (by decide) (by decide)
      have hs2 := hF2.shp
      rw [w144_30]
      simp (maxDischargeDepth := 12) only [w144_0, w144_1, w144_2, w144_5, w144_8, w144_9, w144_12, w144_15, w144_16, w144_17, w144_18, w144_21, w144_22, w144_25, w144_28, w144_29, w144_31, w144_33, w144_36, w144_37, w144_40, w144_43, w144_46, w144_47, w144_48, w144_51, w144_54, w144_56, oK_some, cont_int, cont_intS, cont_none, cont_noneS, cont_long, cont_longS, true_and, and_true, false_and, and_false, true_implies, false_implies, not_true_eq_false, not_false_eq_true, eq_self, or_true, true_or, Option.isSome_some, hpf_length, hpa_length, bI_eq0, fi_hpa, fl_hpa, ar_hpf, fi_hpf_ne, fl_hpf_ne, ar_hpa_ne, hpa_hpa, hpf_hpf, nI_1, two_ne, fokZ, implies_true, Nat.reduceEqDiff, rc_0, g_0_13, sf_0_13, fe_0_13, g_0_6, rc_33, g_0_5, rc_30, hs2, l40f hi]
      refine w_pass hC2 hW2 (fun H3 hF3 hW3 => ?_)
      have hF4 := hF2.trans (hF3.mono (T := [33, 34, 36, 38, 40, 42]) (G := []) (by decide) (by decide))
      rw [hpi]
      simp (maxDischargeDepth := 12) only [w144_0, w144_1, w144_2, w144_5, w144_8, w144_9, w144_12, w144_15, w144_16, w144_17, w144_18, w144_21, w144_22, w144_25, w144_28, w144_29, w144_31, w144_33, w144_36, w144_37, w144_40, w144_43, w144_46, w144_47, w144_48, w144_51, w144_54, w144_56, oK_some, cont_int, cont_intS, cont_none, cont_noneS, cont_long, cont_longS, true_and, and_true, false_and, and_false, true_implies, false_implies, not_true_eq_false, not_false_eq_true, eq_self, or_true, true_or, Option.isSome_some, hpf_length, hpa_length, bI_eq0, fi_hpa, fl_hpa, ar_hpf, fi_hpf_ne, fl_hpf_ne, ar_hpa_ne, hpa_hpa, hpf_hpf, nI_1, two_ne, fokZ, implies_true, Nat.reduceEqDiff, rc_0, g_0_13, sf_0_13, fe_0_13, g_0_6, rc_33, g_0_5, rc_30, hF3.len]
      cases hpv : p i
      · simp only [Bool.not_false, Bool.true_eq_false, oK_some, cont_int, cont_intS, cont_none, cont_noneS, cont_long, cont_longS, true_and, and_true, false_and, and_false, true_implies, false_implies, not_true_eq_false, not_false_eq_true, eq_self, or_true, true_or, Option.isSome_some, hpf_length, hpa_length, bI_eq0, fi_hpa, fl_hpa, ar_hpf, fi_hpf_ne, fl_hpf_ne, ar_hpa_ne, hpa_hpa, hpf_hpf, nI_1, two_ne, fokZ, implies_true, Nat.reduceEqDiff]
        refine hw (fun j hj => ?_) H3 hF4 hW3
        rcases Nat.lt_or_ge j i with q | q
        · exact hno j q
        · rw [show j = i by omega]; exact hpv
      · simp only [Bool.not_true, oK_some, cont_int, cont_intS, cont_none, cont_noneS, cont_long, cont_longS, true_and, and_true, false_and, and_false, true_implies, false_implies, not_true_eq_false, not_false_eq_true, eq_self, or_true, true_or, Option.isSome_some, hpf_length, hpa_length, bI_eq0, fi_hpa, fl_hpa, ar_hpf, fi_hpf_ne, fl_hpf_ne, ar_hpa_ne, hpa_hpa, hpf_hpf, nI_1, two_ne, fokZ, implies_true, Nat.reduceEqDiff]
        rw [fnd_hit hi hpv hno] at hQ
        exact cr_ok hS hF4 (by decide) (by decide) (by decide) (by decide) hQ
  · rw [if_neg hp, if_neg hp] at hQ
    simp (maxDischargeDepth := 12) only [w144_0, w144_1, w144_2, w144_5, w144_8, w144_9, w144_12, w144_15, w144_16, w144_17, w144_18, w144_21, w144_22, w144_25, w144_28, w144_29, w144_31, w144_33, w144_36, w144_37, w144_40, w144_43, w144_46, w144_47, w144_48, w144_51, w144_54, w144_56, oK_some, cont_int, cont_intS, cont_none, cont_noneS, cont_long, cont_longS, true_and, and_true, false_and, and_false, true_implies, false_implies, not_true_eq_false, not_false_eq_true, eq_self, or_true, true_or, Option.isSome_some, hpf_length, hpa_length, bI_eq0, fi_hpa, fl_hpa, ar_hpf, fi_hpf_ne, fl_hpf_ne, ar_hpa_ne, hpa_hpa, hpf_hpf, nI_1, two_ne, fokZ, implies_true, Nat.reduceEqDiff, rc_0, g_0_13, sf_0_13, fe_0_13, g_0_6, rc_33, g_0_5, rc_30, hS, c_slopeTrouble hC, hp, if_false, show ((1 : Int32) = 0) = False from eq_false (by decide)]
    exact cr_no hS hQ
theorem C_harvest {m : Int32} (hC : CIv H R st n nS nW nG nU nN) (hQ : CR H Q (if whyF (decide (0 < n)) m 40 = 0 then forN (hvF R n (fun i => daysM R (allU nU) n nW nG nU i st)) m.toNatClampNeg 0 else -1) (whyF (decide (0 < n)) m 40)) : Wp scr (d + 5) 145 0 [some (.ref 0), some (.int m)] [] H Q := by
  have hS := hC.shp
  obtain ⟨c2, c3, c4, c5, c6, c7, b2, b3, b4, b5, b6, b7⟩ := id hC.1.2.1
  have hs0 := sf_0_13 (v := 0) hS
  have hC0 := hC.tr (v := 0)
  by_cases hw : whyF (decide (0 < n)) m 40 = 0
  · rw [hw, if_pos rfl] at hQ
    obtain ⟨hk, hm⟩ := whyF_0 hw
    obtain ⟨em, lm⟩ := of_in (n := 40) hm (by omega)
    simp (maxDischargeDepth := 12) only [w145_0, w145_1, w145_2, w145_3, w145_6, w145_9, w145_10, w145_13, w145_16, w145_17, w145_18, w145_19, w145_22, w145_23, w145_26, w145_29, w145_30, w145_33, w145_34, w145_37, oK_some, cont_int, cont_intS, cont_none, cont_noneS, cont_long, cont_longS, true_and, and_true, false_and, and_false, true_implies, false_implies, not_true_eq_false, not_false_eq_true, eq_self, or_true, true_or, Option.isSome_some, hpf_length, hpa_length, bI_eq0, fi_hpa, fl_hpa, ar_hpf, fi_hpf_ne, fl_hpf_ne, ar_hpa_ne, hpa_hpa, hpf_hpf, nI_1, two_ne, fokZ, implies_true, Nat.reduceEqDiff, rc_0, g_0_13, sf_0_13, fe_0_13, g_0_6, rc_33, g_0_5, rc_30, hS, c_daysTrouble hC, hw, hs0]
    generalize m.toNatClampNeg = mm at em lm hQ
    subst em
    refine w_start hC0 (fun H1 hF1 hW1 => ?_)
    have hC1 := hC0.1.of hF1 (by decide) (by decide)
    have hs1 := hF1.shp
    simp (maxDischargeDepth := 12) only [w145_0, w145_1, w145_2, w145_3, w145_6, w145_9, w145_10, w145_13, w145_16, w145_17, w145_18, w145_19, w145_22, w145_23, w145_26, w145_29, w145_30, w145_33, w145_34, w145_37, oK_some, cont_int, cont_intS, cont_none, cont_noneS, cont_long, cont_longS, true_and, and_true, false_and, and_false, true_implies, false_implies, not_true_eq_false, not_false_eq_true, eq_self, or_true, true_or, Option.isSome_some, hpf_length, hpa_length, bI_eq0, fi_hpa, fl_hpa, ar_hpf, fi_hpf_ne, fl_hpf_ne, ar_hpa_ne, hpa_hpa, hpf_hpf, nI_1, two_ne, fokZ, implies_true, Nat.reduceEqDiff, rc_0, g_0_13, sf_0_13, fe_0_13, g_0_6, rc_33, g_0_5, rc_30, hF1.len, hs1]
    refine w_gather hC1 hW1 (by omega) (fun H2 hF2 => ?_)
    simp (maxDischargeDepth := 12) only [w145_0, w145_1, w145_2, w145_3, w145_6, w145_9, w145_10, w145_13, w145_16, w145_17, w145_18, w145_19, w145_22, w145_23, w145_26, w145_29, w145_30, w145_33, w145_34, w145_37, oK_some, cont_int, cont_intS, cont_none, cont_noneS, cont_long, cont_longS, true_and, and_true, false_and, and_false, true_implies, false_implies, not_true_eq_false, not_false_eq_true, eq_self, or_true, true_or, Option.isSome_some, hpf_length, hpa_length, bI_eq0, fi_hpa, fl_hpa, ar_hpf, fi_hpf_ne, fl_hpf_ne, ar_hpa_ne, hpa_hpa, hpf_hpf, nI_1, two_ne, fokZ, implies_true, Nat.reduceEqDiff, rc_0, g_0_13, sf_0_13, fe_0_13, g_0_6, rc_33, g_0_5, rc_30, hF2.len]
    have hF3 := (hF1.mono (T := [33, 34, 36, 38, 40, 42]) (G := []) (by decide) (by decide)).trans (hF2.mono (by decide) (by decide))
    exact cr_ok hS hF3 (by decide) (by decide) (by decide) (by decide) hQ
  · rw [if_neg hw] at hQ
    simp (maxDischargeDepth := 12) only [w145_0, w145_1, w145_2, w145_3, w145_6, w145_9, w145_10, w145_13, w145_16, w145_17, w145_18, w145_19, w145_22, w145_23, w145_26, w145_29, w145_30, w145_33, w145_34, w145_37, oK_some, cont_int, cont_intS, cont_none, cont_noneS, cont_long, cont_longS, true_and, and_true, false_and, and_false, true_implies, false_implies, not_true_eq_false, not_false_eq_true, eq_self, or_true, true_or, Option.isSome_some, hpf_length, hpa_length, bI_eq0, fi_hpa, fl_hpa, ar_hpf, fi_hpf_ne, fl_hpf_ne, ar_hpa_ne, hpa_hpa, hpf_hpf, nI_1, two_ne, fokZ, implies_true, Nat.reduceEqDiff, rc_0, g_0_13, sf_0_13, fe_0_13, g_0_6, rc_33, g_0_5, rc_30, hS, c_daysTrouble hC, hw]
    exact cr_no hS hQ
theorem C_faithIn (hgo : GoC) {k m : Int32} (hC : CIv H R st n nS nW nG nU nN) (hg : Gb st) (hQ : CR H Q (if whyF (decide (0 ≤ k ∧ k < nI n)) m 40 = 0 then (daysM R (allU nU) n nW nG nU m.toNatClampNeg st).getD k.toNatClampNeg 0 else -1) (whyF (decide (0 ≤ k ∧ k < nI n)) m 40)) : Wp scr (d + 5) 139 0 [some (.ref 0), some (.int k), some (.int m)] [] H Q := by
  have hS := hC.shp
  obtain ⟨c2, c3, c4, c5, c6, c7, b2, b3, b4, b5, b6, b7⟩ := id hC.1.2.1
  have hs0 := sf_0_13 (v := 0) hS
  have hC0 := hC.tr (v := 0)
  by_cases hw : whyF (decide (0 ≤ k ∧ k < nI n)) m 40 = 0
  · rw [hw, if_pos rfl] at hQ
    obtain ⟨hk, hm⟩ := whyF_0 hw
    obtain ⟨em, lm⟩ := of_in (n := 40) hm (by omega)
    obtain ⟨ek, lk⟩ := of_row (of_decide_eq_true hk) (by omega)
    simp (maxDischargeDepth := 12) only [w139_0, w139_1, w139_2, w139_3, w139_4, w139_7, w139_10, w139_11, w139_14, w139_17, w139_18, w139_19, w139_20, w139_23, w139_24, w139_27, w139_30, w139_31, w139_34, w139_35, w139_38, w139_39, w139_42, w139_43, w139_46, oK_some, cont_int, cont_intS, cont_none, cont_noneS, cont_long, cont_longS, true_and, and_true, false_and, and_false, true_implies, false_implies, not_true_eq_false, not_false_eq_true, eq_self, or_true, true_or, Option.isSome_some, hpf_length, hpa_length, bI_eq0, fi_hpa, fl_hpa, ar_hpf, fi_hpf_ne, fl_hpf_ne, ar_hpa_ne, hpa_hpa, hpf_hpf, nI_1, two_ne, fokZ, implies_true, Nat.reduceEqDiff, rc_0, g_0_13, sf_0_13, fe_0_13, g_0_6, rc_33, g_0_5, rc_30, hS, c_rowDaysTrouble hC, hw, hs0]
    generalize m.toNatClampNeg = mm at em lm hQ
    generalize k.toNatClampNeg = kk at ek lk hQ
    subst em
    subst ek
    refine w_start hC0 (fun H1 hF1 hW1 => ?_)
    have hC1 := hC0.1.of hF1 (by decide) (by decide)
    have hs1 := hF1.shp
    simp (maxDischargeDepth := 12) only [w139_0, w139_1, w139_2, w139_3, w139_4, w139_7, w139_10, w139_11, w139_14, w139_17, w139_18, w139_19, w139_20, w139_23, w139_24, w139_27, w139_30, w139_31, w139_34, w139_35, w139_38, w139_39, w139_42, w139_43, w139_46, oK_some, cont_int, cont_intS, cont_none, cont_noneS, cont_long, cont_longS, true_and, and_true, false_and, and_false, true_implies, false_implies, not_true_eq_false, not_false_eq_true, eq_self, or_true, true_or, Option.isSome_some, hpf_length, hpa_length, bI_eq0, fi_hpa, fl_hpa, ar_hpf, fi_hpf_ne, fl_hpf_ne, ar_hpa_ne, hpa_hpa, hpf_hpf, nI_1, two_ne, fokZ, implies_true, Nat.reduceEqDiff, rc_0, g_0_13, sf_0_13, fe_0_13, g_0_6, rc_33, g_0_5, rc_30, hF1.len, hs1]
    refine hgo _ _ _ _ R st (allU nU) n nS nW nG nU nN mm hC1 hW1 hg lm (fun H2 hF2 h2 => ?_)
    have hs2 := hF2.shp
    simp (maxDischargeDepth := 12) only [w139_0, w139_1, w139_2, w139_3, w139_4, w139_7, w139_10, w139_11, w139_14, w139_17, w139_18, w139_19, w139_20, w139_23, w139_24, w139_27, w139_30, w139_31, w139_34, w139_35, w139_38, w139_39, w139_42, w139_43, w139_46, oK_some, cont_int, cont_intS, cont_none, cont_noneS, cont_long, cont_longS, true_and, and_true, false_and, and_false, true_implies, false_implies, not_true_eq_false, not_false_eq_true, eq_self, or_true, true_or, Option.isSome_some, hpf_length, hpa_length, bI_eq0, fi_hpa, fl_hpa, ar_hpf, fi_hpf_ne, fl_hpf_ne, ar_hpa_ne, hpa_hpa, hpf_hpf, nI_1, two_ne, fokZ, implies_true, Nat.reduceEqDiff, rc_0, g_0_13, sf_0_13, fe_0_13, g_0_6, rc_33, g_0_5, rc_30, hF2.len, hs2, w_faithOf hs2 (by omega : kk < 7), h2 kk lk]
    have hF3 := (hF1.mono (T := [33, 34, 36, 38, 40, 42]) (G := []) (by decide) (by decide)).trans (hF2.mono (by decide) (by decide))
    exact cr_ok hS hF3 (by decide) (by decide) (by decide) (by decide) hQ
  · rw [if_neg hw] at hQ
    simp (maxDischargeDepth := 12) only [w139_0, w139_1, w139_2, w139_3, w139_4, w139_7, w139_10, w139_11, w139_14, w139_17, w139_18, w139_19, w139_20, w139_23, w139_24, w139_27, w139_30, w139_31, w139_34, w139_35, w139_38, w139_39, w139_42, w139_43, w139_46, oK_some, cont_int, cont_intS, cont_none, cont_noneS, cont_long, cont_longS, true_and, and_true, false_and, and_false, true_implies, false_implies, not_true_eq_false, not_false_eq_true, eq_self, or_true, true_or, Option.isSome_some, hpf_length, hpa_length, bI_eq0, fi_hpa, fl_hpa, ar_hpf, fi_hpf_ne, fl_hpf_ne, ar_hpa_ne, hpa_hpa, hpf_hpf, nI_1, two_ne, fokZ, implies_true, Nat.reduceEqDiff, rc_0, g_0_13, sf_0_13, fe_0_13, g_0_6, rc_33, g_0_5, rc_30, hS, c_rowDaysTrouble hC, hw]
    exact cr_no hS hQ
theorem C_doubtersIn (hgo : GoC) {m : Int32} (hC : CIv H R st n nS nW nG nU nN) (hg : Gb st) (hQ : CR H Q (if whyF (decide (0 < n)) m 40 = 0 then dbt n (daysM R (allU nU) n nW nG nU m.toNatClampNeg st) else -1) (whyF (decide (0 < n)) m 40)) : Wp scr (d + 5) 140 0 [some (.ref 0), some (.int m)] [] H Q := by
  have hS := hC.shp
  obtain ⟨c2, c3, c4, c5, c6, c7, b2, b3, b4, b5, b6, b7⟩ := id hC.1.2.1
  have hs0 := sf_0_13 (v := 0) hS
  have hC0 := hC.tr (v := 0)
  by_cases hw : whyF (decide (0 < n)) m 40 = 0
  · rw [hw, if_pos rfl] at hQ
    obtain ⟨hk, hm⟩ := whyF_0 hw
    obtain ⟨em, lm⟩ := of_in (n := 40) hm (by omega)
    simp (maxDischargeDepth := 12) only [w140_0, w140_1, w140_2, w140_3, w140_6, w140_9, w140_10, w140_13, w140_16, w140_17, w140_18, w140_19, w140_22, w140_23, w140_26, w140_29, w140_30, w140_33, w140_34, w140_37, w140_38, w140_41, w140_44, oK_some, cont_int, cont_intS, cont_none, cont_noneS, cont_long, cont_longS, true_and, and_true, false_and, and_false, true_implies, false_implies, not_true_eq_false, not_false_eq_true, eq_self, or_true, true_or, Option.isSome_some, hpf_length, hpa_length, bI_eq0, fi_hpa, fl_hpa, ar_hpf, fi_hpf_ne, fl_hpf_ne, ar_hpa_ne, hpa_hpa, hpf_hpf, nI_1, two_ne, fokZ, implies_true, Nat.reduceEqDiff, rc_0, g_0_13, sf_0_13, fe_0_13, g_0_6, rc_33, g_0_5, rc_30, hS, c_daysTrouble hC, hw, hs0]
    generalize m.toNatClampNeg = mm at em lm hQ
    subst em
    refine w_start hC0 (fun H1 hF1 hW1 => ?_)
    have hC1 := hC0.1.of hF1 (by decide) (by decide)
    have hs1 := hF1.shp
    simp (maxDischargeDepth := 12) only [w140_0, w140_1, w140_2, w140_3, w140_6, w140_9, w140_10, w140_13, w140_16, w140_17, w140_18, w140_19, w140_22, w140_23, w140_26, w140_29, w140_30, w140_33, w140_34, w140_37, w140_38, w140_41, w140_44, oK_some, cont_int, cont_intS, cont_none, cont_noneS, cont_long, cont_longS, true_and, and_true, false_and, and_false, true_implies, false_implies, not_true_eq_false, not_false_eq_true, eq_self, or_true, true_or, Option.isSome_some, hpf_length, hpa_length, bI_eq0, fi_hpa, fl_hpa, ar_hpf, fi_hpf_ne, fl_hpf_ne, ar_hpa_ne, hpa_hpa, hpf_hpf, nI_1, two_ne, fokZ, implies_true, Nat.reduceEqDiff, rc_0, g_0_13, sf_0_13, fe_0_13, g_0_6, rc_33, g_0_5, rc_30, hF1.len, hs1]
    refine hgo _ _ _ _ R st (allU nU) n nS nW nG nU nN mm hC1 hW1 hg lm (fun H2 hF2 h2 => ?_)
    have hs2 := hF2.shp
    have hC2 := hC1.of hF2 (by decide) (by decide)
    simp (maxDischargeDepth := 12) only [w140_0, w140_1, w140_2, w140_3, w140_6, w140_9, w140_10, w140_13, w140_16, w140_17, w140_18, w140_19, w140_22, w140_23, w140_26, w140_29, w140_30, w140_33, w140_34, w140_37, w140_38, w140_41, w140_44, oK_some, cont_int, cont_intS, cont_none, cont_noneS, cont_long, cont_longS, true_and, and_true, false_and, and_false, true_implies, false_implies, not_true_eq_false, not_false_eq_true, eq_self, or_true, true_or, Option.isSome_some, hpf_length, hpa_length, bI_eq0, fi_hpa, fl_hpa, ar_hpf, fi_hpf_ne, fl_hpf_ne, ar_hpa_ne, hpa_hpa, hpf_hpf, nI_1, two_ne, fokZ, implies_true, Nat.reduceEqDiff, rc_0, g_0_13, sf_0_13, fe_0_13, g_0_6, rc_33, g_0_5, rc_30, hF2.len, hs2, w_doubting hC2 h2]
    have hF3 := (hF1.mono (T := [33, 34, 36, 38, 40, 42]) (G := []) (by decide) (by decide)).trans (hF2.mono (by decide) (by decide))
    exact cr_ok hS hF3 (by decide) (by decide) (by decide) (by decide) hQ
  · rw [if_neg hw] at hQ
    simp (maxDischargeDepth := 12) only [w140_0, w140_1, w140_2, w140_3, w140_6, w140_9, w140_10, w140_13, w140_16, w140_17, w140_18, w140_19, w140_22, w140_23, w140_26, w140_29, w140_30, w140_33, w140_34, w140_37, w140_38, w140_41, w140_44, oK_some, cont_int, cont_intS, cont_none, cont_noneS, cont_long, cont_longS, true_and, and_true, false_and, and_false, true_implies, false_implies, not_true_eq_false, not_false_eq_true, eq_self, or_true, true_or, Option.isSome_some, hpf_length, hpa_length, bI_eq0, fi_hpa, fl_hpa, ar_hpf, fi_hpf_ne, fl_hpf_ne, ar_hpa_ne, hpa_hpa, hpf_hpf, nI_1, two_ne, fokZ, implies_true, Nat.reduceEqDiff, rc_0, g_0_13, sf_0_13, fe_0_13, g_0_6, rc_33, g_0_5, rc_30, hS, c_daysTrouble hC, hw]
    exact cr_no hS hQ
/-- grapes told lie in 0 .. 99 -/
def Vg (R : List Int32) (n : Nat) : Prop := (∃ b, b ≤ 99 ∧ rg R 0 = nI b) ∧ ∀ i, i < n → ∃ g, g ≤ 99 ∧ rg R (9 + 3 * i + 2) = nI g
theorem grp_b {k : Nat} (hV : Vg R n) (hk : k < n) : ∃ x, x ≤ 99 ∧ grpM R ws k = nI x := by
  obtain ⟨⟨b, hb, eb⟩, hg⟩ := hV
  obtain ⟨g, hg1, hg2⟩ := hg k hk
  unfold grpM mn
  rw [eb, hg2]
  split
  · split
    · exact ⟨g, hg1, rfl⟩
    · exact ⟨b, hb, rfl⟩
  · exact ⟨g, hg1, rfl⟩
theorem allG_b (hV : Vg R n) : ∀ m, m ≤ n → ∃ x, x ≤ 99 * m ∧ forN (allG R ws) m 0 = nI x
  | 0, _ => ⟨0, by omega, rfl⟩
  | m + 1, hm => by
    obtain ⟨x, hx, ex⟩ := allG_b hV m (by omega)
    obtain ⟨y, hy, ey⟩ := grp_b (ws := ws) hV (show m < n by omega)
    refine ⟨x + y, by omega, ?_⟩
    rw [forN_succ, ex]
    unfold allG
    rw [ey, nI_add]
theorem hv_b {D : Nat → List Int32} (hV : Vg R n) (hn : n ≤ 7) : ∀ m, ∃ x, x ≤ 693 * m ∧ forN (hvF R n D) m 0 = nI x
  | 0 => ⟨0, by omega, rfl⟩
  | m + 1 => by
    obtain ⟨x, hx, ex⟩ := hv_b (D := D) hV hn m
    obtain ⟨y, hy, ey⟩ := allG_b (ws := D (m + 1)) hV n (Nat.le_refl _)
    refine ⟨x + y, by omega, ?_⟩
    rw [forN_succ, ex]
    unfold hvF
    rw [ey, nI_add]
theorem C_bestSign {m : Int32} (hC : CIv H R st n nS nW nG nU nN) (hV : Vg R n) (hQ : CR H Q (if whyF (decide (0 < n)) m 40 = 0 then (forN (bsF (st.getD 7 0) (fun k => hvM R st n nW nG nU m.toNatClampNeg (1 <<< (nI k &&& 31)))) nG (-2, hvM R st n nW nG nU m.toNatClampNeg 0)).1 else -1) (whyF (decide (0 < n)) m 40)) : Wp scr (d + 5) 150 0 [some (.ref 0), some (.int m), none, none, none, none] [] H Q := by
  have hS := hC.shp
  obtain ⟨c2, c3, c4, c5, c6, c7, b2, b3, b4, b5, b6, b7⟩ := id hC.1.2.1
  have hs0 := sf_0_13 (v := 0) hS
  have hC0 := hC.tr (v := 0)
  by_cases hw : whyF (decide (0 < n)) m 40 = 0
  · rw [hw, if_pos rfl] at hQ
    obtain ⟨hk, hm⟩ := whyF_0 hw
    obtain ⟨em, lm⟩ := of_in (n := 40) hm (by omega)
    simp (maxDischargeDepth := 12) only [w150_0, w150_1, w150_2, w150_3, w150_6, w150_9, w150_10, w150_13, w150_16, w150_17, w150_18, w150_19, w150_22, w150_23, w150_26, w150_29, w150_30, w150_33, w150_34, w150_37, w150_38, w150_40, w150_41, w150_42, w150_46, w150_47, w150_50, w150_53, w150_56, w150_59, w150_60, w150_63, w150_66, w150_68, w150_69, w150_70, w150_71, w150_74, w150_75, w150_78, w150_79, w150_82, w150_83, w150_85, w150_86, w150_87, w150_90, w150_91, w150_94, w150_95, w150_98, w150_100, w150_102, w150_103, w150_106, w150_108, w150_109, w150_111, w150_112, w150_115, w150_118, w150_119, oK_some, cont_int, cont_intS, cont_none, cont_noneS, cont_long, cont_longS, true_and, and_true, false_and, and_false, true_implies, false_implies, not_true_eq_false, not_false_eq_true, eq_self, or_true, true_or, Option.isSome_some, hpf_length, hpa_length, bI_eq0, fi_hpa, fl_hpa, ar_hpf, fi_hpf_ne, fl_hpf_ne, ar_hpa_ne, hpa_hpa, hpf_hpf, nI_1, two_ne, fokZ, implies_true, Nat.reduceEqDiff, rc_0, g_0_13, sf_0_13, fe_0_13, g_0_6, rc_33, g_0_5, rc_30, g_0_2, rc_3, g_3_5, rc_10, g_16_5, rc_23, rc_4, rc_6, rc_8, rc_12, rc_14, rc_17, rc_19, rc_21, rc_25, rc_27, g_30_2, sf_30_2, fe_30_2, g_34_2, sf_34_2, fe_34_2, g_45_2, sf_45_2, fe_45_2, hS, c_daysTrouble hC, hw, hs0]
    generalize m.toNatClampNeg = mm at em lm hQ
    subst em
    refine w_start hC0 (fun H1 hF1 hW1 => ?_)
    have hC1 := hC0.1.of hF1 (by decide) (by decide)
    have hs1 := hF1.shp
    simp (maxDischargeDepth := 12) only [w150_0, w150_1, w150_2, w150_3, w150_6, w150_9, w150_10, w150_13, w150_16, w150_17, w150_18, w150_19, w150_22, w150_23, w150_26, w150_29, w150_30, w150_33, w150_34, w150_37, w150_38, w150_40, w150_41, w150_42, w150_46, w150_47, w150_50, w150_53, w150_56, w150_59, w150_60, w150_63, w150_66, w150_68, w150_69, w150_70, w150_71, w150_74, w150_75, w150_78, w150_79, w150_82, w150_83, w150_85, w150_86, w150_87, w150_90, w150_91, w150_94, w150_95, w150_98, w150_100, w150_102, w150_103, w150_106, w150_108, w150_109, w150_111, w150_112, w150_115, w150_118, w150_119, oK_some, cont_int, cont_intS, cont_none, cont_noneS, cont_long, cont_longS, true_and, and_true, false_and, and_false, true_implies, false_implies, not_true_eq_false, not_false_eq_true, eq_self, or_true, true_or, Option.isSome_some, hpf_length, hpa_length, bI_eq0, fi_hpa, fl_hpa, ar_hpf, fi_hpf_ne, fl_hpf_ne, ar_hpa_ne, hpa_hpa, hpf_hpf, nI_1, two_ne, fokZ, implies_true, Nat.reduceEqDiff, rc_0, g_0_13, sf_0_13, fe_0_13, g_0_6, rc_33, g_0_5, rc_30, g_0_2, rc_3, g_3_5, rc_10, g_16_5, rc_23, rc_4, rc_6, rc_8, rc_12, rc_14, rc_17, rc_19, rc_21, rc_25, rc_27, g_30_2, sf_30_2, fe_30_2, g_34_2, sf_34_2, fe_34_2, g_45_2, sf_45_2, fe_45_2, hF1.len, hs1]
    refine w_gather hC1 hW1 (by omega) (fun H2 hF2 => ?_)
    simp (maxDischargeDepth := 12) only [w150_0, w150_1, w150_2, w150_3, w150_6, w150_9, w150_10, w150_13, w150_16, w150_17, w150_18, w150_19, w150_22, w150_23, w150_26, w150_29, w150_30, w150_33, w150_34, w150_37, w150_38, w150_40, w150_41, w150_42, w150_46, w150_47, w150_50, w150_53, w150_56, w150_59, w150_60, w150_63, w150_66, w150_68, w150_69, w150_70, w150_71, w150_74, w150_75, w150_78, w150_79, w150_82, w150_83, w150_85, w150_86, w150_87, w150_90, w150_91, w150_94, w150_95, w150_98, w150_100, w150_102, w150_103, w150_106, w150_108, w150_109, w150_111, w150_112, w150_115, w150_118, w150_119, oK_some, cont_int, cont_intS, cont_none, cont_noneS, cont_long, cont_longS, true_and, and_true, false_and, and_false, true_implies, false_implies, not_true_eq_false, not_false_eq_true, eq_self, or_true, true_or, Option.isSome_some, hpf_length, hpa_length, bI_eq0, fi_hpa, fl_hpa, ar_hpf, fi_hpf_ne, fl_hpf_ne, ar_hpa_ne, hpa_hpa, hpf_hpf, nI_1, two_ne, fokZ, implies_true, Nat.reduceEqDiff, rc_0, g_0_13, sf_0_13, fe_0_13, g_0_6, rc_33, g_0_5, rc_30, g_0_2, rc_3, g_3_5, rc_10, g_16_5, rc_23, rc_4, rc_6, rc_8, rc_12, rc_14, rc_17, rc_19, rc_21, rc_25, rc_27, g_30_2, sf_30_2, fe_30_2, g_34_2, sf_34_2, fe_34_2, g_45_2, sf_45_2, fe_45_2, hF2.len]
    have hF3 := (hF1.mono (T := [33, 34, 36, 38, 40, 42]) (G := []) (by decide) (by decide)).trans (hF2.mono (by decide) (by decide))
    have e0 : forN (hvF R n (fun i => daysM R (allU nU) n nW nG nU i st)) mm 0 = hvM R st n nW nG nU mm 0 := by
      unfold hvM
      rw [wOr_0 hC.2.2.1]
    rw [e0]
    have h0 : ¬ hvM R st n nW nG nU mm 0 < (-1 : Int32) := by
      obtain ⟨x, hx, ex⟩ := hv_b (D := fun i => daysM R (allU nU) n nW nG nU i st) hV b2 mm
      rw [← e0, ex, Int32.lt_iff_toInt_lt, nI_toInt (by omega), show (-1 : Int32).toInt = -1 by decide]
      omega
    generalize hg : (fun k => hvM R st n nW nG nU mm (1 <<< (nI k &&& 31))) = g at hQ
    have hgi : ∀ k, forN (hvF R n (fun i => daysM R (allU nU) n nW nG nU i (wOr st (1 <<< (nI k &&& 31)) 0))) mm 0 = g k := fun k => by rw [← hg]; rfl
    generalize hvM R st n nW nG nU mm 0 = v0 at hQ h0 ⊢
    have key := down (P := fun i => ¬ (forN (bsF (st.getD 7 0) g) i (-2, v0)).2 < (-1 : Int32) → ∀ H4, ∀ o5 : Option Value, Fg [33, 34, 36, 38, 40, 42] [] (hpf H 0 13 (.int 0)) H4 → Wp scr (d + 5) 150 44 [some (.ref 0), some (.int (nI mm)), some (.int (forN (bsF (st.getD 7 0) g) i (-2, v0)).2), some (.int (forN (bsF (st.getD 7 0) g) i (-2, v0)).1), some (.int (nI i)), o5] [] H4 Q) nG ?_ ?_
    · exact key h0 H2 none hF3
    · intro _ H4 o5 hF4
      have hC4 := hC0.of hF4 (by decide) (by decide)
      have hs4 := hF4.shp
      have c5' := hC4.1.2.1.2.2.2.1
      rw [w150_44]
      simp (maxDischargeDepth := 12) only [w150_0, w150_1, w150_2, w150_3, w150_6, w150_9, w150_10, w150_13, w150_16, w150_17, w150_18, w150_19, w150_22, w150_23, w150_26, w150_29, w150_30, w150_33, w150_34, w150_37, w150_38, w150_40, w150_41, w150_42, w150_46, w150_47, w150_50, w150_53, w150_56, w150_59, w150_60, w150_63, w150_66, w150_68, w150_69, w150_70, w150_71, w150_74, w150_75, w150_78, w150_79, w150_82, w150_83, w150_85, w150_86, w150_87, w150_90, w150_91, w150_94, w150_95, w150_98, w150_100, w150_102, w150_103, w150_106, w150_108, w150_109, w150_111, w150_112, w150_115, w150_118, w150_119, oK_some, cont_int, cont_intS, cont_none, cont_noneS, cont_long, cont_longS, true_and, and_true, false_and, and_false, true_implies, false_implies, not_true_eq_false, not_false_eq_true, eq_self, or_true, true_or, Option.isSome_some, hpf_length, hpa_length, bI_eq0, fi_hpa, fl_hpa, ar_hpf, fi_hpf_ne, fl_hpf_ne, ar_hpa_ne, hpa_hpa, hpf_hpf, nI_1, two_ne, fokZ, implies_true, Nat.reduceEqDiff, rc_0, g_0_13, sf_0_13, fe_0_13, g_0_6, rc_33, g_0_5, rc_30, g_0_2, rc_3, g_3_5, rc_10, g_16_5, rc_23, rc_4, rc_6, rc_8, rc_12, rc_14, rc_17, rc_19, rc_21, rc_25, rc_27, g_30_2, sf_30_2, fe_30_2, g_34_2, sf_34_2, fe_34_2, g_45_2, sf_45_2, fe_45_2, hs4, c_Table_count (g_10_2 hs4), c5', nI_les]
      exact cr_ok hS hF4 (by decide) (by decide) (by decide) (by decide) hQ
    · intro i hi hw2 hge H4 o5 hF4
      have hC4 := hC0.of hF4 (by decide) (by decide)
      have hs4 := hF4.shp
      have c5' := hC4.1.2.1.2.2.2.1
      have f2 := hC4.2.1.2.2.1
      rw [forN_succ] at hw2
      generalize forN (bsF (st.getD 7 0) g) i (-2, v0) = p at hw2 hge ⊢
      obtain ⟨p1, p2'⟩ := p
      unfold bsF at hw2
      rw [w150_44]
      simp (maxDischargeDepth := 12) only [w150_0, w150_1, w150_2, w150_3, w150_6, w150_9, w150_10, w150_13, w150_16, w150_17, w150_18, w150_19, w150_22, w150_23, w150_26, w150_29, w150_30, w150_33, w150_34, w150_37, w150_38, w150_40, w150_41, w150_42, w150_46, w150_47, w150_50, w150_53, w150_56, w150_59, w150_60, w150_63, w150_66, w150_68, w150_69, w150_70, w150_71, w150_74, w150_75, w150_78, w150_79, w150_82, w150_83, w150_85, w150_86, w150_87, w150_90, w150_91, w150_94, w150_95, w150_98, w150_100, w150_102, w150_103, w150_106, w150_108, w150_109, w150_111, w150_112, w150_115, w150_118, w150_119, oK_some, cont_int, cont_intS, cont_none, cont_noneS, cont_long, cont_longS, true_and, and_true, false_and, and_false, true_implies, false_implies, not_true_eq_false, not_false_eq_true, eq_self, or_true, true_or, Option.isSome_some, hpf_length, hpa_length, bI_eq0, fi_hpa, fl_hpa, ar_hpf, fi_hpf_ne, fl_hpf_ne, ar_hpa_ne, hpa_hpa, hpf_hpf, nI_1, two_ne, fokZ, implies_true, Nat.reduceEqDiff, rc_0, g_0_13, sf_0_13, fe_0_13, g_0_6, rc_33, g_0_5, rc_30, g_0_2, rc_3, g_3_5, rc_10, g_16_5, rc_23, rc_4, rc_6, rc_8, rc_12, rc_14, rc_17, rc_19, rc_21, rc_25, rc_27, g_30_2, sf_30_2, fe_30_2, g_34_2, sf_34_2, fe_34_2, g_45_2, sf_45_2, fe_45_2, hs4, c_Table_count (g_10_2 hs4), c5', nI_lef hi (by omega : nG < 2147483648), f2, bit_hb (show i < 32 by omega)]
      cases hbt : hb (st.getD 7 0) (nI i)
      · simp only [hbt, Bool.false_eq_true, if_false] at hw2
        simp only [oK_some, cont_int, cont_intS, cont_none, cont_noneS, cont_long, cont_longS, true_and, and_true, false_and, and_false, true_implies, false_implies, not_true_eq_false, not_false_eq_true, eq_self, or_true, true_or, Option.isSome_some, hpf_length, hpa_length, bI_eq0, fi_hpa, fl_hpa, ar_hpf, fi_hpf_ne, fl_hpf_ne, ar_hpa_ne, hpa_hpa, hpf_hpf, nI_1, two_ne, fokZ, implies_true, Nat.reduceEqDiff]
        refine w_startWith hC4 (fun H5 hF5 hW5 => ?_)
        have hC5 := hC4.1.of hF5 (by decide) (by decide)
        have hs5 := hF5.shp
        simp (maxDischargeDepth := 12) only [w150_0, w150_1, w150_2, w150_3, w150_6, w150_9, w150_10, w150_13, w150_16, w150_17, w150_18, w150_19, w150_22, w150_23, w150_26, w150_29, w150_30, w150_33, w150_34, w150_37, w150_38, w150_40, w150_41, w150_42, w150_46, w150_47, w150_50, w150_53, w150_56, w150_59, w150_60, w150_63, w150_66, w150_68, w150_69, w150_70, w150_71, w150_74, w150_75, w150_78, w150_79, w150_82, w150_83, w150_85, w150_86, w150_87, w150_90, w150_91, w150_94, w150_95, w150_98, w150_100, w150_102, w150_103, w150_106, w150_108, w150_109, w150_111, w150_112, w150_115, w150_118, w150_119, oK_some, cont_int, cont_intS, cont_none, cont_noneS, cont_long, cont_longS, true_and, and_true, false_and, and_false, true_implies, false_implies, not_true_eq_false, not_false_eq_true, eq_self, or_true, true_or, Option.isSome_some, hpf_length, hpa_length, bI_eq0, fi_hpa, fl_hpa, ar_hpf, fi_hpf_ne, fl_hpf_ne, ar_hpa_ne, hpa_hpa, hpf_hpf, nI_1, two_ne, fokZ, implies_true, Nat.reduceEqDiff, rc_0, g_0_13, sf_0_13, fe_0_13, g_0_6, rc_33, g_0_5, rc_30, g_0_2, rc_3, g_3_5, rc_10, g_16_5, rc_23, rc_4, rc_6, rc_8, rc_12, rc_14, rc_17, rc_19, rc_21, rc_25, rc_27, g_30_2, sf_30_2, fe_30_2, g_34_2, sf_34_2, fe_34_2, g_45_2, sf_45_2, fe_45_2, hF5.len, hs5]
        refine w_gather hC5 hW5 (by omega) (fun H6 hF6 => ?_)
        rw [hgi]
        simp (maxDischargeDepth := 12) only [w150_0, w150_1, w150_2, w150_3, w150_6, w150_9, w150_10, w150_13, w150_16, w150_17, w150_18, w150_19, w150_22, w150_23, w150_26, w150_29, w150_30, w150_33, w150_34, w150_37, w150_38, w150_40, w150_41, w150_42, w150_46, w150_47, w150_50, w150_53, w150_56, w150_59, w150_60, w150_63, w150_66, w150_68, w150_69, w150_70, w150_71, w150_74, w150_75, w150_78, w150_79, w150_82, w150_83, w150_85, w150_86, w150_87, w150_90, w150_91, w150_94, w150_95, w150_98, w150_100, w150_102, w150_103, w150_106, w150_108, w150_109, w150_111, w150_112, w150_115, w150_118, w150_119, oK_some, cont_int, cont_intS, cont_none, cont_noneS, cont_long, cont_longS, true_and, and_true, false_and, and_false, true_implies, false_implies, not_true_eq_false, not_false_eq_true, eq_self, or_true, true_or, Option.isSome_some, hpf_length, hpa_length, bI_eq0, fi_hpa, fl_hpa, ar_hpf, fi_hpf_ne, fl_hpf_ne, ar_hpa_ne, hpa_hpa, hpf_hpf, nI_1, two_ne, fokZ, implies_true, Nat.reduceEqDiff, rc_0, g_0_13, sf_0_13, fe_0_13, g_0_6, rc_33, g_0_5, rc_30, g_0_2, rc_3, g_3_5, rc_10, g_16_5, rc_23, rc_4, rc_6, rc_8, rc_12, rc_14, rc_17, rc_19, rc_21, rc_25, rc_27, g_30_2, sf_30_2, fe_30_2, g_34_2, sf_34_2, fe_34_2, g_45_2, sf_45_2, fe_45_2, hF6.len]
        have hF7 := (hF4.trans (hF5.mono (T := [33, 34, 36, 38, 40, 42]) (G := []) (by decide) (by decide))).trans (hF6.mono (T := [33, 34, 36, 38, 40, 42]) (G := []) (by decide) (by decide))
        by_cases hc : p2' < g i
        · have h3 : ¬ g i ≤ p2' := by rw [Int32.not_le]; exact hc
          simp only [hc, if_true] at hw2
          simp only [h3, oK_some, cont_int, cont_intS, cont_none, cont_noneS, cont_long, cont_longS, true_and, and_true, false_and, and_false, true_implies, false_implies, not_true_eq_false, not_false_eq_true, eq_self, or_true, true_or, Option.isSome_some, hpf_length, hpa_length, bI_eq0, fi_hpa, fl_hpa, ar_hpf, fi_hpf_ne, fl_hpf_ne, ar_hpa_ne, hpa_hpa, hpf_hpf, nI_1, two_ne, fokZ, implies_true, Nat.reduceEqDiff]
          refine hw2 (fun q => hge (Int32.lt_trans hc q)) H6 _ hF7
        · have h3 : g i ≤ p2' := by rw [← Int32.not_lt]; exact hc
          simp only [hc, if_false] at hw2
          simp only [h3, oK_some, cont_int, cont_intS, cont_none, cont_noneS, cont_long, cont_longS, true_and, and_true, false_and, and_false, true_implies, false_implies, not_true_eq_false, not_false_eq_true, eq_self, or_true, true_or, Option.isSome_some, hpf_length, hpa_length, bI_eq0, fi_hpa, fl_hpa, ar_hpf, fi_hpf_ne, fl_hpf_ne, ar_hpa_ne, hpa_hpa, hpf_hpf, nI_1, two_ne, fokZ, implies_true, Nat.reduceEqDiff]
          exact hw2 hge H6 _ hF7
      · simp only [hbt, if_true, hge, if_false] at hw2
        simp only [oK_some, cont_int, cont_intS, cont_none, cont_noneS, cont_long, cont_longS, true_and, and_true, false_and, and_false, true_implies, false_implies, not_true_eq_false, not_false_eq_true, eq_self, or_true, true_or, Option.isSome_some, hpf_length, hpa_length, bI_eq0, fi_hpa, fl_hpa, ar_hpf, fi_hpf_ne, fl_hpf_ne, ar_hpa_ne, hpa_hpa, hpf_hpf, nI_1, two_ne, fokZ, implies_true, Nat.reduceEqDiff, Bool.true_eq_false]
        exact hw2 not_false H4 _ hF4
  · rw [if_neg hw] at hQ
    simp (maxDischargeDepth := 12) only [w150_0, w150_1, w150_2, w150_3, w150_6, w150_9, w150_10, w150_13, w150_16, w150_17, w150_18, w150_19, w150_22, w150_23, w150_26, w150_29, w150_30, w150_33, w150_34, w150_37, w150_38, w150_40, w150_41, w150_42, w150_46, w150_47, w150_50, w150_53, w150_56, w150_59, w150_60, w150_63, w150_66, w150_68, w150_69, w150_70, w150_71, w150_74, w150_75, w150_78, w150_79, w150_82, w150_83, w150_85, w150_86, w150_87, w150_90, w150_91, w150_94, w150_95, w150_98, w150_100, w150_102, w150_103, w150_106, w150_108, w150_109, w150_111, w150_112, w150_115, w150_118, w150_119, oK_some, cont_int, cont_intS, cont_none, cont_noneS, cont_long, cont_longS, true_and, and_true, false_and, and_false, true_implies, false_implies, not_true_eq_false, not_false_eq_true, eq_self, or_true, true_or, Option.isSome_some, hpf_length, hpa_length, bI_eq0, fi_hpa, fl_hpa, ar_hpf, fi_hpf_ne, fl_hpf_ne, ar_hpa_ne, hpa_hpa, hpf_hpf, nI_1, two_ne, fokZ, implies_true, Nat.reduceEqDiff, rc_0, g_0_13, sf_0_13, fe_0_13, g_0_6, rc_33, g_0_5, rc_30, g_0_2, rc_3, g_3_5, rc_10, g_16_5, rc_23, rc_4, rc_6, rc_8, rc_12, rc_14, rc_17, rc_19, rc_21, rc_25, rc_27, g_30_2, sf_30_2, fe_30_2, g_34_2, sf_34_2, fe_34_2, g_45_2, sf_45_2, fe_45_2, hS, c_daysTrouble hC, hw]
    exact cr_no hS hQ
end CQ2
