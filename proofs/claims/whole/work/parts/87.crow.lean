/-! ===== reading: the class finds rows, enters lines ===== -/
section CROW
variable {scr : List Int32} {d n c pos : Nat} {t : Tk} {xs R : List Int32} {H H' : List AC} {Q : Option Value → List AC → Prop}
theorem lnK_lt : lnK xs t < 9 := by
  unfold lnK
  repeat' split
  all_goals decide
theorem lnK_b : ∀ b0 b1 b2 b3 b4 b5 b6 b7 : Bool, (nI (if b0 = true then 1 else if b1 = true then 2 else if b2 = true then 3 else if b3 = true then 4 else if b4 = true then 5 else if b5 = true then 6 else if b6 = true then 7 else if b7 = true then 8 else 0) = 0) ↔ ((b0 || (b1 || (b2 || (b3 || (b4 || (b5 || (b6 || b7))))))) = false) := by decide +kernel
theorem lnK_key : (nI (lnK xs t) = 0) = (isKey xs t = false) := propext (lnK_b _ _ _ _ _ _ _ _)
theorem fdI_m1 {i : Nat} (h : i < 7) : (fdI (some i) = -1) = False := eq_false (fun q => by
  have := fdI_pos h
  rw [q] at this
  exact absurd this (by decide))
theorem C_rowHF (h : CP H xs n t) (hf : ¬ fi H 29 7 = 0) (hN : NmP H c) (hQ : ∀ v, Q (some (.int v)) H) : Wp scr (d + 6) 48 0 [some (.ref 29), none] [] H Q := by
  have hS := h.shp
  simp (maxDischargeDepth := 12) only [w48_0, w48_1, w48_4, w48_5, w48_8, w48_9, w48_12, w48_15, w48_16, w48_17, w48_20, w48_21, w48_22, w48_23, w48_26, w48_27, w48_28, w48_29, w48_32, w48_33, w48_34, w48_37, w48_38, oK_some, cont_int, cont_intS, cont_none, cont_noneS, cont_long, cont_longS, true_and, and_true, false_and, and_false, true_implies, false_implies, not_true_eq_false, not_false_eq_true, eq_self, or_true, true_or, Option.isSome_some, hpf_length, hpa_length, bI_eq0, fi_hpa, fl_hpa, ar_hpf, fi_hpf_ne, fl_hpf_ne, ar_hpa_ne, hpa_hpa, hpf_hpf, nI_1, two_ne, fokZ, implies_true, Nat.reduceEqDiff, g_29_5, sf_29_5, fe_29_5, rc_29, hS, c_lineHere h, c_named (d := d + 3) h hN, c_failF hS hf]
  refine ⟨fun _ => hQ _, fun _ => ⟨fun _ => ⟨fun _ => hQ _, fun _ => hQ _⟩, fun _ => hQ _⟩⟩
theorem C_rowH (h : CP H xs n t) (hf : fi H 29 7 = 0) (hN : NmP H c) (hR : NmR xs (ar H 18) R c pos) (hp : pos ≤ 900) (hok : ∀ i, pRowH xs R t = .ok i → i < c → Q (some (.int (nI i))) H) (her : ∀ c p, pRowH xs R t = .error (c, p) → ∀ H', FgR H H' → CP H' xs n t → CE H' c p → Q (some (.int (-1))) H') : Wp scr (d + 6) 48 0 [some (.ref 29), none] [] H Q := by
  have hS := h.shp
  have hc7 := hN.2.1
  have f5 : (fi H 29 5 = 1) = (t.2.2 = 1) := h.so (k := 1) (by decide)
  unfold pRowH at hok her
  have F : pName xs t = false → Wp scr (d + 6) 48 15 [some (.ref 29), none] [] H Q := fun hp => by
    rw [hp, if_neg (by decide)] at her
    simp (maxDischargeDepth := 12) only [w48_0, w48_1, w48_4, w48_5, w48_8, w48_9, w48_12, w48_15, w48_16, w48_17, w48_20, w48_21, w48_22, w48_23, w48_26, w48_27, w48_28, w48_29, w48_32, w48_33, w48_34, w48_37, w48_38, oK_some, cont_int, cont_intS, cont_none, cont_noneS, cont_long, cont_longS, true_and, and_true, false_and, and_false, true_implies, false_implies, not_true_eq_false, not_false_eq_true, eq_self, or_true, true_or, Option.isSome_some, hpf_length, hpa_length, bI_eq0, fi_hpa, fl_hpa, ar_hpf, fi_hpf_ne, fl_hpf_ne, ar_hpa_ne, hpa_hpa, hpf_hpf, nI_1, two_ne, fokZ, implies_true, Nat.reduceEqDiff, g_29_5, sf_29_5, fe_29_5, rc_29, hS]
    refine C_fail h hf (by decide) (fun H' hF hP hE => ?_)
    have hs := hF.shp
    simp (maxDischargeDepth := 12) only [w48_0, w48_1, w48_4, w48_5, w48_8, w48_9, w48_12, w48_15, w48_16, w48_17, w48_20, w48_21, w48_22, w48_23, w48_26, w48_27, w48_28, w48_29, w48_32, w48_33, w48_34, w48_37, w48_38, oK_some, cont_int, cont_intS, cont_none, cont_noneS, cont_long, cont_longS, true_and, and_true, false_and, and_false, true_implies, false_implies, not_true_eq_false, not_false_eq_true, eq_self, or_true, true_or, Option.isSome_some, hpf_length, hpa_length, bI_eq0, fi_hpa, fl_hpa, ar_hpf, fi_hpf_ne, fl_hpf_ne, ar_hpa_ne, hpa_hpa, hpf_hpf, nI_1, two_ne, fokZ, implies_true, Nat.reduceEqDiff, g_29_5, sf_29_5, fe_29_5, rc_29, hF.len, hs]
    exact her _ _ rfl H' hF hP hE
  by_cases h1 : t.2.2 = 1
  · cases hk : isKey xs t
    · have hpn : pName xs t = true := by unfold pName; rw [decide_eq_true h1, hk]; rfl
      rw [hpn, if_pos rfl] at hok her
      have et := h.1.2.2.2.2.2.2.2.2
      rw [h.2] at et
      rw [find_eq hR hp hc7 (wlt_of et h1)] at hok her
      have hk' : (nI (lnK xs t) = 0) = True := by rw [lnK_key, hk]; exact eq_true rfl
      simp (maxDischargeDepth := 12) only [w48_0, w48_1, w48_4, w48_5, w48_8, w48_9, w48_12, w48_16, w48_17, w48_20, w48_21, w48_22, w48_23, w48_26, w48_27, w48_28, w48_29, w48_32, w48_33, w48_34, w48_37, w48_38, oK_some, cont_int, cont_intS, cont_none, cont_noneS, cont_long, cont_longS, true_and, and_true, false_and, and_false, true_implies, false_implies, not_true_eq_false, not_false_eq_true, eq_self, or_true, true_or, Option.isSome_some, hpf_length, hpa_length, bI_eq0, fi_hpa, fl_hpa, ar_hpf, fi_hpf_ne, fl_hpf_ne, ar_hpa_ne, hpa_hpa, hpf_hpf, nI_1, two_ne, fokZ, implies_true, Nat.reduceEqDiff, g_29_5, sf_29_5, fe_29_5, rc_29, hS, f5, h1, c_lineHere h, hk', c_named (d := d + 3) h hN]
      cases e : nmH xs (ar H 18) t c with
      | some i =>
        rw [e] at hok
        have hi := nmH_lt _ _ e
        simp only [fdI_m1 (show i < 7 by omega), oK_some, cont_int, cont_intS, cont_none, cont_noneS, cont_long, cont_longS, true_and, and_true, false_and, and_false, true_implies, false_implies, not_true_eq_false, not_false_eq_true, eq_self, or_true, true_or, Option.isSome_some, hpf_length, hpa_length, bI_eq0, fi_hpa, fl_hpa, ar_hpf, fi_hpf_ne, fl_hpf_ne, ar_hpa_ne, hpa_hpa, hpf_hpf, nI_1, two_ne, fokZ, implies_true, Nat.reduceEqDiff]
        exact hok i rfl hi
      | none =>
        rw [e] at her
        simp only [show (fdI none = -1) = True from eq_true rfl, oK_some, cont_int, cont_intS, cont_none, cont_noneS, cont_long, cont_longS, true_and, and_true, false_and, and_false, true_implies, false_implies, not_true_eq_false, not_false_eq_true, eq_self, or_true, true_or, Option.isSome_some, hpf_length, hpa_length, bI_eq0, fi_hpa, fl_hpa, ar_hpf, fi_hpf_ne, fl_hpf_ne, ar_hpa_ne, hpa_hpa, hpf_hpf, nI_1, two_ne, fokZ, implies_true, Nat.reduceEqDiff]
        refine C_fail h hf (by decide) (fun H' hF hP hE => ?_)
        have hs := hF.shp
        simp (maxDischargeDepth := 12) only [w48_0, w48_1, w48_4, w48_5, w48_8, w48_9, w48_12, w48_15, w48_16, w48_17, w48_20, w48_21, w48_22, w48_23, w48_26, w48_27, w48_28, w48_29, w48_32, w48_33, w48_34, w48_37, w48_38, oK_some, cont_int, cont_intS, cont_none, cont_noneS, cont_long, cont_longS, true_and, and_true, false_and, and_false, true_implies, false_implies, not_true_eq_false, not_false_eq_true, eq_self, or_true, true_or, Option.isSome_some, hpf_length, hpa_length, bI_eq0, fi_hpa, fl_hpa, ar_hpf, fi_hpf_ne, fl_hpf_ne, ar_hpa_ne, hpa_hpa, hpf_hpf, nI_1, two_ne, fokZ, implies_true, Nat.reduceEqDiff, g_29_5, sf_29_5, fe_29_5, rc_29, hF.len, hs]
        exact her _ _ rfl H' hF hP hE
    · have hpn : pName xs t = false := by unfold pName; rw [decide_eq_true h1, hk]; rfl
      have hk' : (nI (lnK xs t) = 0) = False := by rw [lnK_key, hk]; exact eq_false (by decide)
      simp (maxDischargeDepth := 12) only [w48_0, w48_1, w48_4, w48_5, w48_8, w48_9, w48_12, w48_16, w48_17, w48_20, w48_21, w48_22, w48_23, w48_26, w48_27, w48_28, w48_29, w48_32, w48_33, w48_34, w48_37, w48_38, oK_some, cont_int, cont_intS, cont_none, cont_noneS, cont_long, cont_longS, true_and, and_true, false_and, and_false, true_implies, false_implies, not_true_eq_false, not_false_eq_true, eq_self, or_true, true_or, Option.isSome_some, hpf_length, hpa_length, bI_eq0, fi_hpa, fl_hpa, ar_hpf, fi_hpf_ne, fl_hpf_ne, ar_hpa_ne, hpa_hpa, hpf_hpf, nI_1, two_ne, fokZ, implies_true, Nat.reduceEqDiff, g_29_5, sf_29_5, fe_29_5, rc_29, hS, f5, h1, c_lineHere h, hk']
      exact F hpn
  · have hpn : pName xs t = false := by unfold pName; rw [decide_eq_false h1]; rfl
    simp (maxDischargeDepth := 12) only [w48_0, w48_1, w48_4, w48_5, w48_8, w48_9, w48_12, w48_16, w48_17, w48_20, w48_21, w48_22, w48_23, w48_26, w48_27, w48_28, w48_29, w48_32, w48_33, w48_34, w48_37, w48_38, oK_some, cont_int, cont_intS, cont_none, cont_noneS, cont_long, cont_longS, true_and, and_true, false_and, and_false, true_implies, false_implies, not_true_eq_false, not_false_eq_true, eq_self, or_true, true_or, Option.isSome_some, hpf_length, hpa_length, bI_eq0, fi_hpa, fl_hpa, ar_hpf, fi_hpf_ne, fl_hpf_ne, ar_hpa_ne, hpa_hpa, hpf_hpf, nI_1, two_ne, fokZ, implies_true, Nat.reduceEqDiff, g_29_5, sf_29_5, fe_29_5, rc_29, hS, f5, h1]
    exact F hpn
/-- enter a table's line, where the slope is told -/
theorem C_enter {tb m : Nat} (h : CP H xs n t) (hf : fi H 29 7 = 0) (htb : gfl H tb 9 0 = some (.int (nI m))) (htc : gfl H tb 9 2 = some (.int (nI c))) (hm : m < 100) (hc : c < 100) (h8 : ¬ rg R 8 = 0) (hok : ∀ t', pBeg xs n R (decide (c < m)) t = .ok t' → ∀ H', FgR H H' → CP H' xs n t' → fi H' 29 7 = 0 → Q none H') (her : ∀ c' p, pBeg xs n R (decide (c < m)) t = .error (c', p) → ∀ H', FgR H H' → CP H' xs n t → CE H' c' p → Q none H') : Wp scr (d + 2) 46 0 [some (.ref 29), some (.ref tb)] [] H Q := by
  have hS := h.shp
  unfold pBeg at hok her
  have em : (nI m ≤ nI c) = (m ≤ c) := propext (nI_leI (by omega) (by omega))
  by_cases hcm : m ≤ c
  · rw [decide_eq_false (by omega), if_neg (by decide)] at her
    simp (maxDischargeDepth := 12) only [w46_0, w46_1, w46_4, w46_7, w46_8, w46_9, w46_12, w46_13, w46_16, oK_some, cont_int, cont_intS, cont_none, cont_noneS, cont_long, cont_longS, true_and, and_true, false_and, and_false, true_implies, false_implies, not_true_eq_false, not_false_eq_true, eq_self, or_true, true_or, Option.isSome_some, hpf_length, hpa_length, bI_eq0, fi_hpa, fl_hpa, ar_hpf, fi_hpf_ne, fl_hpf_ne, ar_hpa_ne, hpa_hpa, hpf_hpf, nI_1, two_ne, fokZ, implies_true, Nat.reduceEqDiff, rc_4, rc_6, rc_8, rc_10, rc_12, rc_14, rc_17, rc_19, rc_21, rc_23, rc_25, rc_27, rc_29, hS, rcv_of htb, c_Table_isFull htb htc, em, hcm, decide_true, Bool.true_eq_false]
    refine C_fail h hf (by decide) (fun H' hF hP hE => ?_)
    have hs := hF.shp
    simp (maxDischargeDepth := 12) only [w46_0, w46_1, w46_4, w46_7, w46_8, w46_9, w46_12, w46_13, w46_16, oK_some, cont_int, cont_intS, cont_none, cont_noneS, cont_long, cont_longS, true_and, and_true, false_and, and_false, true_implies, false_implies, not_true_eq_false, not_false_eq_true, eq_self, or_true, true_or, Option.isSome_some, hpf_length, hpa_length, bI_eq0, fi_hpa, fl_hpa, ar_hpf, fi_hpf_ne, fl_hpf_ne, ar_hpa_ne, hpa_hpa, hpf_hpf, nI_1, two_ne, fokZ, implies_true, Nat.reduceEqDiff, rc_4, rc_6, rc_8, rc_10, rc_12, rc_14, rc_17, rc_19, rc_21, rc_23, rc_25, rc_27, rc_29, hF.len, hs, c_advF hs hE.ne]
    exact her _ _ rfl H' hF hP hE
  · rw [decide_eq_true (by omega), if_pos rfl, if_neg h8] at hok
    simp (maxDischargeDepth := 12) only [w46_0, w46_1, w46_4, w46_7, w46_8, w46_9, w46_12, w46_13, w46_16, oK_some, cont_int, cont_intS, cont_none, cont_noneS, cont_long, cont_longS, true_and, and_true, false_and, and_false, true_implies, false_implies, not_true_eq_false, not_false_eq_true, eq_self, or_true, true_or, Option.isSome_some, hpf_length, hpa_length, bI_eq0, fi_hpa, fl_hpa, ar_hpf, fi_hpf_ne, fl_hpf_ne, ar_hpa_ne, hpa_hpa, hpf_hpf, nI_1, two_ne, fokZ, implies_true, Nat.reduceEqDiff, rc_4, rc_6, rc_8, rc_10, rc_12, rc_14, rc_17, rc_19, rc_21, rc_23, rc_25, rc_27, rc_29, hS, rcv_of htb, c_Table_isFull htb htc, em, hcm, decide_false]
    refine C_nx h hf (fun H' hF hP hf' => ?_)
    have hs := hF.shp
    simp (maxDischargeDepth := 12) only [w46_0, w46_1, w46_4, w46_7, w46_8, w46_9, w46_12, w46_13, w46_16, oK_some, cont_int, cont_intS, cont_none, cont_noneS, cont_long, cont_longS, true_and, and_true, false_and, and_false, true_implies, false_implies, not_true_eq_false, not_false_eq_true, eq_self, or_true, true_or, Option.isSome_some, hpf_length, hpa_length, bI_eq0, fi_hpa, fl_hpa, ar_hpf, fi_hpf_ne, fl_hpf_ne, ar_hpa_ne, hpa_hpa, hpf_hpf, nI_1, two_ne, fokZ, implies_true, Nat.reduceEqDiff, rc_4, rc_6, rc_8, rc_10, rc_12, rc_14, rc_17, rc_19, rc_21, rc_23, rc_25, rc_27, rc_29, hF.len, hs]
    exact hok _ rfl H' hF hP hf'
end CROW
