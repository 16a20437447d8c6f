/-! ===== reading: the class's small steps ===== -/
section CREAD
variable {scr : List Int32} {d n j k : Nat} {t : Tk} {xs R : List Int32} {H H' : List AC} {Q : Option Value → List AC → Prop}
def CP (H : List AC) (xs : List Int32) (n : Nat) (t : Tk) : Prop := CT H n t.1 t.2.1 t.2.2 ∧ ar H 2 = xs
def CE (H : List AC) (c : Int32) (p : Nat) : Prop := Shp H ∧ fi H 29 7 = c ∧ ¬ c = 0 ∧ fi H 29 8 = nI p
abbrev FgR (H H' : List AC) : Prop := Fg [] [(29, 3), (29, 4), (29, 5), (29, 7), (29, 8)] H H'
theorem CP.shp (h : CP H xs n t) : Shp H := h.1.1
theorem CP.of (h : CP H xs n t) (hF : Fg [] [(29, 7), (29, 8)] H H') : CP H' xs n t := by
  obtain ⟨⟨hS, hn, h9, f3, f4, f5, ha, he, et⟩, e2⟩ := h
  have a2 : ar H' 2 = ar H 2 := hF.arr (by decide)
  refine ⟨⟨hF.shp, ?_, h9, ?_, ?_, ?_, ha, he, ?_⟩, a2.trans e2⟩
  · rw [hF.int (by decide) (by decide)]; exact hn
  · rw [hF.int (by decide) (by decide)]; exact f3
  · rw [hF.int (by decide) (by decide)]; exact f4
  · rw [hF.int (by decide) (by decide)]; exact f5
  · rw [a2]; exact et
theorem c_failF {c : Int32} (hS : Shp H) (hf : ¬ fi H 29 7 = 0) : Wp scr d 31 0 [some (.ref 29), some (.int c)] [] H Q ↔ Q none H := by
  rw [c_fail hS, if_neg hf]
theorem C_fail {c : Int32} (h : CP H xs n t) (hf : fi H 29 7 = 0) (hc : ¬ c = 0) (hQ : ∀ H', FgR H H' → CP H' xs n t → CE H' c t.1 → Q none H') : Wp scr d 31 0 [some (.ref 29), some (.int c)] [] H Q := by
  have hS := h.shp
  rw [c_fail hS, if_pos hf, h.1.2.2.2.1]
  have s1 := sf_29_7 (v := c) hS
  have s2 := sf_29_8 (v := nI t.1) s1
  have hF : Fg [] [(29, 7), (29, 8)] H (hpf (hpf H 29 7 (.int c)) 29 8 (.int (nI t.1))) := ((fg_hpf (a := 29) (f := 7) (ci := 4) hS rfl (by decide))).trans (fg_hpf (a := 29) (f := 8) (ci := 4) s1 rfl (by decide))
  refine hQ _ (hF.mono (by decide) (by decide)) (h.of hF) ⟨s2, ?_, hc, fe_29_8 s1⟩
  rw [fi_hpf_ne (by decide), fe_29_7 hS]
theorem C_nx (h : CP H xs n t) (hf : fi H 29 7 = 0) (hQ : ∀ H', FgR H H' → CP H' xs n (tk xs n t.2.1) → fi H' 29 7 = 0 → Q none H') : Wp scr (d + 1) 32 0 [some (.ref 29), none] [] H Q := by
  obtain ⟨⟨hS, hn, h9, f3, f4, f5, ha, he, et⟩, e2⟩ := h
  refine C_adv hS hf hn h9 f4 he (fun H' hF hT => ?_)
  rw [e2] at hT
  exact hQ H' (hF.mono (by decide) (by decide)) ⟨hT, (hF.arr (by decide)).trans e2⟩ ((hF.int (by decide) (by decide)).trans hf)
theorem CE.ne {c : Int32} {p : Nat} (h : CE H c p) : ¬ fi H 29 7 = 0 := by rw [h.2.1]; exact h.2.2.1
theorem c_isW (h : CP H xs n t) (hj : j < 19) : Wp scr (d + 4) 35 0 [some (.ref 29), some (.retAddr j), none] [] H Q ↔ Q (some (.int (bI (isWt xs t j)))) H := by
  rw [C_isWord h.1 hj, h.2]; rfl
theorem c_takeF (h : CP H xs n t) (hj : j < 19) (hf : ¬ fi H 29 7 = 0) : Wp scr (d + 5) 50 0 [some (.ref 29), some (.retAddr j)] [] H Q ↔ Q none H := by
  refine Wp_iff ?_
  have hS := h.shp
  have hj2 : j < 200 := by omega
  cases hw : isWt xs t j
  · simp (maxDischargeDepth := 12) only [w50_0, w50_1, w50_2, w50_5, w50_8, w50_9, w50_10, w50_13, w50_14, w50_17, oK_some, cont_int, cont_intS, cont_none, cont_noneS, cont_long, cont_longS, true_and, and_true, false_and, and_false, true_implies, false_implies, not_true_eq_false, not_false_eq_true, eq_self, or_true, true_or, Option.isSome_some, hpf_length, hpa_length, bI_eq0, fi_hpa, fl_hpa, ar_hpf, fi_hpf_ne, fl_hpf_ne, ar_hpa_ne, hpa_hpa, hpf_hpf, nI_1, two_ne, fokZ, implies_true, Nat.reduceEqDiff, rc_29, hS, hj, hj2, c_isW h hj, hw, c_failF hS hf, c_advF (d := d + 3) hS hf]
  · simp (maxDischargeDepth := 12) only [w50_0, w50_1, w50_2, w50_5, w50_8, w50_9, w50_10, w50_13, w50_14, w50_17, oK_some, cont_int, cont_intS, cont_none, cont_noneS, cont_long, cont_longS, true_and, and_true, false_and, and_false, true_implies, false_implies, not_true_eq_false, not_false_eq_true, eq_self, or_true, true_or, Option.isSome_some, hpf_length, hpa_length, bI_eq0, fi_hpa, fl_hpa, ar_hpf, fi_hpf_ne, fl_hpf_ne, ar_hpa_ne, hpa_hpa, hpf_hpf, nI_1, two_ne, fokZ, implies_true, Nat.reduceEqDiff, rc_29, hS, hj, hj2, c_isW h hj, hw, c_failF hS hf, c_advF (d := d + 3) hS hf, Bool.true_eq_false]
theorem C_takeW (h : CP H xs n t) (hf : fi H 29 7 = 0) (hj : j < 19) (hok : ∀ t', pWord xs n j t = .ok t' → ∀ H', FgR H H' → CP H' xs n t' → fi H' 29 7 = 0 → Q none H') (her : ∀ c p, pWord xs n j t = .error (c, p) → ∀ H', FgR H H' → CP H' xs n t → CE H' c p → Q none H') : Wp scr (d + 5) 50 0 [some (.ref 29), some (.retAddr j)] [] H Q := by
  have hS := h.shp
  have hj2 : j < 200 := by omega
  unfold pWord at hok her
  cases hw : isWt xs t j
  · rw [hw, if_neg (by decide)] at her
    simp (maxDischargeDepth := 12) only [w50_0, w50_1, w50_2, w50_5, w50_8, w50_9, w50_10, w50_13, w50_14, w50_17, oK_some, cont_int, cont_intS, cont_none, cont_noneS, cont_long, cont_longS, true_and, and_true, false_and, and_false, true_implies, false_implies, not_true_eq_false, not_false_eq_true, eq_self, or_true, true_or, Option.isSome_some, hpf_length, hpa_length, bI_eq0, fi_hpa, fl_hpa, ar_hpf, fi_hpf_ne, fl_hpf_ne, ar_hpa_ne, hpa_hpa, hpf_hpf, nI_1, two_ne, fokZ, implies_true, Nat.reduceEqDiff, rc_29, hS, hj, hj2, c_isW h hj, hw]
    refine C_fail h hf (by decide) (fun H' hF hP hE => ?_)
    have hs := hF.shp
    simp (maxDischargeDepth := 12) only [w50_0, w50_1, w50_2, w50_5, w50_8, w50_9, w50_10, w50_13, w50_14, w50_17, oK_some, cont_int, cont_intS, cont_none, cont_noneS, cont_long, cont_longS, true_and, and_true, false_and, and_false, true_implies, false_implies, not_true_eq_false, not_false_eq_true, eq_self, or_true, true_or, Option.isSome_some, hpf_length, hpa_length, bI_eq0, fi_hpa, fl_hpa, ar_hpf, fi_hpf_ne, fl_hpf_ne, ar_hpa_ne, hpa_hpa, hpf_hpf, nI_1, two_ne, fokZ, implies_true, Nat.reduceEqDiff, rc_29, hF.len, hs, c_advF (d := d + 3) hs hE.ne]
    exact her _ _ rfl H' hF hP hE
  · rw [hw, if_pos rfl] at hok
    simp (maxDischargeDepth := 12) only [w50_0, w50_1, w50_2, w50_5, w50_8, w50_9, w50_10, w50_13, w50_14, w50_17, oK_some, cont_int, cont_intS, cont_none, cont_noneS, cont_long, cont_longS, true_and, and_true, false_and, and_false, true_implies, false_implies, not_true_eq_false, not_false_eq_true, eq_self, or_true, true_or, Option.isSome_some, hpf_length, hpa_length, bI_eq0, fi_hpa, fl_hpa, ar_hpf, fi_hpf_ne, fl_hpf_ne, ar_hpa_ne, hpa_hpa, hpf_hpf, nI_1, two_ne, fokZ, implies_true, Nat.reduceEqDiff, rc_29, hS, hj, hj2, c_isW h hj, hw, Bool.true_eq_false]
    refine C_nx (d := d + 3) h hf (fun H' hF hP hf' => ?_)
    have hs := hF.shp
    simp (maxDischargeDepth := 12) only [w50_0, w50_1, w50_2, w50_5, w50_8, w50_9, w50_10, w50_13, w50_14, w50_17, oK_some, cont_int, cont_intS, cont_none, cont_noneS, cont_long, cont_longS, true_and, and_true, false_and, and_false, true_implies, false_implies, not_true_eq_false, not_false_eq_true, eq_self, or_true, true_or, Option.isSome_some, hpf_length, hpa_length, bI_eq0, fi_hpa, fl_hpa, ar_hpf, fi_hpf_ne, fl_hpf_ne, ar_hpa_ne, hpa_hpa, hpf_hpf, nI_1, two_ne, fokZ, implies_true, Nat.reduceEqDiff, rc_29, hF.len, hs]
    exact hok _ rfl H' hF hP hf'
/-- the loop over a whole number's digits -/
theorem c_whLoop {lo hi : Int32} (h : CP H xs n t) (hw : Wp scr (d + 1) 51 56 [some (.ref 29), some (.int lo), some (.int hi), some (.int (whT xs t)), some (.int (nI t.2.1))] [] H Q) : Wp scr (d + 1) 51 15 [some (.ref 29), some (.int lo), some (.int hi), none, none] [] H Q := by
  obtain ⟨⟨hS, hn, h9, f3, f4, f5, ha, he, et⟩, e2⟩ := h
  have i1 : ∀ a : Nat, nI a + 1 = nI (a + 1) := fun a => ixa a 1 (v := 1) rfl
  have hae : t.1 ≤ t.2.1 := by
    have := congrArg Prod.snd et
    change t.2.1 = _ at this
    rw [this]
    exact tkT_ge
  have key := down (P := fun k => Wp scr (d + 1) 51 23 [some (.ref 29), some (.int lo), some (.int hi), some (.int (whV xs t.1 k)), some (.int (nI (t.1 + k)))] [] H Q) (t.2.1 - t.1) ?_ ?_
  · simp (maxDischargeDepth := 12) only [w51_0, w51_1, w51_4, w51_5, w51_8, w51_9, w51_10, w51_13, w51_14, w51_15, w51_16, w51_17, w51_18, w51_21, w51_25, w51_26, w51_29, w51_32, w51_33, w51_35, w51_36, w51_37, w51_40, w51_42, w51_45, w51_46, w51_48, w51_49, w51_50, w51_53, w51_57, w51_58, w51_61, w51_62, w51_63, w51_66, w51_67, w51_68, w51_71, w51_72, oK_some, cont_int, cont_intS, cont_none, cont_noneS, cont_long, cont_longS, true_and, and_true, false_and, and_false, true_implies, false_implies, not_true_eq_false, not_false_eq_true, eq_self, or_true, true_or, Option.isSome_some, hpf_length, hpa_length, bI_eq0, fi_hpa, fl_hpa, ar_hpf, fi_hpf_ne, fl_hpf_ne, ar_hpa_ne, hpa_hpa, hpf_hpf, nI_1, two_ne, fokZ, implies_true, Nat.reduceEqDiff, g_29_5, sf_29_5, fe_29_5, rc_29, g_29_3, sf_29_3, fe_29_3, g_29_4, sf_29_4, fe_29_4, g_29_0, rc_1, rc_31, rc_35, rc_37, rc_39, rc_41, rc_46, rc_48, rc_50, rc_53, rc_55, rc_57, rc_59, rc_63, rc_66, hS, f3]
    exact key
  · rw [show t.1 + (t.2.1 - t.1) = t.2.1 by omega, w51_23]
    simp (maxDischargeDepth := 12) only [w51_0, w51_1, w51_4, w51_5, w51_8, w51_9, w51_10, w51_13, w51_14, w51_15, w51_16, w51_17, w51_18, w51_21, w51_25, w51_26, w51_29, w51_32, w51_33, w51_35, w51_36, w51_37, w51_40, w51_42, w51_45, w51_46, w51_48, w51_49, w51_50, w51_53, w51_57, w51_58, w51_61, w51_62, w51_63, w51_66, w51_67, w51_68, w51_71, w51_72, oK_some, cont_int, cont_intS, cont_none, cont_noneS, cont_long, cont_longS, true_and, and_true, false_and, and_false, true_implies, false_implies, not_true_eq_false, not_false_eq_true, eq_self, or_true, true_or, Option.isSome_some, hpf_length, hpa_length, bI_eq0, fi_hpa, fl_hpa, ar_hpf, fi_hpf_ne, fl_hpf_ne, ar_hpa_ne, hpa_hpa, hpf_hpf, nI_1, two_ne, fokZ, implies_true, Nat.reduceEqDiff, g_29_5, sf_29_5, fe_29_5, rc_29, g_29_3, sf_29_3, fe_29_3, g_29_4, sf_29_4, fe_29_4, g_29_0, rc_1, rc_31, rc_35, rc_37, rc_39, rc_41, rc_46, rc_48, rc_50, rc_53, rc_55, rc_57, rc_59, rc_63, rc_66, hS, f4, nI_les]
    exact hw
  · intro k hk hn'
    rw [w51_23]
    simp (maxDischargeDepth := 12) only [w51_0, w51_1, w51_4, w51_5, w51_8, w51_9, w51_10, w51_13, w51_14, w51_15, w51_16, w51_17, w51_18, w51_21, w51_25, w51_26, w51_29, w51_32, w51_33, w51_35, w51_36, w51_37, w51_40, w51_42, w51_45, w51_46, w51_48, w51_49, w51_50, w51_53, w51_57, w51_58, w51_61, w51_62, w51_63, w51_66, w51_67, w51_68, w51_71, w51_72, oK_some, cont_int, cont_intS, cont_none, cont_noneS, cont_long, cont_longS, true_and, and_true, false_and, and_false, true_implies, false_implies, not_true_eq_false, not_false_eq_true, eq_self, or_true, true_or, Option.isSome_some, hpf_length, hpa_length, bI_eq0, fi_hpa, fl_hpa, ar_hpf, fi_hpf_ne, fl_hpf_ne, ar_hpa_ne, hpa_hpa, hpf_hpf, nI_1, two_ne, fokZ, implies_true, Nat.reduceEqDiff, g_29_5, sf_29_5, fe_29_5, rc_29, g_29_3, sf_29_3, fe_29_3, g_29_4, sf_29_4, fe_29_4, g_29_0, rc_1, rc_31, rc_35, rc_37, rc_39, rc_41, rc_46, rc_48, rc_50, rc_53, rc_55, rc_57, rc_59, rc_63, rc_66, hS, f4, nI_lef (show t.1 + k < t.2.1 by omega) (by omega), c_textAt hS (show t.1 + k < 2147483648 by omega), e2, i1]
    exact hn'
theorem C_whF {lo hi : Int32} (h : CP H xs n t) (hf : ¬ fi H 29 7 = 0) (hQ : ∀ v, Q (some (.int v)) H) : Wp scr (d + 1) 51 0 [some (.ref 29), some (.int lo), some (.int hi), none, none] [] H Q := by
  have hS := h.shp
  by_cases h2 : fi H 29 5 = 2
  · have L := c_whLoop (scr := scr) (d := d) (Q := Q) (lo := lo) (hi := hi) h ?_
    · simp (maxDischargeDepth := 12) only [w51_0, w51_1, w51_4, w51_5, w51_8, w51_9, w51_10, w51_13, w51_14, w51_16, w51_17, w51_18, w51_21, w51_23, w51_25, w51_26, w51_29, w51_32, w51_33, w51_35, w51_36, w51_37, w51_40, w51_42, w51_45, w51_46, w51_48, w51_49, w51_50, w51_53, w51_56, w51_57, w51_58, w51_61, w51_62, w51_63, w51_66, w51_67, w51_68, w51_71, w51_72, oK_some, cont_int, cont_intS, cont_none, cont_noneS, cont_long, cont_longS, true_and, and_true, false_and, and_false, true_implies, false_implies, not_true_eq_false, not_false_eq_true, eq_self, or_true, true_or, Option.isSome_some, hpf_length, hpa_length, bI_eq0, fi_hpa, fl_hpa, ar_hpf, fi_hpf_ne, fl_hpf_ne, ar_hpa_ne, hpa_hpa, hpf_hpf, nI_1, two_ne, fokZ, implies_true, Nat.reduceEqDiff, g_29_5, sf_29_5, fe_29_5, rc_29, g_29_3, sf_29_3, fe_29_3, g_29_4, sf_29_4, fe_29_4, g_29_0, rc_1, rc_31, rc_35, rc_37, rc_39, rc_41, rc_46, rc_48, rc_50, rc_53, rc_55, rc_57, rc_59, rc_63, rc_66, hS, h2]
      exact L
    · simp (maxDischargeDepth := 12) only [w51_0, w51_1, w51_4, w51_5, w51_8, w51_9, w51_10, w51_13, w51_14, w51_15, w51_16, w51_17, w51_18, w51_21, w51_23, w51_25, w51_26, w51_29, w51_32, w51_33, w51_35, w51_36, w51_37, w51_40, w51_42, w51_45, w51_46, w51_48, w51_49, w51_50, w51_53, w51_56, w51_57, w51_58, w51_61, w51_62, w51_63, w51_66, w51_67, w51_68, w51_71, w51_72, oK_some, cont_int, cont_intS, cont_none, cont_noneS, cont_long, cont_longS, true_and, and_true, false_and, and_false, true_implies, false_implies, not_true_eq_false, not_false_eq_true, eq_self, or_true, true_or, Option.isSome_some, hpf_length, hpa_length, bI_eq0, fi_hpa, fl_hpa, ar_hpf, fi_hpf_ne, fl_hpf_ne, ar_hpa_ne, hpa_hpa, hpf_hpf, nI_1, two_ne, fokZ, implies_true, Nat.reduceEqDiff, g_29_5, sf_29_5, fe_29_5, rc_29, g_29_3, sf_29_3, fe_29_3, g_29_4, sf_29_4, fe_29_4, g_29_0, rc_1, rc_31, rc_35, rc_37, rc_39, rc_41, rc_46, rc_48, rc_50, rc_53, rc_55, rc_57, rc_59, rc_63, rc_66, hS, c_failF hS hf]
      exact ⟨fun _ => hQ _, fun _ => ⟨fun _ => hQ _, fun _ => hQ _⟩⟩
  · simp (maxDischargeDepth := 12) only [w51_0, w51_1, w51_4, w51_5, w51_8, w51_9, w51_10, w51_13, w51_14, w51_15, w51_16, w51_17, w51_18, w51_21, w51_23, w51_25, w51_26, w51_29, w51_32, w51_33, w51_35, w51_36, w51_37, w51_40, w51_42, w51_45, w51_46, w51_48, w51_49, w51_50, w51_53, w51_56, w51_57, w51_58, w51_61, w51_62, w51_63, w51_66, w51_67, w51_68, w51_71, w51_72, oK_some, cont_int, cont_intS, cont_none, cont_noneS, cont_long, cont_longS, true_and, and_true, false_and, and_false, true_implies, false_implies, not_true_eq_false, not_false_eq_true, eq_self, or_true, true_or, Option.isSome_some, hpf_length, hpa_length, bI_eq0, fi_hpa, fl_hpa, ar_hpf, fi_hpf_ne, fl_hpf_ne, ar_hpa_ne, hpa_hpa, hpf_hpf, nI_1, two_ne, fokZ, implies_true, Nat.reduceEqDiff, g_29_5, sf_29_5, fe_29_5, rc_29, g_29_3, sf_29_3, fe_29_3, g_29_4, sf_29_4, fe_29_4, g_29_0, rc_1, rc_31, rc_35, rc_37, rc_39, rc_41, rc_46, rc_48, rc_50, rc_53, rc_55, rc_57, rc_59, rc_63, rc_66, hS, h2, c_failF hS hf]
    exact hQ _
theorem CP.s5 (h : CP H xs n t) : t.2.2 < 5 := by
  have := congrArg Prod.fst h.1.2.2.2.2.2.2.2.2
  change t.2.2 = _ at this
  rw [this]
  exact tkT_lt
theorem CP.so (h : CP H xs n t) {k : Nat} (hk : k < 5) : (fi H 29 5 = nI k) = (t.2.2 = k) := by
  rw [h.1.2.2.2.2.2.1]
  exact propext (nI_eqI (by have := h.s5; omega) (by omega))
theorem C_wh {lo hi : Int32} (h : CP H xs n t) (hf : fi H 29 7 = 0) (hok : ∀ w, pNumH xs lo hi t = .ok w → Q (some (.int w)) H) (her : ∀ c p, pNumH xs lo hi t = .error (c, p) → ∀ v H', FgR H H' → CP H' xs n t → CE H' c p → Q (some (.int v)) H') : Wp scr (d + 1) 51 0 [some (.ref 29), some (.int lo), some (.int hi), none, none] [] H Q := by
  have hS := h.shp
  have f5 : (fi H 29 5 = 2) = (t.2.2 = 2) := h.so (k := 2) (by decide)
  unfold pNumH at hok her
  by_cases h2 : t.2.2 = 2
  · rw [if_pos h2] at hok her
    have L := c_whLoop (scr := scr) (d := d) (Q := Q) (lo := lo) (hi := hi) h ?_
    · simp (maxDischargeDepth := 12) only [w51_0, w51_1, w51_4, w51_5, w51_8, w51_9, w51_10, w51_13, w51_14, w51_16, w51_17, w51_18, w51_21, w51_23, w51_25, w51_26, w51_29, w51_32, w51_33, w51_35, w51_36, w51_37, w51_40, w51_42, w51_45, w51_46, w51_48, w51_49, w51_50, w51_53, w51_56, w51_57, w51_58, w51_61, w51_62, w51_63, w51_66, w51_67, w51_68, w51_71, w51_72, oK_some, cont_int, cont_intS, cont_none, cont_noneS, cont_long, cont_longS, true_and, and_true, false_and, and_false, true_implies, false_implies, not_true_eq_false, not_false_eq_true, eq_self, or_true, true_or, Option.isSome_some, hpf_length, hpa_length, bI_eq0, fi_hpa, fl_hpa, ar_hpf, fi_hpf_ne, fl_hpf_ne, ar_hpa_ne, hpa_hpa, hpf_hpf, nI_1, two_ne, fokZ, implies_true, Nat.reduceEqDiff, g_29_5, sf_29_5, fe_29_5, rc_29, g_29_3, sf_29_3, fe_29_3, g_29_4, sf_29_4, fe_29_4, g_29_0, rc_1, rc_31, rc_35, rc_37, rc_39, rc_41, rc_46, rc_48, rc_50, rc_53, rc_55, rc_57, rc_59, rc_63, rc_66, hS, f5, h2]
      exact L
    · have c1 : lo ≤ whT xs t ↔ ¬ whT xs t < lo := by rw [Int32.not_lt]
      by_cases hb : lo ≤ whT xs t ∧ whT xs t ≤ hi
      · rw [if_pos hb] at hok
        have g1 : (whT xs t < lo) = False := eq_false (c1.mp hb.1)
        simp (maxDischargeDepth := 12) only [w51_0, w51_1, w51_4, w51_5, w51_8, w51_9, w51_10, w51_13, w51_14, w51_15, w51_16, w51_17, w51_18, w51_21, w51_23, w51_25, w51_26, w51_29, w51_32, w51_33, w51_35, w51_36, w51_37, w51_40, w51_42, w51_45, w51_46, w51_48, w51_49, w51_50, w51_53, w51_56, w51_57, w51_58, w51_61, w51_62, w51_63, w51_66, w51_67, w51_68, w51_71, w51_72, oK_some, cont_int, cont_intS, cont_none, cont_noneS, cont_long, cont_longS, true_and, and_true, false_and, and_false, true_implies, false_implies, not_true_eq_false, not_false_eq_true, eq_self, or_true, true_or, Option.isSome_some, hpf_length, hpa_length, bI_eq0, fi_hpa, fl_hpa, ar_hpf, fi_hpf_ne, fl_hpf_ne, ar_hpa_ne, hpa_hpa, hpf_hpf, nI_1, two_ne, fokZ, implies_true, Nat.reduceEqDiff, g_29_5, sf_29_5, fe_29_5, rc_29, g_29_3, sf_29_3, fe_29_3, g_29_4, sf_29_4, fe_29_4, g_29_0, rc_1, rc_31, rc_35, rc_37, rc_39, rc_41, rc_46, rc_48, rc_50, rc_53, rc_55, rc_57, rc_59, rc_63, rc_66, hS, g1, hb.2]
        exact hok _ rfl
      · rw [if_neg hb] at her
        have F : Wp scr (d + 1) 51 66 [some (.ref 29), some (.int lo), some (.int hi), some (.int (whT xs t)), some (.int (nI t.2.1))] [] H Q := by
          simp (maxDischargeDepth := 12) only [w51_0, w51_1, w51_4, w51_5, w51_8, w51_9, w51_10, w51_13, w51_14, w51_15, w51_16, w51_17, w51_18, w51_21, w51_23, w51_25, w51_26, w51_29, w51_32, w51_33, w51_35, w51_36, w51_37, w51_40, w51_42, w51_45, w51_46, w51_48, w51_49, w51_50, w51_53, w51_56, w51_57, w51_58, w51_61, w51_62, w51_63, w51_66, w51_67, w51_68, w51_71, w51_72, oK_some, cont_int, cont_intS, cont_none, cont_noneS, cont_long, cont_longS, true_and, and_true, false_and, and_false, true_implies, false_implies, not_true_eq_false, not_false_eq_true, eq_self, or_true, true_or, Option.isSome_some, hpf_length, hpa_length, bI_eq0, fi_hpa, fl_hpa, ar_hpf, fi_hpf_ne, fl_hpf_ne, ar_hpa_ne, hpa_hpa, hpf_hpf, nI_1, two_ne, fokZ, implies_true, Nat.reduceEqDiff, g_29_5, sf_29_5, fe_29_5, rc_29, g_29_3, sf_29_3, fe_29_3, g_29_4, sf_29_4, fe_29_4, g_29_0, rc_1, rc_31, rc_35, rc_37, rc_39, rc_41, rc_46, rc_48, rc_50, rc_53, rc_55, rc_57, rc_59, rc_63, rc_66, hS]
          refine C_fail h hf (by decide) (fun H' hF hP hE => ?_)
          have hs := hF.shp
          simp (maxDischargeDepth := 12) only [w51_0, w51_1, w51_4, w51_5, w51_8, w51_9, w51_10, w51_13, w51_14, w51_15, w51_16, w51_17, w51_18, w51_21, w51_23, w51_25, w51_26, w51_29, w51_32, w51_33, w51_35, w51_36, w51_37, w51_40, w51_42, w51_45, w51_46, w51_48, w51_49, w51_50, w51_53, w51_56, w51_57, w51_58, w51_61, w51_62, w51_63, w51_66, w51_67, w51_68, w51_71, w51_72, oK_some, cont_int, cont_intS, cont_none, cont_noneS, cont_long, cont_longS, true_and, and_true, false_and, and_false, true_implies, false_implies, not_true_eq_false, not_false_eq_true, eq_self, or_true, true_or, Option.isSome_some, hpf_length, hpa_length, bI_eq0, fi_hpa, fl_hpa, ar_hpf, fi_hpf_ne, fl_hpf_ne, ar_hpa_ne, hpa_hpa, hpf_hpf, nI_1, two_ne, fokZ, implies_true, Nat.reduceEqDiff, g_29_5, sf_29_5, fe_29_5, rc_29, g_29_3, sf_29_3, fe_29_3, g_29_4, sf_29_4, fe_29_4, g_29_0, rc_1, rc_31, rc_35, rc_37, rc_39, rc_41, rc_46, rc_48, rc_50, rc_53, rc_55, rc_57, rc_59, rc_63, rc_66, hF.len, hs]
          exact her _ _ rfl _ H' hF hP hE
        by_cases g1 : whT xs t < lo
        · simp (maxDischargeDepth := 12) only [w51_0, w51_1, w51_4, w51_5, w51_8, w51_9, w51_10, w51_13, w51_14, w51_15, w51_16, w51_17, w51_18, w51_21, w51_23, w51_25, w51_26, w51_29, w51_32, w51_33, w51_35, w51_36, w51_37, w51_40, w51_42, w51_45, w51_46, w51_48, w51_49, w51_50, w51_53, w51_56, w51_57, w51_58, w51_61, w51_62, w51_63, w51_67, w51_68, w51_71, w51_72, oK_some, cont_int, cont_intS, cont_none, cont_noneS, cont_long, cont_longS, true_and, and_true, false_and, and_false, true_implies, false_implies, not_true_eq_false, not_false_eq_true, eq_self, or_true, true_or, Option.isSome_some, hpf_length, hpa_length, bI_eq0, fi_hpa, fl_hpa, ar_hpf, fi_hpf_ne, fl_hpf_ne, ar_hpa_ne, hpa_hpa, hpf_hpf, nI_1, two_ne, fokZ, implies_true, Nat.reduceEqDiff, g_29_5, sf_29_5, fe_29_5, rc_29, g_29_3, sf_29_3, fe_29_3, g_29_4, sf_29_4, fe_29_4, g_29_0, rc_1, rc_31, rc_35, rc_37, rc_39, rc_41, rc_46, rc_48, rc_50, rc_53, rc_55, rc_57, rc_59, rc_63, rc_66, hS, g1]
          exact F
        · have g2 : (whT xs t ≤ hi) = False := eq_false (fun q => hb ⟨c1.mpr g1, q⟩)
          simp (maxDischargeDepth := 12) only [w51_0, w51_1, w51_4, w51_5, w51_8, w51_9, w51_10, w51_13, w51_14, w51_15, w51_16, w51_17, w51_18, w51_21, w51_23, w51_25, w51_26, w51_29, w51_32, w51_33, w51_35, w51_36, w51_37, w51_40, w51_42, w51_45, w51_46, w51_48, w51_49, w51_50, w51_53, w51_56, w51_57, w51_58, w51_61, w51_62, w51_63, w51_67, w51_68, w51_71, w51_72, oK_some, cont_int, cont_intS, cont_none, cont_noneS, cont_long, cont_longS, true_and, and_true, false_and, and_false, true_implies, false_implies, not_true_eq_false, not_false_eq_true, eq_self, or_true, true_or, Option.isSome_some, hpf_length, hpa_length, bI_eq0, fi_hpa, fl_hpa, ar_hpf, fi_hpf_ne, fl_hpf_ne, ar_hpa_ne, hpa_hpa, hpf_hpf, nI_1, two_ne, fokZ, implies_true, Nat.reduceEqDiff, g_29_5, sf_29_5, fe_29_5, rc_29, g_29_3, sf_29_3, fe_29_3, g_29_4, sf_29_4, fe_29_4, g_29_0, rc_1, rc_31, rc_35, rc_37, rc_39, rc_41, rc_46, rc_48, rc_50, rc_53, rc_55, rc_57, rc_59, rc_63, rc_66, hS, g1, g2]
          exact F
  · rw [if_neg h2] at her
    simp (maxDischargeDepth := 12) only [w51_0, w51_1, w51_4, w51_5, w51_8, w51_9, w51_10, w51_13, w51_14, w51_15, w51_16, w51_17, w51_18, w51_21, w51_23, w51_25, w51_26, w51_29, w51_32, w51_33, w51_35, w51_36, w51_37, w51_40, w51_42, w51_45, w51_46, w51_48, w51_49, w51_50, w51_53, w51_56, w51_57, w51_58, w51_61, w51_62, w51_63, w51_66, w51_67, w51_68, w51_71, w51_72, oK_some, cont_int, cont_intS, cont_none, cont_noneS, cont_long, cont_longS, true_and, and_true, false_and, and_false, true_implies, false_implies, not_true_eq_false, not_false_eq_true, eq_self, or_true, true_or, Option.isSome_some, hpf_length, hpa_length, bI_eq0, fi_hpa, fl_hpa, ar_hpf, fi_hpf_ne, fl_hpf_ne, ar_hpa_ne, hpa_hpa, hpf_hpf, nI_1, two_ne, fokZ, implies_true, Nat.reduceEqDiff, g_29_5, sf_29_5, fe_29_5, rc_29, g_29_3, sf_29_3, fe_29_3, g_29_4, sf_29_4, fe_29_4, g_29_0, rc_1, rc_31, rc_35, rc_37, rc_39, rc_41, rc_46, rc_48, rc_50, rc_53, rc_55, rc_57, rc_59, rc_63, rc_66, hS, f5, h2]
    refine C_fail h hf (by decide) (fun H' hF hP hE => ?_)
    have hs := hF.shp
    simp (maxDischargeDepth := 12) only [w51_0, w51_1, w51_4, w51_5, w51_8, w51_9, w51_10, w51_13, w51_14, w51_15, w51_16, w51_17, w51_18, w51_21, w51_23, w51_25, w51_26, w51_29, w51_32, w51_33, w51_35, w51_36, w51_37, w51_40, w51_42, w51_45, w51_46, w51_48, w51_49, w51_50, w51_53, w51_56, w51_57, w51_58, w51_61, w51_62, w51_63, w51_66, w51_67, w51_68, w51_71, w51_72, oK_some, cont_int, cont_intS, cont_none, cont_noneS, cont_long, cont_longS, true_and, and_true, false_and, and_false, true_implies, false_implies, not_true_eq_false, not_false_eq_true, eq_self, or_true, true_or, Option.isSome_some, hpf_length, hpa_length, bI_eq0, fi_hpa, fl_hpa, ar_hpf, fi_hpf_ne, fl_hpf_ne, ar_hpa_ne, hpa_hpa, hpf_hpf, nI_1, two_ne, fokZ, implies_true, Nat.reduceEqDiff, g_29_5, sf_29_5, fe_29_5, rc_29, g_29_3, sf_29_3, fe_29_3, g_29_4, sf_29_4, fe_29_4, g_29_0, rc_1, rc_31, rc_35, rc_37, rc_39, rc_41, rc_46, rc_48, rc_50, rc_53, rc_55, rc_57, rc_59, rc_63, rc_66, hF.len, hs]
    exact her _ _ rfl _ H' hF hP hE
theorem C_numF {lo hi : Int32} (h : CP H xs n t) (hf : ¬ fi H 29 7 = 0) (hQ : ∀ v, Q (some (.int v)) H) : Wp scr (d + 2) 52 0 [some (.ref 29), some (.int lo), some (.int hi), none] [] H Q := by
  have hS := h.shp
  simp (maxDischargeDepth := 12) only [w52_0, w52_1, w52_2, w52_3, w52_6, w52_7, w52_8, w52_11, w52_12, oK_some, cont_int, cont_intS, cont_none, cont_noneS, cont_long, cont_longS, true_and, and_true, false_and, and_false, true_implies, false_implies, not_true_eq_false, not_false_eq_true, eq_self, or_true, true_or, Option.isSome_some, hpf_length, hpa_length, bI_eq0, fi_hpa, fl_hpa, ar_hpf, fi_hpf_ne, fl_hpf_ne, ar_hpa_ne, hpa_hpa, hpf_hpf, nI_1, two_ne, fokZ, implies_true, Nat.reduceEqDiff, rc_29, hS]
  refine C_whF h hf (fun v => ?_)
  simp (maxDischargeDepth := 12) only [w52_0, w52_1, w52_2, w52_3, w52_6, w52_7, w52_8, w52_11, w52_12, oK_some, cont_int, cont_intS, cont_none, cont_noneS, cont_long, cont_longS, true_and, and_true, false_and, and_false, true_implies, false_implies, not_true_eq_false, not_false_eq_true, eq_self, or_true, true_or, Option.isSome_some, hpf_length, hpa_length, bI_eq0, fi_hpa, fl_hpa, ar_hpf, fi_hpf_ne, fl_hpf_ne, ar_hpa_ne, hpa_hpa, hpf_hpf, nI_1, two_ne, fokZ, implies_true, Nat.reduceEqDiff, rc_29, hS, c_advF hS hf]
  exact hQ v
theorem C_num {lo hi : Int32} (h : CP H xs n t) (hf : fi H 29 7 = 0) (hok : ∀ w t', pNum xs n lo hi t = .ok (w, t') → ∀ H', FgR H H' → CP H' xs n t' → fi H' 29 7 = 0 → Q (some (.int w)) H') (her : ∀ c p, pNum xs n lo hi t = .error (c, p) → ∀ v H', FgR H H' → CP H' xs n t → CE H' c p → Q (some (.int v)) H') : Wp scr (d + 2) 52 0 [some (.ref 29), some (.int lo), some (.int hi), none] [] H Q := by
  have hS := h.shp
  unfold pNum at hok her
  simp (maxDischargeDepth := 12) only [w52_0, w52_1, w52_2, w52_3, w52_6, w52_7, w52_8, w52_11, w52_12, oK_some, cont_int, cont_intS, cont_none, cont_noneS, cont_long, cont_longS, true_and, and_true, false_and, and_false, true_implies, false_implies, not_true_eq_false, not_false_eq_true, eq_self, or_true, true_or, Option.isSome_some, hpf_length, hpa_length, bI_eq0, fi_hpa, fl_hpa, ar_hpf, fi_hpf_ne, fl_hpf_ne, ar_hpa_ne, hpa_hpa, hpf_hpf, nI_1, two_ne, fokZ, implies_true, Nat.reduceEqDiff, rc_29, hS]
  refine C_wh h hf (fun w e1 => ?_) (fun c p e1 v H' hF hP hE => ?_)
  · rw [e1] at hok
    simp (maxDischargeDepth := 12) only [w52_0, w52_1, w52_2, w52_3, w52_6, w52_7, w52_8, w52_11, w52_12, oK_some, cont_int, cont_intS, cont_none, cont_noneS, cont_long, cont_longS, true_and, and_true, false_and, and_false, true_implies, false_implies, not_true_eq_false, not_false_eq_true, eq_self, or_true, true_or, Option.isSome_some, hpf_length, hpa_length, bI_eq0, fi_hpa, fl_hpa, ar_hpf, fi_hpf_ne, fl_hpf_ne, ar_hpa_ne, hpa_hpa, hpf_hpf, nI_1, two_ne, fokZ, implies_true, Nat.reduceEqDiff, rc_29, hS]
    refine C_nx h hf (fun H' hF hP hf' => ?_)
    have hs := hF.shp
    simp (maxDischargeDepth := 12) only [w52_0, w52_1, w52_2, w52_3, w52_6, w52_7, w52_8, w52_11, w52_12, oK_some, cont_int, cont_intS, cont_none, cont_noneS, cont_long, cont_longS, true_and, and_true, false_and, and_false, true_implies, false_implies, not_true_eq_false, not_false_eq_true, eq_self, or_true, true_or, Option.isSome_some, hpf_length, hpa_length, bI_eq0, fi_hpa, fl_hpa, ar_hpf, fi_hpf_ne, fl_hpf_ne, ar_hpa_ne, hpa_hpa, hpf_hpf, nI_1, two_ne, fokZ, implies_true, Nat.reduceEqDiff, rc_29, hF.len, hs]
    exact hok _ _ rfl H' hF hP hf'
  · rw [e1] at her
    have hs := hF.shp
    simp (maxDischargeDepth := 12) only [w52_0, w52_1, w52_2, w52_3, w52_6, w52_7, w52_8, w52_11, w52_12, oK_some, cont_int, cont_intS, cont_none, cont_noneS, cont_long, cont_longS, true_and, and_true, false_and, and_false, true_implies, false_implies, not_true_eq_false, not_false_eq_true, eq_self, or_true, true_or, Option.isSome_some, hpf_length, hpa_length, bI_eq0, fi_hpa, fl_hpa, ar_hpf, fi_hpf_ne, fl_hpf_ne, ar_hpa_ne, hpa_hpa, hpf_hpf, nI_1, two_ne, fokZ, implies_true, Nat.reduceEqDiff, rc_29, hF.len, hs, c_advF hs hE.ne]
    exact her _ _ rfl v H' hF hP hE
end CREAD
