/-! ===== the class: its slope told ===== -/
section CSLOPE
variable {scr : List Int32} {d n tp c2 c3 c4 c5 c6 c7 : Nat} {m : Int32} {xs R : List Int32} {H : List AC} {Q : Option Value → List AC → Prop}
theorem C_tcopy4 {c : Nat} (hS : Shp H) (hc : fi H 17 2 = nI c) (h : c ≤ 7) (hQ : ∀ H', Fg [5] [(4, 2)] H H' → fi H' 4 2 = nI c → (∀ i k, i < c → k < 4 → tg (ar H' 5) i k = tg (ar H 18) i k) → Q none H') : Wp scr (d + 1) 97 0 [some (.ref 4), some (.ref 17), none] [] H Q := by
  have i1 : ∀ a : Nat, nI a + 1 = nI (a + 1) := fun a => ixa a 1 (v := 1) rfl
  have s1 := sf_4_2 (v := 0) hS
  have hF1 : Fg [5] [(4, 2)] H (hpf H 4 2 (.int 0)) := (fg_hpf (a := 4) (f := 2) (ci := 9) hS rfl (by decide))
  have e1 : fi (hpf H 4 2 (.int 0)) 4 2 = nI 0 := fe_4_2 hS
  simp (maxDischargeDepth := 12) only [w97_0, w97_1, w97_2, w97_5, w97_6, w97_8, w97_9, w97_12, w97_15, w97_16, w97_17, w97_18, w97_19, w97_22, w97_23, w97_24, w97_25, w97_28, w97_29, w97_30, w97_31, w97_34, w97_35, w97_36, w97_37, w97_40, w97_43, w97_46, w97_49, oK_some, cont_int, cont_intS, cont_none, cont_noneS, cont_long, cont_longS, true_and, and_true, false_and, and_false, true_implies, false_implies, not_true_eq_false, not_false_eq_true, eq_self, or_true, true_or, Option.isSome_some, hpf_length, hpa_length, bI_eq0, fi_hpa, fl_hpa, ar_hpf, fi_hpf_ne, fl_hpf_ne, ar_hpa_ne, hpa_hpa, hpf_hpf, nI_1, two_ne, fokZ, implies_true, Nat.reduceEqDiff, g_4_2, sf_4_2, fe_4_2, g_6_2, sf_6_2, fe_6_2, g_8_2, sf_8_2, fe_8_2, g_10_2, sf_10_2, fe_10_2, g_12_2, sf_12_2, fe_12_2, g_14_2, sf_14_2, fe_14_2, g_17_2, sf_17_2, fe_17_2, g_19_2, sf_19_2, fe_19_2, g_21_2, sf_21_2, fe_21_2, g_23_2, sf_23_2, fe_23_2, g_25_2, sf_25_2, fe_25_2, g_27_2, sf_27_2, fe_27_2, rc_4, rc_6, rc_8, rc_10, rc_12, rc_14, rc_17, rc_19, rc_21, rc_23, rc_25, rc_27, hS, s1]
  generalize hpf H 4 2 (.int 0) = X at s1 hF1 e1 ⊢
  have key := down (P := fun i => ∀ Y, Fg [5] [(4, 2)] H Y → fi Y 4 2 = nI i → (∀ j k, j < i → k < 4 → tg (ar Y 5) j k = tg (ar H 18) j k) → Wp scr (d + 1) 97 7 [some (.ref 4), some (.ref 17), some (.int (nI i))] [] Y Q) c ?_ ?_
  · exact key X hF1 e1 (fun j k hj => absurd hj (Nat.not_lt_zero _))
  · intro Y hY eY tY
    have sY := hY.shp
    have cY : fi Y 17 2 = nI c := (hY.int (by decide) (by decide)).trans hc
    rw [w97_7]
    simp (maxDischargeDepth := 12) only [w97_0, w97_1, w97_2, w97_5, w97_6, w97_8, w97_9, w97_12, w97_15, w97_16, w97_17, w97_18, w97_19, w97_22, w97_23, w97_24, w97_25, w97_28, w97_29, w97_30, w97_31, w97_34, w97_35, w97_36, w97_37, w97_40, w97_43, w97_46, w97_49, oK_some, cont_int, cont_intS, cont_none, cont_noneS, cont_long, cont_longS, true_and, and_true, false_and, and_false, true_implies, false_implies, not_true_eq_false, not_false_eq_true, eq_self, or_true, true_or, Option.isSome_some, hpf_length, hpa_length, bI_eq0, fi_hpa, fl_hpa, ar_hpf, fi_hpf_ne, fl_hpf_ne, ar_hpa_ne, hpa_hpa, hpf_hpf, nI_1, two_ne, fokZ, implies_true, Nat.reduceEqDiff, g_4_2, sf_4_2, fe_4_2, g_6_2, sf_6_2, fe_6_2, g_8_2, sf_8_2, fe_8_2, g_10_2, sf_10_2, fe_10_2, g_12_2, sf_12_2, fe_12_2, g_14_2, sf_14_2, fe_14_2, g_17_2, sf_17_2, fe_17_2, g_19_2, sf_19_2, fe_19_2, g_21_2, sf_21_2, fe_21_2, g_23_2, sf_23_2, fe_23_2, g_25_2, sf_25_2, fe_25_2, g_27_2, sf_27_2, fe_27_2, rc_4, rc_6, rc_8, rc_10, rc_12, rc_14, rc_17, rc_19, rc_21, rc_23, rc_25, rc_27, sY, cY, nI_les]
    exact hQ Y hY eY tY
  · intro i hi hw Y hY eY tY
    have sY := hY.shp
    have cY : fi Y 17 2 = nI c := (hY.int (by decide) (by decide)).trans hc
    have hx : (ar Y 18).length < 2147483648 := by rw [gn_18 sY]; decide
    have aB : ar Y 18 = ar H 18 := hY.arr (by decide)
    rw [w97_7]
    simp (maxDischargeDepth := 12) only [w97_0, w97_1, w97_2, w97_5, w97_6, w97_8, w97_9, w97_12, w97_15, w97_16, w97_17, w97_18, w97_19, w97_22, w97_23, w97_24, w97_25, w97_28, w97_29, w97_30, w97_31, w97_34, w97_35, w97_36, w97_37, w97_40, w97_43, w97_46, w97_49, oK_some, cont_int, cont_intS, cont_none, cont_noneS, cont_long, cont_longS, true_and, and_true, false_and, and_false, true_implies, false_implies, not_true_eq_false, not_false_eq_true, eq_self, or_true, true_or, Option.isSome_some, hpf_length, hpa_length, bI_eq0, fi_hpa, fl_hpa, ar_hpf, fi_hpf_ne, fl_hpf_ne, ar_hpa_ne, hpa_hpa, hpf_hpf, nI_1, two_ne, fokZ, implies_true, Nat.reduceEqDiff, g_4_2, sf_4_2, fe_4_2, g_6_2, sf_6_2, fe_6_2, g_8_2, sf_8_2, fe_8_2, g_10_2, sf_10_2, fe_10_2, g_12_2, sf_12_2, fe_12_2, g_14_2, sf_14_2, fe_14_2, g_17_2, sf_17_2, fe_17_2, g_19_2, sf_19_2, fe_19_2, g_21_2, sf_21_2, fe_21_2, g_23_2, sf_23_2, fe_23_2, g_25_2, sf_25_2, fe_25_2, g_27_2, sf_27_2, fe_27_2, rc_4, rc_6, rc_8, rc_10, rc_12, rc_14, rc_17, rc_19, rc_21, rc_23, rc_25, rc_27, sY, cY, nI_lef hi (by omega), c_Table_at (g_17_1 sY) (ga_18 sY) hx, tg_eq (xs := ar Y 18) (i := i) 0 (v := 0) (by omega) (by decide) rfl, tg_eq (xs := ar Y 18) (i := i) 1 (v := 1) (by omega) (by decide) rfl, tg_eq (xs := ar Y 18) (i := i) 2 (v := 2) (by omega) (by decide) rfl, tg_eq (xs := ar Y 18) (i := i) 3 (v := 3) (by omega) (by decide) rfl, c_add4 sY eY (show i < 7 by omega), i1]
    have s2 : Shp (hpa Y 5 (ad4 (ar Y 5) i (tg (ar Y 18) i 0) (tg (ar Y 18) i 1) (tg (ar Y 18) i 2) (tg (ar Y 18) i 3))) := sa_5 sY (by rw [ad4_len, gn_5 sY])
    have hF2 : Fg [5] [(4, 2)] Y (hpf (hpa Y 5 (ad4 (ar Y 5) i (tg (ar Y 18) i 0) (tg (ar Y 18) i 1) (tg (ar Y 18) i 2) (tg (ar Y 18) i 3))) 4 2 (.int (nI (i + 1)))) := (fg_hpa sY (by rw [ad4_len]) (by decide)).trans (fg_hpf (a := 4) (f := 2) (ci := 9) s2 rfl (by decide))
    have a3 : ar (hpf (hpa Y 5 (ad4 (ar Y 5) i (tg (ar Y 18) i 0) (tg (ar Y 18) i 1) (tg (ar Y 18) i 2) (tg (ar Y 18) i 3))) 4 2 (.int (nI (i + 1)))) 5 = ad4 (ar Y 5) i (tg (ar Y 18) i 0) (tg (ar Y 18) i 1) (tg (ar Y 18) i 2) (tg (ar Y 18) i 3) := by rw [ar_hpf]; exact ae_5 sY
    have a4 : fi (hpf (hpa Y 5 (ad4 (ar Y 5) i (tg (ar Y 18) i 0) (tg (ar Y 18) i 1) (tg (ar Y 18) i 2) (tg (ar Y 18) i 3))) 4 2 (.int (nI (i + 1)))) 4 2 = nI (i + 1) := fe_4_2 s2
    have fin := hw _ (hY.trans hF2) a4 (fun j k hj hk => by
      rw [a3]
      rcases Nat.lt_or_ge j i with q | q
      · rw [ad4_old q hk]; exact tY j k q hk
      · have ej : j = i := by omega
        subst ej
        obtain ⟨z0, z1, z2, z3⟩ := ad4_new (xs := ar Y 5) (c := j) (v0 := tg (ar Y 18) j 0) (v1 := tg (ar Y 18) j 1) (v2 := tg (ar Y 18) j 2) (v3 := tg (ar Y 18) j 3) (by rw [gn_5 sY]; omega)
        have ck : k = 0 ∨ k = 1 ∨ k = 2 ∨ k = 3 := by omega
        rcases ck with rfl | rfl | rfl | rfl
        · rw [z0, aB]
        · rw [z1, aB]
        · rw [z2, aB]
        · rw [z3, aB])
    exact fin
theorem C_tcopy6 {c : Nat} (hS : Shp H) (hc : fi H 19 2 = nI c) (h : c ≤ 10) (hQ : ∀ H', Fg [7] [(6, 2)] H H' → fi H' 6 2 = nI c → (∀ i k, i < c → k < 4 → tg (ar H' 7) i k = tg (ar H 20) i k) → Q none H') : Wp scr (d + 1) 97 0 [some (.ref 6), some (.ref 19), none] [] H Q := by
  have i1 : ∀ a : Nat, nI a + 1 = nI (a + 1) := fun a => ixa a 1 (v := 1) rfl
  have s1 := sf_6_2 (v := 0) hS
  have hF1 : Fg [7] [(6, 2)] H (hpf H 6 2 (.int 0)) := (fg_hpf (a := 6) (f := 2) (ci := 9) hS rfl (by decide))
  have e1 : fi (hpf H 6 2 (.int 0)) 6 2 = nI 0 := fe_6_2 hS
  simp (maxDischargeDepth := 12) only [w97_0, w97_1, w97_2, w97_5, w97_6, w97_8, w97_9, w97_12, w97_15, w97_16, w97_17, w97_18, w97_19, w97_22, w97_23, w97_24, w97_25, w97_28, w97_29, w97_30, w97_31, w97_34, w97_35, w97_36, w97_37, w97_40, w97_43, w97_46, w97_49, oK_some, cont_int, cont_intS, cont_none, cont_noneS, cont_long, cont_longS, true_and, and_true, false_and, and_false, true_implies, false_implies, not_true_eq_false, not_false_eq_true, eq_self, or_true, true_or, Option.isSome_some, hpf_length, hpa_length, bI_eq0, fi_hpa, fl_hpa, ar_hpf, fi_hpf_ne, fl_hpf_ne, ar_hpa_ne, hpa_hpa, hpf_hpf, nI_1, two_ne, fokZ, implies_true, Nat.reduceEqDiff, g_4_2, sf_4_2, fe_4_2, g_6_2, sf_6_2, fe_6_2, g_8_2, sf_8_2, fe_8_2, g_10_2, sf_10_2, fe_10_2, g_12_2, sf_12_2, fe_12_2, g_14_2, sf_14_2, fe_14_2, g_17_2, sf_17_2, fe_17_2, g_19_2, sf_19_2, fe_19_2, g_21_2, sf_21_2, fe_21_2, g_23_2, sf_23_2, fe_23_2, g_25_2, sf_25_2, fe_25_2, g_27_2, sf_27_2, fe_27_2, rc_4, rc_6, rc_8, rc_10, rc_12, rc_14, rc_17, rc_19, rc_21, rc_23, rc_25, rc_27, hS, s1]
  generalize hpf H 6 2 (.int 0) = X at s1 hF1 e1 ⊢
  have key := down (P := fun i => ∀ Y, Fg [7] [(6, 2)] H Y → fi Y 6 2 = nI i → (∀ j k, j < i → k < 4 → tg (ar Y 7) j k = tg (ar H 20) j k) → Wp scr (d + 1) 97 7 [some (.ref 6), some (.ref 19), some (.int (nI i))] [] Y Q) c ?_ ?_
  · exact key X hF1 e1 (fun j k hj => absurd hj (Nat.not_lt_zero _))
  · intro Y hY eY tY
    have sY := hY.shp
    have cY : fi Y 19 2 = nI c := (hY.int (by decide) (by decide)).trans hc
    rw [w97_7]
    simp (maxDischargeDepth := 12) only [w97_0, w97_1, w97_2, w97_5, w97_6, w97_8, w97_9, w97_12, w97_15, w97_16, w97_17, w97_18, w97_19, w97_22, w97_23, w97_24, w97_25, w97_28, w97_29, w97_30, w97_31, w97_34, w97_35, w97_36, w97_37, w97_40, w97_43, w97_46, w97_49, oK_some, cont_int, cont_intS, cont_none, cont_noneS, cont_long, cont_longS, true_and, and_true, false_and, and_false, true_implies, false_implies, not_true_eq_false, not_false_eq_true, eq_self, or_true, true_or, Option.isSome_some, hpf_length, hpa_length, bI_eq0, fi_hpa, fl_hpa, ar_hpf, fi_hpf_ne, fl_hpf_ne, ar_hpa_ne, hpa_hpa, hpf_hpf, nI_1, two_ne, fokZ, implies_true, Nat.reduceEqDiff, g_4_2, sf_4_2, fe_4_2, g_6_2, sf_6_2, fe_6_2, g_8_2, sf_8_2, fe_8_2, g_10_2, sf_10_2, fe_10_2, g_12_2, sf_12_2, fe_12_2, g_14_2, sf_14_2, fe_14_2, g_17_2, sf_17_2, fe_17_2, g_19_2, sf_19_2, fe_19_2, g_21_2, sf_21_2, fe_21_2, g_23_2, sf_23_2, fe_23_2, g_25_2, sf_25_2, fe_25_2, g_27_2, sf_27_2, fe_27_2, rc_4, rc_6, rc_8, rc_10, rc_12, rc_14, rc_17, rc_19, rc_21, rc_23, rc_25, rc_27, sY, cY, nI_les]
    exact hQ Y hY eY tY
  · intro i hi hw Y hY eY tY
    have sY := hY.shp
    have cY : fi Y 19 2 = nI c := (hY.int (by decide) (by decide)).trans hc
    have hx : (ar Y 20).length < 2147483648 := by rw [gn_20 sY]; decide
    have aB : ar Y 20 = ar H 20 := hY.arr (by decide)
    rw [w97_7]
    simp (maxDischargeDepth := 12) only [w97_0, w97_1, w97_2, w97_5, w97_6, w97_8, w97_9, w97_12, w97_15, w97_16, w97_17, w97_18, w97_19, w97_22, w97_23, w97_24, w97_25, w97_28, w97_29, w97_30, w97_31, w97_34, w97_35, w97_36, w97_37, w97_40, w97_43, w97_46, w97_49, oK_some, cont_int, cont_intS, cont_none, cont_noneS, cont_long, cont_longS, true_and, and_true, false_and, and_false, true_implies, false_implies, not_true_eq_false, not_false_eq_true, eq_self, or_true, true_or, Option.isSome_some, hpf_length, hpa_length, bI_eq0, fi_hpa, fl_hpa, ar_hpf, fi_hpf_ne, fl_hpf_ne, ar_hpa_ne, hpa_hpa, hpf_hpf, nI_1, two_ne, fokZ, implies_true, Nat.reduceEqDiff, g_4_2, sf_4_2, fe_4_2, g_6_2, sf_6_2, fe_6_2, g_8_2, sf_8_2, fe_8_2, g_10_2, sf_10_2, fe_10_2, g_12_2, sf_12_2, fe_12_2, g_14_2, sf_14_2, fe_14_2, g_17_2, sf_17_2, fe_17_2, g_19_2, sf_19_2, fe_19_2, g_21_2, sf_21_2, fe_21_2, g_23_2, sf_23_2, fe_23_2, g_25_2, sf_25_2, fe_25_2, g_27_2, sf_27_2, fe_27_2, rc_4, rc_6, rc_8, rc_10, rc_12, rc_14, rc_17, rc_19, rc_21, rc_23, rc_25, rc_27, sY, cY, nI_lef hi (by omega), c_Table_at (g_19_1 sY) (ga_20 sY) hx, tg_eq (xs := ar Y 20) (i := i) 0 (v := 0) (by omega) (by decide) rfl, tg_eq (xs := ar Y 20) (i := i) 1 (v := 1) (by omega) (by decide) rfl, tg_eq (xs := ar Y 20) (i := i) 2 (v := 2) (by omega) (by decide) rfl, tg_eq (xs := ar Y 20) (i := i) 3 (v := 3) (by omega) (by decide) rfl, c_add6 sY eY (show i < 10 by omega), i1]
    have s2 : Shp (hpa Y 7 (ad4 (ar Y 7) i (tg (ar Y 20) i 0) (tg (ar Y 20) i 1) (tg (ar Y 20) i 2) (tg (ar Y 20) i 3))) := sa_7 sY (by rw [ad4_len, gn_7 sY])
    have hF2 : Fg [7] [(6, 2)] Y (hpf (hpa Y 7 (ad4 (ar Y 7) i (tg (ar Y 20) i 0) (tg (ar Y 20) i 1) (tg (ar Y 20) i 2) (tg (ar Y 20) i 3))) 6 2 (.int (nI (i + 1)))) := (fg_hpa sY (by rw [ad4_len]) (by decide)).trans (fg_hpf (a := 6) (f := 2) (ci := 9) s2 rfl (by decide))
    have a3 : ar (hpf (hpa Y 7 (ad4 (ar Y 7) i (tg (ar Y 20) i 0) (tg (ar Y 20) i 1) (tg (ar Y 20) i 2) (tg (ar Y 20) i 3))) 6 2 (.int (nI (i + 1)))) 7 = ad4 (ar Y 7) i (tg (ar Y 20) i 0) (tg (ar Y 20) i 1) (tg (ar Y 20) i 2) (tg (ar Y 20) i 3) := by rw [ar_hpf]; exact ae_7 sY
    have a4 : fi (hpf (hpa Y 7 (ad4 (ar Y 7) i (tg (ar Y 20) i 0) (tg (ar Y 20) i 1) (tg (ar Y 20) i 2) (tg (ar Y 20) i 3))) 6 2 (.int (nI (i + 1)))) 6 2 = nI (i + 1) := fe_6_2 s2
    have fin := hw _ (hY.trans hF2) a4 (fun j k hj hk => by
      rw [a3]
      rcases Nat.lt_or_ge j i with q | q
      · rw [ad4_old q hk]; exact tY j k q hk
      · have ej : j = i := by omega
        subst ej
        obtain ⟨z0, z1, z2, z3⟩ := ad4_new (xs := ar Y 7) (c := j) (v0 := tg (ar Y 20) j 0) (v1 := tg (ar Y 20) j 1) (v2 := tg (ar Y 20) j 2) (v3 := tg (ar Y 20) j 3) (by rw [gn_7 sY]; omega)
        have ck : k = 0 ∨ k = 1 ∨ k = 2 ∨ k = 3 := by omega
        rcases ck with rfl | rfl | rfl | rfl
        · rw [z0, aB]
        · rw [z1, aB]
        · rw [z2, aB]
        · rw [z3, aB])
    exact fin
theorem C_tcopy8 {c : Nat} (hS : Shp H) (hc : fi H 21 2 = nI c) (h : c ≤ 5) (hQ : ∀ H', Fg [9] [(8, 2)] H H' → fi H' 8 2 = nI c → (∀ i k, i < c → k < 4 → tg (ar H' 9) i k = tg (ar H 22) i k) → Q none H') : Wp scr (d + 1) 97 0 [some (.ref 8), some (.ref 21), none] [] H Q := by
  have i1 : ∀ a : Nat, nI a + 1 = nI (a + 1) := fun a => ixa a 1 (v := 1) rfl
  have s1 := sf_8_2 (v := 0) hS
  have hF1 : Fg [9] [(8, 2)] H (hpf H 8 2 (.int 0)) := (fg_hpf (a := 8) (f := 2) (ci := 9) hS rfl (by decide))
  have e1 : fi (hpf H 8 2 (.int 0)) 8 2 = nI 0 := fe_8_2 hS
  simp (maxDischargeDepth := 12) only [w97_0, w97_1, w97_2, w97_5, w97_6, w97_8, w97_9, w97_12, w97_15, w97_16, w97_17, w97_18, w97_19, w97_22, w97_23, w97_24, w97_25, w97_28, w97_29, w97_30, w97_31, w97_34, w97_35, w97_36, w97_37, w97_40, w97_43, w97_46, w97_49, oK_some, cont_int, cont_intS, cont_none, cont_noneS, cont_long, cont_longS, true_and, and_true, false_and, and_false, true_implies, false_implies, not_true_eq_false, not_false_eq_true, eq_self, or_true, true_or, Option.isSome_some, hpf_length, hpa_length, bI_eq0, fi_hpa, fl_hpa, ar_hpf, fi_hpf_ne, fl_hpf_ne, ar_hpa_ne, hpa_hpa, hpf_hpf, nI_1, two_ne, fokZ, implies_true, Nat.reduceEqDiff, g_4_2, sf_4_2, fe_4_2, g_6_2, sf_6_2, fe_6_2, g_8_2, sf_8_2, fe_8_2, g_10_2, sf_10_2, fe_10_2, g_12_2, sf_12_2, fe_12_2, g_14_2, sf_14_2, fe_14_2, g_17_2, sf_17_2, fe_17_2, g_19_2, sf_19_2, fe_19_2, g_21_2, sf_21_2, fe_21_2, g_23_2, sf_23_2, fe_23_2, g_25_2, sf_25_2, fe_25_2, g_27_2, sf_27_2, fe_27_2, rc_4, rc_6, rc_8, rc_10, rc_12, rc_14, rc_17, rc_19, rc_21, rc_23, rc_25, rc_27, hS, s1]
  generalize hpf H 8 2 (.int 0) = X at s1 hF1 e1 ⊢
  have key := down (P := fun i => ∀ Y, Fg [9] [(8, 2)] H Y → fi Y 8 2 = nI i → (∀ j k, j < i → k < 4 → tg (ar Y 9) j k = tg (ar H 22) j k) → Wp scr (d + 1) 97 7 [some (.ref 8), some (.ref 21), some (.int (nI i))] [] Y Q) c ?_ ?_
  · exact key X hF1 e1 (fun j k hj => absurd hj (Nat.not_lt_zero _))
  · intro Y hY eY tY
    have sY := hY.shp
    have cY : fi Y 21 2 = nI c := (hY.int (by decide) (by decide)).trans hc
    rw [w97_7]
    simp (maxDischargeDepth := 12) only [w97_0, w97_1, w97_2, w97_5, w97_6, w97_8, w97_9, w97_12, w97_15, w97_16, w97_17, w97_18, w97_19, w97_22, w97_23, w97_24, w97_25, w97_28, w97_29, w97_30, w97_31, w97_34, w97_35, w97_36, w97_37, w97_40, w97_43, w97_46, w97_49, oK_some, cont_int, cont_intS, cont_none, cont_noneS, cont_long, cont_longS, true_and, and_true, false_and, and_false, true_implies, false_implies, not_true_eq_false, not_false_eq_true, eq_self, or_true, true_or, Option.isSome_some, hpf_length, hpa_length, bI_eq0, fi_hpa, fl_hpa, ar_hpf, fi_hpf_ne, fl_hpf_ne, ar_hpa_ne, hpa_hpa, hpf_hpf, nI_1, two_ne, fokZ, implies_true, Nat.reduceEqDiff, g_4_2, sf_4_2, fe_4_2, g_6_2, sf_6_2, fe_6_2, g_8_2, sf_8_2, fe_8_2, g_10_2, sf_10_2, fe_10_2, g_12_2, sf_12_2, fe_12_2, g_14_2, sf_14_2, fe_14_2, g_17_2, sf_17_2, fe_17_2, g_19_2, sf_19_2, fe_19_2, g_21_2, sf_21_2, fe_21_2, g_23_2, sf_23_2, fe_23_2, g_25_2, sf_25_2, fe_25_2, g_27_2, sf_27_2, fe_27_2, rc_4, rc_6, rc_8, rc_10, rc_12, rc_14, rc_17, rc_19, rc_21, rc_23, rc_25, rc_27, sY, cY, nI_les]
    exact hQ Y hY eY tY
  · intro i hi hw Y hY eY tY
    have sY := hY.shp
    have cY : fi Y 21 2 = nI c := (hY.int (by decide) (by decide)).trans hc
    have hx : (ar Y 22).length < 2147483648 := by rw [gn_22 sY]; decide
    have aB : ar Y 22 = ar H 22 := hY.arr (by decide)
    rw [w97_7]
    simp (maxDischargeDepth := 12) only [w97_0, w97_1, w97_2, w97_5, w97_6, w97_8, w97_9, w97_12, w97_15, w97_16, w97_17, w97_18, w97_19, w97_22, w97_23, w97_24, w97_25, w97_28, w97_29, w97_30, w97_31, w97_34, w97_35, w97_36, w97_37, w97_40, w97_43, w97_46, w97_49, oK_some, cont_int, cont_intS, cont_none, cont_noneS, cont_long, cont_longS, true_and, and_true, false_and, and_false, true_implies, false_implies, not_true_eq_false, not_false_eq_true, eq_self, or_true, true_or, Option.isSome_some, hpf_length, hpa_length, bI_eq0, fi_hpa, fl_hpa, ar_hpf, fi_hpf_ne, fl_hpf_ne, ar_hpa_ne, hpa_hpa, hpf_hpf, nI_1, two_ne, fokZ, implies_true, Nat.reduceEqDiff, g_4_2, sf_4_2, fe_4_2, g_6_2, sf_6_2, fe_6_2, g_8_2, sf_8_2, fe_8_2, g_10_2, sf_10_2, fe_10_2, g_12_2, sf_12_2, fe_12_2, g_14_2, sf_14_2, fe_14_2, g_17_2, sf_17_2, fe_17_2, g_19_2, sf_19_2, fe_19_2, g_21_2, sf_21_2, fe_21_2, g_23_2, sf_23_2, fe_23_2, g_25_2, sf_25_2, fe_25_2, g_27_2, sf_27_2, fe_27_2, rc_4, rc_6, rc_8, rc_10, rc_12, rc_14, rc_17, rc_19, rc_21, rc_23, rc_25, rc_27, sY, cY, nI_lef hi (by omega), c_Table_at (g_21_1 sY) (ga_22 sY) hx, tg_eq (xs := ar Y 22) (i := i) 0 (v := 0) (by omega) (by decide) rfl, tg_eq (xs := ar Y 22) (i := i) 1 (v := 1) (by omega) (by decide) rfl, tg_eq (xs := ar Y 22) (i := i) 2 (v := 2) (by omega) (by decide) rfl, tg_eq (xs := ar Y 22) (i := i) 3 (v := 3) (by omega) (by decide) rfl, c_add8 sY eY (show i < 5 by omega), i1]
    have s2 : Shp (hpa Y 9 (ad4 (ar Y 9) i (tg (ar Y 22) i 0) (tg (ar Y 22) i 1) (tg (ar Y 22) i 2) (tg (ar Y 22) i 3))) := sa_9 sY (by rw [ad4_len, gn_9 sY])
    have hF2 : Fg [9] [(8, 2)] Y (hpf (hpa Y 9 (ad4 (ar Y 9) i (tg (ar Y 22) i 0) (tg (ar Y 22) i 1) (tg (ar Y 22) i 2) (tg (ar Y 22) i 3))) 8 2 (.int (nI (i + 1)))) := (fg_hpa sY (by rw [ad4_len]) (by decide)).trans (fg_hpf (a := 8) (f := 2) (ci := 9) s2 rfl (by decide))
    have a3 : ar (hpf (hpa Y 9 (ad4 (ar Y 9) i (tg (ar Y 22) i 0) (tg (ar Y 22) i 1) (tg (ar Y 22) i 2) (tg (ar Y 22) i 3))) 8 2 (.int (nI (i + 1)))) 9 = ad4 (ar Y 9) i (tg (ar Y 22) i 0) (tg (ar Y 22) i 1) (tg (ar Y 22) i 2) (tg (ar Y 22) i 3) := by rw [ar_hpf]; exact ae_9 sY
    have a4 : fi (hpf (hpa Y 9 (ad4 (ar Y 9) i (tg (ar Y 22) i 0) (tg (ar Y 22) i 1) (tg (ar Y 22) i 2) (tg (ar Y 22) i 3))) 8 2 (.int (nI (i + 1)))) 8 2 = nI (i + 1) := fe_8_2 s2
    have fin := hw _ (hY.trans hF2) a4 (fun j k hj hk => by
      rw [a3]
      rcases Nat.lt_or_ge j i with q | q
      · rw [ad4_old q hk]; exact tY j k q hk
      · have ej : j = i := by omega
        subst ej
        obtain ⟨z0, z1, z2, z3⟩ := ad4_new (xs := ar Y 9) (c := j) (v0 := tg (ar Y 22) j 0) (v1 := tg (ar Y 22) j 1) (v2 := tg (ar Y 22) j 2) (v3 := tg (ar Y 22) j 3) (by rw [gn_9 sY]; omega)
        have ck : k = 0 ∨ k = 1 ∨ k = 2 ∨ k = 3 := by omega
        rcases ck with rfl | rfl | rfl | rfl
        · rw [z0, aB]
        · rw [z1, aB]
        · rw [z2, aB]
        · rw [z3, aB])
    exact fin
theorem C_tcopy10 {c : Nat} (hS : Shp H) (hc : fi H 23 2 = nI c) (h : c ≤ 6) (hQ : ∀ H', Fg [11] [(10, 2)] H H' → fi H' 10 2 = nI c → (∀ i k, i < c → k < 4 → tg (ar H' 11) i k = tg (ar H 24) i k) → Q none H') : Wp scr (d + 1) 97 0 [some (.ref 10), some (.ref 23), none] [] H Q := by
  have i1 : ∀ a : Nat, nI a + 1 = nI (a + 1) := fun a => ixa a 1 (v := 1) rfl
  have s1 := sf_10_2 (v := 0) hS
  have hF1 : Fg [11] [(10, 2)] H (hpf H 10 2 (.int 0)) := (fg_hpf (a := 10) (f := 2) (ci := 9) hS rfl (by decide))
  have e1 : fi (hpf H 10 2 (.int 0)) 10 2 = nI 0 := fe_10_2 hS
  simp (maxDischargeDepth := 12) only [w97_0, w97_1, w97_2, w97_5, w97_6, w97_8, w97_9, w97_12, w97_15, w97_16, w97_17, w97_18, w97_19, w97_22, w97_23, w97_24, w97_25, w97_28, w97_29, w97_30, w97_31, w97_34, w97_35, w97_36, w97_37, w97_40, w97_43, w97_46, w97_49, oK_some, cont_int, cont_intS, cont_none, cont_noneS, cont_long, cont_longS, true_and, and_true, false_and, and_false, true_implies, false_implies, not_true_eq_false, not_false_eq_true, eq_self, or_true, true_or, Option.isSome_some, hpf_length, hpa_length, bI_eq0, fi_hpa, fl_hpa, ar_hpf, fi_hpf_ne, fl_hpf_ne, ar_hpa_ne, hpa_hpa, hpf_hpf, nI_1, two_ne, fokZ, implies_true, Nat.reduceEqDiff, g_4_2, sf_4_2, fe_4_2, g_6_2, sf_6_2, fe_6_2, g_8_2, sf_8_2, fe_8_2, g_10_2, sf_10_2, fe_10_2, g_12_2, sf_12_2, fe_12_2, g_14_2, sf_14_2, fe_14_2, g_17_2, sf_17_2, fe_17_2, g_19_2, sf_19_2, fe_19_2, g_21_2, sf_21_2, fe_21_2, g_23_2, sf_23_2, fe_23_2, g_25_2, sf_25_2, fe_25_2, g_27_2, sf_27_2, fe_27_2, rc_4, rc_6, rc_8, rc_10, rc_12, rc_14, rc_17, rc_19, rc_21, rc_23, rc_25, rc_27, hS, s1]
  generalize hpf H 10 2 (.int 0) = X at s1 hF1 e1 ⊢
  have key := down (P := fun i => ∀ Y, Fg [11] [(10, 2)] H Y → fi Y 10 2 = nI i → (∀ j k, j < i → k < 4 → tg (ar Y 11) j k = tg (ar H 24) j k) → Wp scr (d + 1) 97 7 [some (.ref 10), some (.ref 23), some (.int (nI i))] [] Y Q) c ?_ ?_
  · exact key X hF1 e1 (fun j k hj => absurd hj (Nat.not_lt_zero _))
  · intro Y hY eY tY
    have sY := hY.shp
    have cY : fi Y 23 2 = nI c := (hY.int (by decide) (by decide)).trans hc
    rw [w97_7]
    simp (maxDischargeDepth := 12) only [w97_0, w97_1, w97_2, w97_5, w97_6, w97_8, w97_9, w97_12, w97_15, w97_16, w97_17, w97_18, w97_19, w97_22, w97_23, w97_24, w97_25, w97_28, w97_29, w97_30, w97_31, w97_34, w97_35, w97_36, w97_37, w97_40, w97_43, w97_46, w97_49, oK_some, cont_int, cont_intS, cont_none, cont_noneS, cont_long, cont_longS, true_and, and_true, false_and, and_false, true_implies, false_implies, not_true_eq_false, not_false_eq_true, eq_self, or_true, true_or, Option.isSome_some, hpf_length, hpa_length, bI_eq0, fi_hpa, fl_hpa, ar_hpf, fi_hpf_ne, fl_hpf_ne, ar_hpa_ne, hpa_hpa, hpf_hpf, nI_1, two_ne, fokZ, implies_true, Nat.reduceEqDiff, g_4_2, sf_4_2, fe_4_2, g_6_2, sf_6_2, fe_6_2, g_8_2, sf_8_2, fe_8_2, g_10_2, sf_10_2, fe_10_2, g_12_2, sf_12_2, fe_12_2, g_14_2, sf_14_2, fe_14_2, g_17_2, sf_17_2, fe_17_2, g_19_2, sf_19_2, fe_19_2, g_21_2, sf_21_2, fe_21_2, g_23_2, sf_23_2, fe_23_2, g_25_2, sf_25_2, fe_25_2, g_27_2, sf_27_2, fe_27_2, rc_4, rc_6, rc_8, rc_10, rc_12, rc_14, rc_17, rc_19, rc_21, rc_23, rc_25, rc_27, sY, cY, nI_les]
    exact hQ Y hY eY tY
  · intro i hi hw Y hY eY tY
    have sY := hY.shp
    have cY : fi Y 23 2 = nI c := (hY.int (by decide) (by decide)).trans hc
    have hx : (ar Y 24).length < 2147483648 := by rw [gn_24 sY]; decide
    have aB : ar Y 24 = ar H 24 := hY.arr (by decide)
    rw [w97_7]
    simp (maxDischargeDepth := 12) only [w97_0, w97_1, w97_2, w97_5, w97_6, w97_8, w97_9, w97_12, w97_15, w97_16, w97_17, w97_18, w97_19, w97_22, w97_23, w97_24, w97_25, w97_28, w97_29, w97_30, w97_31, w97_34, w97_35, w97_36, w97_37, w97_40, w97_43, w97_46, w97_49, oK_some, cont_int, cont_intS, cont_none, cont_noneS, cont_long, cont_longS, true_and, and_true, false_and, and_false, true_implies, false_implies, not_true_eq_false, not_false_eq_true, eq_self, or_true, true_or, Option.isSome_some, hpf_length, hpa_length, bI_eq0, fi_hpa, fl_hpa, ar_hpf, fi_hpf_ne, fl_hpf_ne, ar_hpa_ne, hpa_hpa, hpf_hpf, nI_1, two_ne, fokZ, implies_true, Nat.reduceEqDiff, g_4_2, sf_4_2, fe_4_2, g_6_2, sf_6_2, fe_6_2, g_8_2, sf_8_2, fe_8_2, g_10_2, sf_10_2, fe_10_2, g_12_2, sf_12_2, fe_12_2, g_14_2, sf_14_2, fe_14_2, g_17_2, sf_17_2, fe_17_2, g_19_2, sf_19_2, fe_19_2, g_21_2, sf_21_2, fe_21_2, g_23_2, sf_23_2, fe_23_2, g_25_2, sf_25_2, fe_25_2, g_27_2, sf_27_2, fe_27_2, rc_4, rc_6, rc_8, rc_10, rc_12, rc_14, rc_17, rc_19, rc_21, rc_23, rc_25, rc_27, sY, cY, nI_lef hi (by omega), c_Table_at (g_23_1 sY) (ga_24 sY) hx, tg_eq (xs := ar Y 24) (i := i) 0 (v := 0) (by omega) (by decide) rfl, tg_eq (xs := ar Y 24) (i := i) 1 (v := 1) (by omega) (by decide) rfl, tg_eq (xs := ar Y 24) (i := i) 2 (v := 2) (by omega) (by decide) rfl, tg_eq (xs := ar Y 24) (i := i) 3 (v := 3) (by omega) (by decide) rfl, c_add10 sY eY (show i < 6 by omega), i1]
    have s2 : Shp (hpa Y 11 (ad4 (ar Y 11) i (tg (ar Y 24) i 0) (tg (ar Y 24) i 1) (tg (ar Y 24) i 2) (tg (ar Y 24) i 3))) := sa_11 sY (by rw [ad4_len, gn_11 sY])
    have hF2 : Fg [11] [(10, 2)] Y (hpf (hpa Y 11 (ad4 (ar Y 11) i (tg (ar Y 24) i 0) (tg (ar Y 24) i 1) (tg (ar Y 24) i 2) (tg (ar Y 24) i 3))) 10 2 (.int (nI (i + 1)))) := (fg_hpa sY (by rw [ad4_len]) (by decide)).trans (fg_hpf (a := 10) (f := 2) (ci := 9) s2 rfl (by decide))
    have a3 : ar (hpf (hpa Y 11 (ad4 (ar Y 11) i (tg (ar Y 24) i 0) (tg (ar Y 24) i 1) (tg (ar Y 24) i 2) (tg (ar Y 24) i 3))) 10 2 (.int (nI (i + 1)))) 11 = ad4 (ar Y 11) i (tg (ar Y 24) i 0) (tg (ar Y 24) i 1) (tg (ar Y 24) i 2) (tg (ar Y 24) i 3) := by rw [ar_hpf]; exact ae_11 sY
    have a4 : fi (hpf (hpa Y 11 (ad4 (ar Y 11) i (tg (ar Y 24) i 0) (tg (ar Y 24) i 1) (tg (ar Y 24) i 2) (tg (ar Y 24) i 3))) 10 2 (.int (nI (i + 1)))) 10 2 = nI (i + 1) := fe_10_2 s2
    have fin := hw _ (hY.trans hF2) a4 (fun j k hj hk => by
      rw [a3]
      rcases Nat.lt_or_ge j i with q | q
      · rw [ad4_old q hk]; exact tY j k q hk
      · have ej : j = i := by omega
        subst ej
        obtain ⟨z0, z1, z2, z3⟩ := ad4_new (xs := ar Y 11) (c := j) (v0 := tg (ar Y 24) j 0) (v1 := tg (ar Y 24) j 1) (v2 := tg (ar Y 24) j 2) (v3 := tg (ar Y 24) j 3) (by rw [gn_11 sY]; omega)
        have ck : k = 0 ∨ k = 1 ∨ k = 2 ∨ k = 3 := by omega
        rcases ck with rfl | rfl | rfl | rfl
        · rw [z0, aB]
        · rw [z1, aB]
        · rw [z2, aB]
        · rw [z3, aB])
    exact fin
theorem C_tcopy12 {c : Nat} (hS : Shp H) (hc : fi H 25 2 = nI c) (h : c ≤ 5) (hQ : ∀ H', Fg [13] [(12, 2)] H H' → fi H' 12 2 = nI c → (∀ i k, i < c → k < 4 → tg (ar H' 13) i k = tg (ar H 26) i k) → Q none H') : Wp scr (d + 1) 97 0 [some (.ref 12), some (.ref 25), none] [] H Q := by
  have i1 : ∀ a : Nat, nI a + 1 = nI (a + 1) := fun a => ixa a 1 (v := 1) rfl
  have s1 := sf_12_2 (v := 0) hS
  have hF1 : Fg [13] [(12, 2)] H (hpf H 12 2 (.int 0)) := (fg_hpf (a := 12) (f := 2) (ci := 9) hS rfl (by decide))
  have e1 : fi (hpf H 12 2 (.int 0)) 12 2 = nI 0 := fe_12_2 hS
  simp (maxDischargeDepth := 12) only [w97_0, w97_1, w97_2, w97_5, w97_6, w97_8, w97_9, w97_12, w97_15, w97_16, w97_17, w97_18, w97_19, w97_22, w97_23, w97_24, w97_25, w97_28, w97_29, w97_30, w97_31, w97_34, w97_35, w97_36, w97_37, w97_40, w97_43, w97_46, w97_49, oK_some, cont_int, cont_intS, cont_none, cont_noneS, cont_long, cont_longS, true_and, and_true, false_and, and_false, true_implies, false_implies, not_true_eq_false, not_false_eq_true, eq_self, or_true, true_or, Option.isSome_some, hpf_length, hpa_length, bI_eq0, fi_hpa, fl_hpa, ar_hpf, fi_hpf_ne, fl_hpf_ne, ar_hpa_ne, hpa_hpa, hpf_hpf, nI_1, two_ne, fokZ, implies_true, Nat.reduceEqDiff, g_4_2, sf_4_2, fe_4_2, g_6_2, sf_6_2, fe_6_2, g_8_2, sf_8_2, fe_8_2, g_10_2, sf_10_2, fe_10_2, g_12_2, sf_12_2, fe_12_2, g_14_2, sf_14_2, fe_14_2, g_17_2, sf_17_2, fe_17_2, g_19_2, sf_19_2, fe_19_2, g_21_2, sf_21_2, fe_21_2, g_23_2, sf_23_2, fe_23_2, g_25_2, sf_25_2, fe_25_2, g_27_2, sf_27_2, fe_27_2, rc_4, rc_6, rc_8, rc_10, rc_12, rc_14, rc_17, rc_19, rc_21, rc_23, rc_25, rc_27, hS, s1]
  generalize hpf H 12 2 (.int 0) = X at s1 hF1 e1 ⊢
  have key := down (P := fun i => ∀ Y, Fg [13] [(12, 2)] H Y → fi Y 12 2 = nI i → (∀ j k, j < i → k < 4 → tg (ar Y 13) j k = tg (ar H 26) j k) → Wp scr (d + 1) 97 7 [some (.ref 12), some (.ref 25), some (.int (nI i))] [] Y Q) c ?_ ?_
  · exact key X hF1 e1 (fun j k hj => absurd hj (Nat.not_lt_zero _))
  · intro Y hY eY tY
    have sY := hY.shp
    have cY : fi Y 25 2 = nI c := (hY.int (by decide) (by decide)).trans hc
    rw [w97_7]
    simp (maxDischargeDepth := 12) only [w97_0, w97_1, w97_2, w97_5, w97_6, w97_8, w97_9, w97_12, w97_15, w97_16, w97_17, w97_18, w97_19, w97_22, w97_23, w97_24, w97_25, w97_28, w97_29, w97_30, w97_31, w97_34, w97_35, w97_36, w97_37, w97_40, w97_43, w97_46, w97_49, oK_some, cont_int, cont_intS, cont_none, cont_noneS, cont_long, cont_longS, true_and, and_true, false_and, and_false, true_implies, false_implies, not_true_eq_false, not_false_eq_true, eq_self, or_true, true_or, Option.isSome_some, hpf_length, hpa_length, bI_eq0, fi_hpa, fl_hpa, ar_hpf, fi_hpf_ne, fl_hpf_ne, ar_hpa_ne, hpa_hpa, hpf_hpf, nI_1, two_ne, fokZ, implies_true, Nat.reduceEqDiff, g_4_2, sf_4_2, fe_4_2, g_6_2, sf_6_2, fe_6_2, g_8_2, sf_8_2, fe_8_2, g_10_2, sf_10_2, fe_10_2, g_12_2, sf_12_2, fe_12_2, g_14_2, sf_14_2, fe_14_2, g_17_2, sf_17_2, fe_17_2, g_19_2, sf_19_2, fe_19_2, g_21_2, sf_21_2, fe_21_2, g_23_2, sf_23_2, fe_23_2, g_25_2, sf_25_2, fe_25_2, g_27_2, sf_27_2, fe_27_2, rc_4, rc_6, rc_8, rc_10, rc_12, rc_14, rc_17, rc_19, rc_21, rc_23, rc_25, rc_27, sY, cY, nI_les]
    exact hQ Y hY eY tY
  · intro i hi hw Y hY eY tY
    have sY := hY.shp
    have cY : fi Y 25 2 = nI c := (hY.int (by decide) (by decide)).trans hc
    have hx : (ar Y 26).length < 2147483648 := by rw [gn_26 sY]; decide
    have aB : ar Y 26 = ar H 26 := hY.arr (by decide)
    rw [w97_7]
    simp (maxDischargeDepth := 12) only [w97_0, w97_1, w97_2, w97_5, w97_6, w97_8, w97_9, w97_12, w97_15, w97_16, w97_17, w97_18, w97_19, w97_22, w97_23, w97_24, w97_25, w97_28, w97_29, w97_30, w97_31, w97_34, w97_35, w97_36, w97_37, w97_40, w97_43, w97_46, w97_49, oK_some, cont_int, cont_intS, cont_none, cont_noneS, cont_long, cont_longS, true_and, and_true, false_and, and_false, true_implies, false_implies, not_true_eq_false, not_false_eq_true, eq_self, or_true, true_or, Option.isSome_some, hpf_length, hpa_length, bI_eq0, fi_hpa, fl_hpa, ar_hpf, fi_hpf_ne, fl_hpf_ne, ar_hpa_ne, hpa_hpa, hpf_hpf, nI_1, two_ne, fokZ, implies_true, Nat.reduceEqDiff, g_4_2, sf_4_2, fe_4_2, g_6_2, sf_6_2, fe_6_2, g_8_2, sf_8_2, fe_8_2, g_10_2, sf_10_2, fe_10_2, g_12_2, sf_12_2, fe_12_2, g_14_2, sf_14_2, fe_14_2, g_17_2, sf_17_2, fe_17_2, g_19_2, sf_19_2, fe_19_2, g_21_2, sf_21_2, fe_21_2, g_23_2, sf_23_2, fe_23_2, g_25_2, sf_25_2, fe_25_2, g_27_2, sf_27_2, fe_27_2, rc_4, rc_6, rc_8, rc_10, rc_12, rc_14, rc_17, rc_19, rc_21, rc_23, rc_25, rc_27, sY, cY, nI_lef hi (by omega), c_Table_at (g_25_1 sY) (ga_26 sY) hx, tg_eq (xs := ar Y 26) (i := i) 0 (v := 0) (by omega) (by decide) rfl, tg_eq (xs := ar Y 26) (i := i) 1 (v := 1) (by omega) (by decide) rfl, tg_eq (xs := ar Y 26) (i := i) 2 (v := 2) (by omega) (by decide) rfl, tg_eq (xs := ar Y 26) (i := i) 3 (v := 3) (by omega) (by decide) rfl, c_add12 sY eY (show i < 5 by omega), i1]
    have s2 : Shp (hpa Y 13 (ad4 (ar Y 13) i (tg (ar Y 26) i 0) (tg (ar Y 26) i 1) (tg (ar Y 26) i 2) (tg (ar Y 26) i 3))) := sa_13 sY (by rw [ad4_len, gn_13 sY])
    have hF2 : Fg [13] [(12, 2)] Y (hpf (hpa Y 13 (ad4 (ar Y 13) i (tg (ar Y 26) i 0) (tg (ar Y 26) i 1) (tg (ar Y 26) i 2) (tg (ar Y 26) i 3))) 12 2 (.int (nI (i + 1)))) := (fg_hpa sY (by rw [ad4_len]) (by decide)).trans (fg_hpf (a := 12) (f := 2) (ci := 9) s2 rfl (by decide))
    have a3 : ar (hpf (hpa Y 13 (ad4 (ar Y 13) i (tg (ar Y 26) i 0) (tg (ar Y 26) i 1) (tg (ar Y 26) i 2) (tg (ar Y 26) i 3))) 12 2 (.int (nI (i + 1)))) 13 = ad4 (ar Y 13) i (tg (ar Y 26) i 0) (tg (ar Y 26) i 1) (tg (ar Y 26) i 2) (tg (ar Y 26) i 3) := by rw [ar_hpf]; exact ae_13 sY
    have a4 : fi (hpf (hpa Y 13 (ad4 (ar Y 13) i (tg (ar Y 26) i 0) (tg (ar Y 26) i 1) (tg (ar Y 26) i 2) (tg (ar Y 26) i 3))) 12 2 (.int (nI (i + 1)))) 12 2 = nI (i + 1) := fe_12_2 s2
    have fin := hw _ (hY.trans hF2) a4 (fun j k hj hk => by
      rw [a3]
      rcases Nat.lt_or_ge j i with q | q
      · rw [ad4_old q hk]; exact tY j k q hk
      · have ej : j = i := by omega
        subst ej
        obtain ⟨z0, z1, z2, z3⟩ := ad4_new (xs := ar Y 13) (c := j) (v0 := tg (ar Y 26) j 0) (v1 := tg (ar Y 26) j 1) (v2 := tg (ar Y 26) j 2) (v3 := tg (ar Y 26) j 3) (by rw [gn_13 sY]; omega)
        have ck : k = 0 ∨ k = 1 ∨ k = 2 ∨ k = 3 := by omega
        rcases ck with rfl | rfl | rfl | rfl
        · rw [z0, aB]
        · rw [z1, aB]
        · rw [z2, aB]
        · rw [z3, aB])
    exact fin
theorem C_tcopy14 {c : Nat} (hS : Shp H) (hc : fi H 27 2 = nI c) (h : c ≤ 5) (hQ : ∀ H', Fg [15] [(14, 2)] H H' → fi H' 14 2 = nI c → (∀ i k, i < c → k < 4 → tg (ar H' 15) i k = tg (ar H 28) i k) → Q none H') : Wp scr (d + 1) 97 0 [some (.ref 14), some (.ref 27), none] [] H Q := by
  have i1 : ∀ a : Nat, nI a + 1 = nI (a + 1) := fun a => ixa a 1 (v := 1) rfl
  have s1 := sf_14_2 (v := 0) hS
  have hF1 : Fg [15] [(14, 2)] H (hpf H 14 2 (.int 0)) := (fg_hpf (a := 14) (f := 2) (ci := 9) hS rfl (by decide))
  have e1 : fi (hpf H 14 2 (.int 0)) 14 2 = nI 0 := fe_14_2 hS
  simp (maxDischargeDepth := 12) only [w97_0, w97_1, w97_2, w97_5, w97_6, w97_8, w97_9, w97_12, w97_15, w97_16, w97_17, w97_18, w97_19, w97_22, w97_23, w97_24, w97_25, w97_28, w97_29, w97_30, w97_31, w97_34, w97_35, w97_36, w97_37, w97_40, w97_43, w97_46, w97_49, oK_some, cont_int, cont_intS, cont_none, cont_noneS, cont_long, cont_longS, true_and, and_true, false_and, and_false, true_implies, false_implies, not_true_eq_false, not_false_eq_true, eq_self, or_true, true_or, Option.isSome_some, hpf_length, hpa_length, bI_eq0, fi_hpa, fl_hpa, ar_hpf, fi_hpf_ne, fl_hpf_ne, ar_hpa_ne, hpa_hpa, hpf_hpf, nI_1, two_ne, fokZ, implies_true, Nat.reduceEqDiff, g_4_2, sf_4_2, fe_4_2, g_6_2, sf_6_2, fe_6_2, g_8_2, sf_8_2, fe_8_2, g_10_2, sf_10_2, fe_10_2, g_12_2, sf_12_2, fe_12_2, g_14_2, sf_14_2, fe_14_2, g_17_2, sf_17_2, fe_17_2, g_19_2, sf_19_2, fe_19_2, g_21_2, sf_21_2, fe_21_2, g_23_2, sf_23_2, fe_23_2, g_25_2, sf_25_2, fe_25_2, g_27_2, sf_27_2, fe_27_2, rc_4, rc_6, rc_8, rc_10, rc_12, rc_14, rc_17, rc_19, rc_21, rc_23, rc_25, rc_27, hS, s1]
  generalize hpf H 14 2 (.int 0) = X at s1 hF1 e1 ⊢
  have key := down (P := fun i => ∀ Y, Fg [15] [(14, 2)] H Y → fi Y 14 2 = nI i → (∀ j k, j < i → k < 4 → tg (ar Y 15) j k = tg (ar H 28) j k) → Wp scr (d + 1) 97 7 [some (.ref 14), some (.ref 27), some (.int (nI i))] [] Y Q) c ?_ ?_
  · exact key X hF1 e1 (fun j k hj => absurd hj (Nat.not_lt_zero _))
  · intro Y hY eY tY
    have sY := hY.shp
    have cY : fi Y 27 2 = nI c := (hY.int (by decide) (by decide)).trans hc
    rw [w97_7]
    simp (maxDischargeDepth := 12) only [w97_0, w97_1, w97_2, w97_5, w97_6, w97_8, w97_9, w97_12, w97_15, w97_16, w97_17, w97_18, w97_19, w97_22, w97_23, w97_24, w97_25, w97_28, w97_29, w97_30, w97_31, w97_34, w97_35, w97_36, w97_37, w97_40, w97_43, w97_46, w97_49, oK_some, cont_int, cont_intS, cont_none, cont_noneS, cont_long, cont_longS, true_and, and_true, false_and, and_false, true_implies, false_implies, not_true_eq_false, not_false_eq_true, eq_self, or_true, true_or, Option.isSome_some, hpf_length, hpa_length, bI_eq0, fi_hpa, fl_hpa, ar_hpf, fi_hpf_ne, fl_hpf_ne, ar_hpa_ne, hpa_hpa, hpf_hpf, nI_1, two_ne, fokZ, implies_true, Nat.reduceEqDiff, g_4_2, sf_4_2, fe_4_2, g_6_2, sf_6_2, fe_6_2, g_8_2, sf_8_2, fe_8_2, g_10_2, sf_10_2, fe_10_2, g_12_2, sf_12_2, fe_12_2, g_14_2, sf_14_2, fe_14_2, g_17_2, sf_17_2, fe_17_2, g_19_2, sf_19_2, fe_19_2, g_21_2, sf_21_2, fe_21_2, g_23_2, sf_23_2, fe_23_2, g_25_2, sf_25_2, fe_25_2, g_27_2, sf_27_2, fe_27_2, rc_4, rc_6, rc_8, rc_10, rc_12, rc_14, rc_17, rc_19, rc_21, rc_23, rc_25, rc_27, sY, cY, nI_les]
    exact hQ Y hY eY tY
  · intro i hi hw Y hY eY tY
    have sY := hY.shp
    have cY : fi Y 27 2 = nI c := (hY.int (by decide) (by decide)).trans hc
    have hx : (ar Y 28).length < 2147483648 := by rw [gn_28 sY]; decide
    have aB : ar Y 28 = ar H 28 := hY.arr (by decide)
    rw [w97_7]
    simp (maxDischargeDepth := 12) only [w97_0, w97_1, w97_2, w97_5, w97_6, w97_8, w97_9, w97_12, w97_15, w97_16, w97_17, w97_18, w97_19, w97_22, w97_23, w97_24, w97_25, w97_28, w97_29, w97_30, w97_31, w97_34, w97_35, w97_36, w97_37, w97_40, w97_43, w97_46, w97_49, oK_some, cont_int, cont_intS, cont_none, cont_noneS, cont_long, cont_longS, true_and, and_true, false_and, and_false, true_implies, false_implies, not_true_eq_false, not_false_eq_true, eq_self, or_true, true_or, Option.isSome_some, hpf_length, hpa_length, bI_eq0, fi_hpa, fl_hpa, ar_hpf, fi_hpf_ne, fl_hpf_ne, ar_hpa_ne, hpa_hpa, hpf_hpf, nI_1, two_ne, fokZ, implies_true, Nat.reduceEqDiff, g_4_2, sf_4_2, fe_4_2, g_6_2, sf_6_2, fe_6_2, g_8_2, sf_8_2, fe_8_2, g_10_2, sf_10_2, fe_10_2, g_12_2, sf_12_2, fe_12_2, g_14_2, sf_14_2, fe_14_2, g_17_2, sf_17_2, fe_17_2, g_19_2, sf_19_2, fe_19_2, g_21_2, sf_21_2, fe_21_2, g_23_2, sf_23_2, fe_23_2, g_25_2, sf_25_2, fe_25_2, g_27_2, sf_27_2, fe_27_2, rc_4, rc_6, rc_8, rc_10, rc_12, rc_14, rc_17, rc_19, rc_21, rc_23, rc_25, rc_27, sY, cY, nI_lef hi (by omega), c_Table_at (g_27_1 sY) (ga_28 sY) hx, tg_eq (xs := ar Y 28) (i := i) 0 (v := 0) (by omega) (by decide) rfl, tg_eq (xs := ar Y 28) (i := i) 1 (v := 1) (by omega) (by decide) rfl, tg_eq (xs := ar Y 28) (i := i) 2 (v := 2) (by omega) (by decide) rfl, tg_eq (xs := ar Y 28) (i := i) 3 (v := 3) (by omega) (by decide) rfl, c_add14 sY eY (show i < 5 by omega), i1]
    have s2 : Shp (hpa Y 15 (ad4 (ar Y 15) i (tg (ar Y 28) i 0) (tg (ar Y 28) i 1) (tg (ar Y 28) i 2) (tg (ar Y 28) i 3))) := sa_15 sY (by rw [ad4_len, gn_15 sY])
    have hF2 : Fg [15] [(14, 2)] Y (hpf (hpa Y 15 (ad4 (ar Y 15) i (tg (ar Y 28) i 0) (tg (ar Y 28) i 1) (tg (ar Y 28) i 2) (tg (ar Y 28) i 3))) 14 2 (.int (nI (i + 1)))) := (fg_hpa sY (by rw [ad4_len]) (by decide)).trans (fg_hpf (a := 14) (f := 2) (ci := 9) s2 rfl (by decide))
    have a3 : ar (hpf (hpa Y 15 (ad4 (ar Y 15) i (tg (ar Y 28) i 0) (tg (ar Y 28) i 1) (tg (ar Y 28) i 2) (tg (ar Y 28) i 3))) 14 2 (.int (nI (i + 1)))) 15 = ad4 (ar Y 15) i (tg (ar Y 28) i 0) (tg (ar Y 28) i 1) (tg (ar Y 28) i 2) (tg (ar Y 28) i 3) := by rw [ar_hpf]; exact ae_15 sY
    have a4 : fi (hpf (hpa Y 15 (ad4 (ar Y 15) i (tg (ar Y 28) i 0) (tg (ar Y 28) i 1) (tg (ar Y 28) i 2) (tg (ar Y 28) i 3))) 14 2 (.int (nI (i + 1)))) 14 2 = nI (i + 1) := fe_14_2 s2
    have fin := hw _ (hY.trans hF2) a4 (fun j k hj hk => by
      rw [a3]
      rcases Nat.lt_or_ge j i with q | q
      · rw [ad4_old q hk]; exact tY j k q hk
      · have ej : j = i := by omega
        subst ej
        obtain ⟨z0, z1, z2, z3⟩ := ad4_new (xs := ar Y 15) (c := j) (v0 := tg (ar Y 28) j 0) (v1 := tg (ar Y 28) j 1) (v2 := tg (ar Y 28) j 2) (v3 := tg (ar Y 28) j 3) (by rw [gn_15 sY]; omega)
        have ck : k = 0 ∨ k = 1 ∨ k = 2 ∨ k = 3 := by omega
        rcases ck with rfl | rfl | rfl | rfl
        · rw [z0, aB]
        · rw [z1, aB]
        · rw [z2, aB]
        · rw [z3, aB])
    exact fin
theorem C_scopy (hD : DH H xs n R c2 c3 c4 c5 c6 c7) (hQ : ∀ H', Fg [5, 7, 9, 11, 13, 15] [(3, 0), (3, 1), (4, 2), (6, 2), (8, 2), (10, 2), (12, 2), (14, 2)] H H' → CSl H' R c2 c3 c4 c5 c6 c7 → Q none H') : Wp scr (d + 2) 62 0 [some (.ref 3), some (.ref 16)] [] H Q := by
  obtain ⟨hS, hr, ⟨d2, d3, d4, d5, d6, d7⟩, hT, h9, e0, e1, e6, zz⟩ := hD
  obtain ⟨⟨a2, a3, a4, a5, a6, a7, b2, b3, b4, b5, b6, b7⟩, tR, tS, tW, tG, tU, tN, hM, hV⟩ := hT
  have r1 := sf_3_0 (v := fi H 16 0) hS
  have r2 := sf_3_1 (v := fi H 16 1) r1
  have q1 : fi (hpf H 3 0 (.int (fi H 16 0))) 16 1 = fi H 16 1 := fi_hpf_ne (by decide)
  have hF0 : Fg [] [(3, 0), (3, 1)] H (hpf (hpf H 3 0 (.int (fi H 16 0))) 3 1 (.int (fi H 16 1))) := ((fg_hpf (a := 3) (f := 0) (ci := 6) hS rfl (by decide))).trans (fg_hpf (a := 3) (f := 1) (ci := 6) r1 rfl (by decide))
  have y0 : fi (hpf (hpf H 3 0 (.int (fi H 16 0))) 3 1 (.int (fi H 16 1))) 3 0 = rg R 0 := by rw [fi_hpf_ne (by decide)]; exact (fe_3_0 hS).trans e0
  have y1 : fi (hpf (hpf H 3 0 (.int (fi H 16 0))) 3 1 (.int (fi H 16 1))) 3 1 = rg R 1 := (fe_3_1 r1).trans e1
  simp (maxDischargeDepth := 12) only [w62_0, w62_1, w62_2, w62_5, w62_8, w62_9, w62_10, w62_13, w62_16, w62_17, w62_20, w62_21, w62_24, w62_27, w62_28, w62_31, w62_32, w62_35, w62_38, w62_39, w62_42, w62_43, w62_46, w62_49, w62_50, w62_53, w62_54, w62_57, w62_60, w62_61, w62_64, w62_65, w62_68, w62_71, w62_72, w62_75, w62_76, w62_79, w62_82, oK_some, cont_int, cont_intS, cont_none, cont_noneS, cont_long, cont_longS, true_and, and_true, false_and, and_false, true_implies, false_implies, not_true_eq_false, not_false_eq_true, eq_self, or_true, true_or, Option.isSome_some, hpf_length, hpa_length, bI_eq0, fi_hpa, fl_hpa, ar_hpf, fi_hpf_ne, fl_hpf_ne, ar_hpa_ne, hpa_hpa, hpf_hpf, nI_1, two_ne, fokZ, implies_true, Nat.reduceEqDiff, g_3_0, sf_3_0, fe_3_0, g_16_0, sf_16_0, fe_16_0, g_3_1, sf_3_1, fe_3_1, g_16_1, sf_16_1, fe_16_1, g_3_2, rc_4, g_16_2, rc_17, rc_6, rc_8, rc_10, rc_12, rc_14, rc_19, rc_21, rc_23, rc_25, rc_27, g_3_3, g_16_3, g_3_4, g_16_4, g_3_5, g_16_5, g_3_6, g_16_6, g_3_7, g_16_7, hS, r1, r2, q1]
  generalize hpf (hpf H 3 0 (.int (fi H 16 0))) 3 1 (.int (fi H 16 1)) = H0 at r2 hF0 y0 y1 ⊢
  have s0 := r2
  have g0 : Fg [5, 7, 9, 11, 13, 15] [(3, 0), (3, 1), (4, 2), (6, 2), (8, 2), (10, 2), (12, 2), (14, 2)] H H0 := hF0.mono (by decide) (by decide)
  have z0 : fi H0 17 2 = nI c2 := (g0.int (by decide) (by decide)).trans d2
  refine C_tcopy4 (d := d) s0 z0 b2 (fun H1 hF1 f1 t1 => ?_)
  have s1 := hF1.shp
  have g1 := g0.trans (hF1.mono (T := [5, 7, 9, 11, 13, 15]) (G := [(3, 0), (3, 1), (4, 2), (6, 2), (8, 2), (10, 2), (12, 2), (14, 2)]) (by decide) (by decide))
  simp (maxDischargeDepth := 12) only [w62_0, w62_1, w62_2, w62_5, w62_8, w62_9, w62_10, w62_13, w62_16, w62_17, w62_20, w62_21, w62_24, w62_27, w62_28, w62_31, w62_32, w62_35, w62_38, w62_39, w62_42, w62_43, w62_46, w62_49, w62_50, w62_53, w62_54, w62_57, w62_60, w62_61, w62_64, w62_65, w62_68, w62_71, w62_72, w62_75, w62_76, w62_79, w62_82, oK_some, cont_int, cont_intS, cont_none, cont_noneS, cont_long, cont_longS, true_and, and_true, false_and, and_false, true_implies, false_implies, not_true_eq_false, not_false_eq_true, eq_self, or_true, true_or, Option.isSome_some, hpf_length, hpa_length, bI_eq0, fi_hpa, fl_hpa, ar_hpf, fi_hpf_ne, fl_hpf_ne, ar_hpa_ne, hpa_hpa, hpf_hpf, nI_1, two_ne, fokZ, implies_true, Nat.reduceEqDiff, g_3_0, sf_3_0, fe_3_0, g_16_0, sf_16_0, fe_16_0, g_3_1, sf_3_1, fe_3_1, g_16_1, sf_16_1, fe_16_1, g_3_2, rc_4, g_16_2, rc_17, rc_6, rc_8, rc_10, rc_12, rc_14, rc_19, rc_21, rc_23, rc_25, rc_27, g_3_3, g_16_3, g_3_4, g_16_4, g_3_5, g_16_5, g_3_6, g_16_6, g_3_7, g_16_7, hF1.len, s1]
  have z1 : fi H1 19 2 = nI c3 := (g1.int (by decide) (by decide)).trans d3
  refine C_tcopy6 (d := d) s1 z1 b3 (fun H2 hF2 f2 t2 => ?_)
  have s2 := hF2.shp
  have g2 := g1.trans (hF2.mono (T := [5, 7, 9, 11, 13, 15]) (G := [(3, 0), (3, 1), (4, 2), (6, 2), (8, 2), (10, 2), (12, 2), (14, 2)]) (by decide) (by decide))
  simp (maxDischargeDepth := 12) only [w62_0, w62_1, w62_2, w62_5, w62_8, w62_9, w62_10, w62_13, w62_16, w62_17, w62_20, w62_21, w62_24, w62_27, w62_28, w62_31, w62_32, w62_35, w62_38, w62_39, w62_42, w62_43, w62_46, w62_49, w62_50, w62_53, w62_54, w62_57, w62_60, w62_61, w62_64, w62_65, w62_68, w62_71, w62_72, w62_75, w62_76, w62_79, w62_82, oK_some, cont_int, cont_intS, cont_none, cont_noneS, cont_long, cont_longS, true_and, and_true, false_and, and_false, true_implies, false_implies, not_true_eq_false, not_false_eq_true, eq_self, or_true, true_or, Option.isSome_some, hpf_length, hpa_length, bI_eq0, fi_hpa, fl_hpa, ar_hpf, fi_hpf_ne, fl_hpf_ne, ar_hpa_ne, hpa_hpa, hpf_hpf, nI_1, two_ne, fokZ, implies_true, Nat.reduceEqDiff, g_3_0, sf_3_0, fe_3_0, g_16_0, sf_16_0, fe_16_0, g_3_1, sf_3_1, fe_3_1, g_16_1, sf_16_1, fe_16_1, g_3_2, rc_4, g_16_2, rc_17, rc_6, rc_8, rc_10, rc_12, rc_14, rc_19, rc_21, rc_23, rc_25, rc_27, g_3_3, g_16_3, g_3_4, g_16_4, g_3_5, g_16_5, g_3_6, g_16_6, g_3_7, g_16_7, hF2.len, s2]
  have z2 : fi H2 21 2 = nI c4 := (g2.int (by decide) (by decide)).trans d4
  refine C_tcopy8 (d := d) s2 z2 b4 (fun H3 hF3 f3 t3 => ?_)
  have s3 := hF3.shp
  have g3 := g2.trans (hF3.mono (T := [5, 7, 9, 11, 13, 15]) (G := [(3, 0), (3, 1), (4, 2), (6, 2), (8, 2), (10, 2), (12, 2), (14, 2)]) (by decide) (by decide))
  simp (maxDischargeDepth := 12) only [w62_0, w62_1, w62_2, w62_5, w62_8, w62_9, w62_10, w62_13, w62_16, w62_17, w62_20, w62_21, w62_24, w62_27, w62_28, w62_31, w62_32, w62_35, w62_38, w62_39, w62_42, w62_43, w62_46, w62_49, w62_50, w62_53, w62_54, w62_57, w62_60, w62_61, w62_64, w62_65, w62_68, w62_71, w62_72, w62_75, w62_76, w62_79, w62_82, oK_some, cont_int, cont_intS, cont_none, cont_noneS, cont_long, cont_longS, true_and, and_true, false_and, and_false, true_implies, false_implies, not_true_eq_false, not_false_eq_true, eq_self, or_true, true_or, Option.isSome_some, hpf_length, hpa_length, bI_eq0, fi_hpa, fl_hpa, ar_hpf, fi_hpf_ne, fl_hpf_ne, ar_hpa_ne, hpa_hpa, hpf_hpf, nI_1, two_ne, fokZ, implies_true, Nat.reduceEqDiff, g_3_0, sf_3_0, fe_3_0, g_16_0, sf_16_0, fe_16_0, g_3_1, sf_3_1, fe_3_1, g_16_1, sf_16_1, fe_16_1, g_3_2, rc_4, g_16_2, rc_17, rc_6, rc_8, rc_10, rc_12, rc_14, rc_19, rc_21, rc_23, rc_25, rc_27, g_3_3, g_16_3, g_3_4, g_16_4, g_3_5, g_16_5, g_3_6, g_16_6, g_3_7, g_16_7, hF3.len, s3]
  have z3 : fi H3 23 2 = nI c5 := (g3.int (by decide) (by decide)).trans d5
  refine C_tcopy10 (d := d) s3 z3 b5 (fun H4 hF4 f4 t4 => ?_)
  have s4 := hF4.shp
  have g4 := g3.trans (hF4.mono (T := [5, 7, 9, 11, 13, 15]) (G := [(3, 0), (3, 1), (4, 2), (6, 2), (8, 2), (10, 2), (12, 2), (14, 2)]) (by decide) (by decide))
  simp (maxDischargeDepth := 12) only [w62_0, w62_1, w62_2, w62_5, w62_8, w62_9, w62_10, w62_13, w62_16, w62_17, w62_20, w62_21, w62_24, w62_27, w62_28, w62_31, w62_32, w62_35, w62_38, w62_39, w62_42, w62_43, w62_46, w62_49, w62_50, w62_53, w62_54, w62_57, w62_60, w62_61, w62_64, w62_65, w62_68, w62_71, w62_72, w62_75, w62_76, w62_79, w62_82, oK_some, cont_int, cont_intS, cont_none, cont_noneS, cont_long, cont_longS, true_and, and_true, false_and, and_false, true_implies, false_implies, not_true_eq_false, not_false_eq_true, eq_self, or_true, true_or, Option.isSome_some, hpf_length, hpa_length, bI_eq0, fi_hpa, fl_hpa, ar_hpf, fi_hpf_ne, fl_hpf_ne, ar_hpa_ne, hpa_hpa, hpf_hpf, nI_1, two_ne, fokZ, implies_true, Nat.reduceEqDiff, g_3_0, sf_3_0, fe_3_0, g_16_0, sf_16_0, fe_16_0, g_3_1, sf_3_1, fe_3_1, g_16_1, sf_16_1, fe_16_1, g_3_2, rc_4, g_16_2, rc_17, rc_6, rc_8, rc_10, rc_12, rc_14, rc_19, rc_21, rc_23, rc_25, rc_27, g_3_3, g_16_3, g_3_4, g_16_4, g_3_5, g_16_5, g_3_6, g_16_6, g_3_7, g_16_7, hF4.len, s4]
  have z4 : fi H4 25 2 = nI c6 := (g4.int (by decide) (by decide)).trans d6
  refine C_tcopy12 (d := d) s4 z4 b6 (fun H5 hF5 f5 t5 => ?_)
  have s5 := hF5.shp
  have g5 := g4.trans (hF5.mono (T := [5, 7, 9, 11, 13, 15]) (G := [(3, 0), (3, 1), (4, 2), (6, 2), (8, 2), (10, 2), (12, 2), (14, 2)]) (by decide) (by decide))
  simp (maxDischargeDepth := 12) only [w62_0, w62_1, w62_2, w62_5, w62_8, w62_9, w62_10, w62_13, w62_16, w62_17, w62_20, w62_21, w62_24, w62_27, w62_28, w62_31, w62_32, w62_35, w62_38, w62_39, w62_42, w62_43, w62_46, w62_49, w62_50, w62_53, w62_54, w62_57, w62_60, w62_61, w62_64, w62_65, w62_68, w62_71, w62_72, w62_75, w62_76, w62_79, w62_82, oK_some, cont_int, cont_intS, cont_none, cont_noneS, cont_long, cont_longS, true_and, and_true, false_and, and_false, true_implies, false_implies, not_true_eq_false, not_false_eq_true, eq_self, or_true, true_or, Option.isSome_some, hpf_length, hpa_length, bI_eq0, fi_hpa, fl_hpa, ar_hpf, fi_hpf_ne, fl_hpf_ne, ar_hpa_ne, hpa_hpa, hpf_hpf, nI_1, two_ne, fokZ, implies_true, Nat.reduceEqDiff, g_3_0, sf_3_0, fe_3_0, g_16_0, sf_16_0, fe_16_0, g_3_1, sf_3_1, fe_3_1, g_16_1, sf_16_1, fe_16_1, g_3_2, rc_4, g_16_2, rc_17, rc_6, rc_8, rc_10, rc_12, rc_14, rc_19, rc_21, rc_23, rc_25, rc_27, g_3_3, g_16_3, g_3_4, g_16_4, g_3_5, g_16_5, g_3_6, g_16_6, g_3_7, g_16_7, hF5.len, s5]
  have z5 : fi H5 27 2 = nI c7 := (g5.int (by decide) (by decide)).trans d7
  refine C_tcopy14 (d := d) s5 z5 b7 (fun H6 hF6 f6 t6 => ?_)
  have s6 := hF6.shp
  have g6 := g5.trans (hF6.mono (T := [5, 7, 9, 11, 13, 15]) (G := [(3, 0), (3, 1), (4, 2), (6, 2), (8, 2), (10, 2), (12, 2), (14, 2)]) (by decide) (by decide))
  simp (maxDischargeDepth := 12) only [w62_0, w62_1, w62_2, w62_5, w62_8, w62_9, w62_10, w62_13, w62_16, w62_17, w62_20, w62_21, w62_24, w62_27, w62_28, w62_31, w62_32, w62_35, w62_38, w62_39, w62_42, w62_43, w62_46, w62_49, w62_50, w62_53, w62_54, w62_57, w62_60, w62_61, w62_64, w62_65, w62_68, w62_71, w62_72, w62_75, w62_76, w62_79, w62_82, oK_some, cont_int, cont_intS, cont_none, cont_noneS, cont_long, cont_longS, true_and, and_true, false_and, and_false, true_implies, false_implies, not_true_eq_false, not_false_eq_true, eq_self, or_true, true_or, Option.isSome_some, hpf_length, hpa_length, bI_eq0, fi_hpa, fl_hpa, ar_hpf, fi_hpf_ne, fl_hpf_ne, ar_hpa_ne, hpa_hpa, hpf_hpf, nI_1, two_ne, fokZ, implies_true, Nat.reduceEqDiff, g_3_0, sf_3_0, fe_3_0, g_16_0, sf_16_0, fe_16_0, g_3_1, sf_3_1, fe_3_1, g_16_1, sf_16_1, fe_16_1, g_3_2, rc_4, g_16_2, rc_17, rc_6, rc_8, rc_10, rc_12, rc_14, rc_19, rc_21, rc_23, rc_25, rc_27, g_3_3, g_16_3, g_3_4, g_16_4, g_3_5, g_16_5, g_3_6, g_16_6, g_3_7, g_16_7, hF6.len, s6]
  refine hQ H6 g6 ⟨s6, ⟨?_, ?_, ?_, ?_, ?_, ?_, b2, b3, b4, b5, b6, b7⟩, ?_, ?_, ?_, ?_, ?_, ?_, ?_, ?_⟩
  · rw [hF6.int (by decide) (by decide), hF5.int (by decide) (by decide), hF4.int (by decide) (by decide), hF3.int (by decide) (by decide), hF2.int (by decide) (by decide)]; exact f1
  · rw [hF6.int (by decide) (by decide), hF5.int (by decide) (by decide), hF4.int (by decide) (by decide), hF3.int (by decide) (by decide)]; exact f2
  · rw [hF6.int (by decide) (by decide), hF5.int (by decide) (by decide), hF4.int (by decide) (by decide)]; exact f3
  · rw [hF6.int (by decide) (by decide), hF5.int (by decide) (by decide)]; exact f4
  · rw [hF6.int (by decide) (by decide)]; exact f5
  · exact f6
  · exact tbR_cg tR b2 (fun _ _ _ => rfl) (fun x y hx hy => by rw [hF6.arr (a := 5) (by decide), hF5.arr (a := 5) (by decide), hF4.arr (a := 5) (by decide), hF3.arr (a := 5) (by decide), hF2.arr (a := 5) (by decide)]; rw [t1 x y hx hy, g0.arr (by decide)])
  · exact tbS_cg tS b2 (fun _ _ _ => rfl) (fun x y hx hy => by rw [hF6.arr (a := 7) (by decide), hF5.arr (a := 7) (by decide), hF4.arr (a := 7) (by decide), hF3.arr (a := 7) (by decide)]; rw [t2 x y hx hy, g1.arr (by decide)])
  · exact tbW_cg tW b4 (fun _ _ _ => rfl) (fun x y hx hy => by rw [hF6.arr (a := 7) (by decide), hF5.arr (a := 7) (by decide), hF4.arr (a := 7) (by decide), hF3.arr (a := 7) (by decide)]; rw [t2 x y hx hy, g1.arr (by decide)]) (fun x y hx hy => by rw [hF6.arr (a := 9) (by decide), hF5.arr (a := 9) (by decide), hF4.arr (a := 9) (by decide)]; rw [t3 x y hx hy, g2.arr (by decide)])
  · exact tbG_cg tG b5 (fun _ _ _ => rfl) (fun x y hx hy => by rw [hF6.arr (a := 11) (by decide), hF5.arr (a := 11) (by decide)]; rw [t4 x y hx hy, g3.arr (by decide)])
  · exact tbU_cg tU b6 (fun _ _ _ => rfl) (fun x y hx hy => by rw [hF6.arr (a := 13) (by decide)]; rw [t5 x y hx hy, g4.arr (by decide)])
  · exact tbN_cg tN b7 (fun _ _ _ => rfl) (fun x y hx hy => by rw [t6 x y hx hy, g5.arr (by decide)])
  · rw [hF6.int (by decide) (by decide), hF5.int (by decide) (by decide), hF4.int (by decide) (by decide), hF3.int (by decide) (by decide), hF2.int (by decide) (by decide), hF1.int (by decide) (by decide)]; exact y0
  · rw [hF6.int (by decide) (by decide), hF5.int (by decide) (by decide), hF4.int (by decide) (by decide), hF3.int (by decide) (by decide), hF2.int (by decide) (by decide), hF1.int (by decide) (by decide)]; exact y1
theorem C_sclear62 (hS : Shp H) (hQ : ∀ H', Fg [] [(62, 2), (62, 3)] H H' → fi H' 62 2 = 0 → fi H' 62 3 = 0 → Q none H') : Wp scr d 56 0 [some (.ref 62)] [] H Q := by
  have r1 := sf_62_2 (v := 0) hS
  have hF : Fg [] [(62, 2), (62, 3)] H (hpf (hpf H 62 2 (.int 0)) 62 3 (.int 0)) := ((fg_hpf (a := 62) (f := 2) (ci := 5) hS rfl (by decide))).trans (fg_hpf (a := 62) (f := 3) (ci := 5) r1 rfl (by decide))
  simp (maxDischargeDepth := 12) only [w56_0, w56_1, w56_2, w56_5, w56_6, w56_7, w56_10, oK_some, cont_int, cont_intS, cont_none, cont_noneS, cont_long, cont_longS, true_and, and_true, false_and, and_false, true_implies, false_implies, not_true_eq_false, not_false_eq_true, eq_self, or_true, true_or, Option.isSome_some, hpf_length, hpa_length, bI_eq0, fi_hpa, fl_hpa, ar_hpf, fi_hpf_ne, fl_hpf_ne, ar_hpa_ne, hpa_hpa, hpf_hpf, nI_1, two_ne, fokZ, implies_true, Nat.reduceEqDiff, g_62_2, sf_62_2, fe_62_2, g_65_2, sf_65_2, fe_65_2, g_62_3, sf_62_3, fe_62_3, g_65_3, sf_65_3, fe_65_3, hS, r1]
  exact hQ _ hF (by rw [fi_hpf_ne (by decide)]; exact fe_62_2 hS) (fe_62_3 r1)
theorem C_sclear65 (hS : Shp H) (hQ : ∀ H', Fg [] [(65, 2), (65, 3)] H H' → fi H' 65 2 = 0 → fi H' 65 3 = 0 → Q none H') : Wp scr d 56 0 [some (.ref 65)] [] H Q := by
  have r1 := sf_65_2 (v := 0) hS
  have hF : Fg [] [(65, 2), (65, 3)] H (hpf (hpf H 65 2 (.int 0)) 65 3 (.int 0)) := ((fg_hpf (a := 65) (f := 2) (ci := 5) hS rfl (by decide))).trans (fg_hpf (a := 65) (f := 3) (ci := 5) r1 rfl (by decide))
  simp (maxDischargeDepth := 12) only [w56_0, w56_1, w56_2, w56_5, w56_6, w56_7, w56_10, oK_some, cont_int, cont_intS, cont_none, cont_noneS, cont_long, cont_longS, true_and, and_true, false_and, and_false, true_implies, false_implies, not_true_eq_false, not_false_eq_true, eq_self, or_true, true_or, Option.isSome_some, hpf_length, hpa_length, bI_eq0, fi_hpa, fl_hpa, ar_hpf, fi_hpf_ne, fl_hpf_ne, ar_hpa_ne, hpa_hpa, hpf_hpf, nI_1, two_ne, fokZ, implies_true, Nat.reduceEqDiff, g_62_2, sf_62_2, fe_62_2, g_65_2, sf_65_2, fe_65_2, g_62_3, sf_62_3, fe_62_3, g_65_3, sf_65_3, fe_65_3, hS, r1]
  exact hQ _ hF (by rw [fi_hpf_ne (by decide)]; exact fe_65_2 hS) (fe_65_3 r1)
theorem DH.o0 {H' : List AC} (h : DH H xs n R c2 c3 c4 c5 c6 c7) (hF : Fg [] [(0, 1), (0, 13), (0, 14), (0, 15)] H H') : DH H' xs n R c2 c3 c4 c5 c6 c7 := by
  obtain ⟨hS, hr, ⟨d2, d3, d4, d5, d6, d7⟩, hT, h9, e0, e1, e6, z⟩ := h
  refine ⟨hF.shp, hr.og hF (by decide) (by decide), ⟨?_, ?_, ?_, ?_, ?_, ?_⟩, ?_, h9, ?_, ?_, ?_, z⟩
  · rw [hF.int (by decide) (by decide)]; exact d2
  · rw [hF.int (by decide) (by decide)]; exact d3
  · rw [hF.int (by decide) (by decide)]; exact d4
  · rw [hF.int (by decide) (by decide)]; exact d5
  · rw [hF.int (by decide) (by decide)]; exact d6
  · rw [hF.int (by decide) (by decide)]; exact d7
  · rw [hF.arr (by decide), hF.arr (by decide), hF.arr (by decide), hF.arr (by decide), hF.arr (by decide), hF.arr (by decide)]; exact hT
  · rw [hF.int (by decide) (by decide)]; exact e0
  · rw [hF.int (by decide) (by decide)]; exact e1
  · rw [hF.int (by decide) (by decide)]; exact e6
theorem pAll_pos {R0 R' : List Int32} (h : pAll xs n R0 = .ok R') : ¬ rg R' 2 = 0 := by
  obtain ⟨q, _, h⟩ := eb_inv h
  split at h
  · split at h
    · exact absurd h (by simp)
    · rename_i hz
      injection h with h
      rw [← h]
      exact fun z => hz (Or.inr z)
  · exact absurd h (by simp)
abbrev FgX (H H' : List AC) : Prop := Fg [18, 20, 22, 24, 26, 28] [(0, 1), (0, 13), (0, 14), (0, 15), (29, 2), (29, 3), (29, 4), (29, 5), (29, 6), (29, 7), (29, 8), (16, 0), (16, 1), (17, 2), (19, 2), (21, 2), (23, 2), (25, 2), (27, 2)] H H'
abbrev FgY (H H' : List AC) : Prop := Fg [5, 7, 9, 11, 13, 15, 18, 20, 22, 24, 26, 28, 30, 32] [(0, 1), (0, 13), (0, 14), (0, 15), (29, 2), (29, 3), (29, 4), (29, 5), (29, 6), (29, 7), (29, 8), (16, 0), (16, 1), (17, 2), (19, 2), (21, 2), (23, 2), (25, 2), (27, 2), (3, 0), (3, 1), (4, 2), (6, 2), (8, 2), (10, 2), (12, 2), (14, 2), (62, 2), (62, 3), (65, 2), (65, 3)] H H'
theorem C_slope (hS : Shp H) (ht : fi H 0 1 = nI tp) (h9 : tp ≤ 900) (hx : ar H 2 = xs) (hR : Rm H) (hbad : ¬ (0 ≤ m ∧ m ≤ nI tp) → ∀ H', Fg [] [(0, 13)] H H' → fi H' 0 13 = 2 → Q (some (.int (-1))) H') (her : ∀ n, n ≤ tp → m = nI n → ∀ c p, pAll xs n Z211 = .error (c, p) → ∀ H', FgX H H' → fi H' 0 1 = 0 → fi H' 0 13 = 4 → fi H' 0 14 = c → fi H' 0 15 = nI p → Q (some (.int (-1))) H') (hok : ∀ n, n ≤ tp → m = nI n → ∀ R' c2 c3 c4 c5 c6 c7, pAll xs n Z211 = .ok R' → ∀ H', FgY H H' → fi H' 0 1 = 0 → fi H' 0 13 = 0 → fi H' 0 14 = 0 → CSl H' R' c2 c3 c4 c5 c6 c7 → Mn R' c2 c3 c4 c5 c6 c7 → DV R' c2 → 0 < c2 → Sn H' 30 32 (stN R' c2) c2 → fi H' 62 2 = 0 → fi H' 62 3 = 0 → fi H' 65 2 = 0 → fi H' 65 3 = 0 → Q (some (.int (nI c2))) H') : Wp scr (d + 10) 121 0 [some (.ref 0), some (.int m)] [] H Q := by
  by_cases hb : 0 ≤ m ∧ m ≤ nI tp
  · have c1 : (m < 0) = False := eq_false (by rw [Int32.not_lt]; exact hb.1)
    have c2 : (m ≤ nI tp) = True := eq_true hb.2
    obtain ⟨n, hn, rfl⟩ := exI hb.1 hb.2 (by omega)
    have hok := hok n hn rfl
    have her := her n hn rfl
    simp (maxDischargeDepth := 12) only [w121_0, w121_1, w121_4, w121_5, w121_6, w121_9, w121_12, w121_13, w121_14, w121_17, w121_18, w121_19, w121_20, w121_21, w121_24, w121_25, w121_28, w121_31, w121_32, w121_33, w121_36, w121_39, w121_42, w121_43, w121_44, w121_47, w121_48, w121_51, w121_54, w121_55, w121_56, w121_59, w121_60, w121_61, w121_62, w121_63, w121_66, w121_67, w121_70, w121_71, w121_74, w121_77, w121_78, w121_81, w121_82, w121_85, w121_88, w121_89, w121_92, w121_95, w121_96, w121_99, w121_102, w121_103, w121_106, w121_109, w121_112, oK_some, cont_int, cont_intS, cont_none, cont_noneS, cont_long, cont_longS, true_and, and_true, false_and, and_false, true_implies, false_implies, not_true_eq_false, not_false_eq_true, eq_self, or_true, true_or, Option.isSome_some, hpf_length, hpa_length, bI_eq0, fi_hpa, fl_hpa, ar_hpf, fi_hpf_ne, fl_hpf_ne, ar_hpa_ne, hpa_hpa, hpf_hpf, nI_1, two_ne, fokZ, implies_true, Nat.reduceEqDiff, g_0_1, sf_0_1, fe_0_1, g_0_13, sf_0_13, fe_0_13, g_0_4, rc_29, g_0_14, sf_0_14, fe_0_14, g_0_15, sf_0_15, fe_0_15, g_0_2, rc_3, g_0_3, rc_16, g_0_5, rc_30, rc_34, rc_45, g_0_11, rc_62, rc_65, g_0_12, g_3_2, rc_4, g_16_2, rc_17, rc_6, rc_8, rc_10, rc_12, rc_14, rc_19, rc_21, rc_23, rc_25, rc_27, hS, ht, c1, c2]
    refine C_read (d := d) hS (by omega) hR hx (fun R' e H1 hF1 hX1 => ?_) (fun c p e H1 hF1 hE1 => ?_)
    · have s1 := hF1.shp
      obtain ⟨k2, k3, k4, k5, k6, k7, hD1⟩ := hX1
      have m2 := hD1.mn.1
      have b2 : k2 ≤ 7 := hD1.mn.2.2.2.2.2.2.1
      have kpos : 0 < k2 := by
        have := pAll_pos e
        rw [m2] at this
        rcases Nat.eq_zero_or_pos k2 with q | q
        · rw [q] at this; exact absurd rfl this
        · exact q
      have r1 := sf_0_14 (v := 0) s1
      have r2 := sf_0_15 (v := fi H1 29 8) r1
      have r3 := sf_0_1 (v := 0) r2
      have r4 := sf_0_13 (v := 0) r3
      have hG : Fg [] [(0, 1), (0, 13), (0, 14), (0, 15)] H1 (hpf (hpf (hpf (hpf H1 0 14 (.int 0)) 0 15 (.int (fi H1 29 8))) 0 1 (.int 0)) 0 13 (.int 0)) := ((((fg_hpf (a := 0) (f := 14) (ci := 11) s1 rfl (by decide))).trans (fg_hpf (a := 0) (f := 15) (ci := 11) r1 rfl (by decide))).trans (fg_hpf (a := 0) (f := 1) (ci := 11) r2 rfl (by decide))).trans (fg_hpf (a := 0) (f := 13) (ci := 11) r3 rfl (by decide))
      have y14 : fi (hpf (hpf (hpf (hpf H1 0 14 (.int 0)) 0 15 (.int (fi H1 29 8))) 0 1 (.int 0)) 0 13 (.int 0)) 0 14 = 0 := by rw [fi_hpf_ne (by decide), fi_hpf_ne (by decide), fi_hpf_ne (by decide)]; exact fe_0_14 s1
      have y1 : fi (hpf (hpf (hpf (hpf H1 0 14 (.int 0)) 0 15 (.int (fi H1 29 8))) 0 1 (.int 0)) 0 13 (.int 0)) 0 1 = 0 := by rw [fi_hpf_ne (by decide)]; exact fe_0_1 r2
      have y13 : fi (hpf (hpf (hpf (hpf H1 0 14 (.int 0)) 0 15 (.int (fi H1 29 8))) 0 1 (.int 0)) 0 13 (.int 0)) 0 13 = 0 := fe_0_13 r3
      simp (maxDischargeDepth := 12) only [w121_0, w121_1, w121_4, w121_5, w121_6, w121_9, w121_12, w121_13, w121_14, w121_17, w121_18, w121_19, w121_20, w121_21, w121_24, w121_25, w121_28, w121_31, w121_32, w121_33, w121_36, w121_39, w121_42, w121_43, w121_44, w121_47, w121_48, w121_51, w121_54, w121_55, w121_56, w121_59, w121_60, w121_61, w121_62, w121_63, w121_66, w121_67, w121_70, w121_71, w121_74, w121_77, w121_78, w121_81, w121_82, w121_85, w121_88, w121_89, w121_92, w121_95, w121_96, w121_99, w121_102, w121_103, w121_106, w121_109, w121_112, oK_some, cont_int, cont_intS, cont_none, cont_noneS, cont_long, cont_longS, true_and, and_true, false_and, and_false, true_implies, false_implies, not_true_eq_false, not_false_eq_true, eq_self, or_true, true_or, Option.isSome_some, hpf_length, hpa_length, bI_eq0, fi_hpa, fl_hpa, ar_hpf, fi_hpf_ne, fl_hpf_ne, ar_hpa_ne, hpa_hpa, hpf_hpf, nI_1, two_ne, fokZ, implies_true, Nat.reduceEqDiff, g_0_1, sf_0_1, fe_0_1, g_0_13, sf_0_13, fe_0_13, g_0_4, rc_29, g_0_14, sf_0_14, fe_0_14, g_0_15, sf_0_15, fe_0_15, g_0_2, rc_3, g_0_3, rc_16, g_0_5, rc_30, rc_34, rc_45, g_0_11, rc_62, rc_65, g_0_12, g_3_2, rc_4, g_16_2, rc_17, rc_6, rc_8, rc_10, rc_12, rc_14, rc_19, rc_21, rc_23, rc_25, rc_27, w29_0, w29_1, w29_4, hF1.len, s1, g_29_8, r1, r2, r3, r4, fi_hpf_ne (show ¬ ((0 : Nat) = 29 ∧ (14 : Nat) = 8) by decide)]
      generalize hpf (hpf (hpf (hpf H1 0 14 (.int 0)) 0 15 (.int (fi H1 29 8))) 0 1 (.int 0)) 0 13 (.int 0) = X at r4 hG y14 y1 y13 ⊢
      have hDX := hD1.o0 hG
      refine C_scopy (d := d + 7) hDX (fun H2 hF2 hC2 => ?_)
      have s2 := hF2.shp
      simp (maxDischargeDepth := 12) only [w121_0, w121_1, w121_4, w121_5, w121_6, w121_9, w121_12, w121_13, w121_14, w121_17, w121_18, w121_19, w121_20, w121_21, w121_24, w121_25, w121_28, w121_31, w121_32, w121_33, w121_36, w121_39, w121_42, w121_43, w121_44, w121_47, w121_48, w121_51, w121_54, w121_55, w121_56, w121_59, w121_60, w121_61, w121_62, w121_63, w121_66, w121_67, w121_70, w121_71, w121_74, w121_77, w121_78, w121_81, w121_82, w121_85, w121_88, w121_89, w121_92, w121_95, w121_96, w121_99, w121_102, w121_103, w121_106, w121_109, w121_112, oK_some, cont_int, cont_intS, cont_none, cont_noneS, cont_long, cont_longS, true_and, and_true, false_and, and_false, true_implies, false_implies, not_true_eq_false, not_false_eq_true, eq_self, or_true, true_or, Option.isSome_some, hpf_length, hpa_length, bI_eq0, fi_hpa, fl_hpa, ar_hpf, fi_hpf_ne, fl_hpf_ne, ar_hpa_ne, hpa_hpa, hpf_hpf, nI_1, two_ne, fokZ, implies_true, Nat.reduceEqDiff, g_0_1, sf_0_1, fe_0_1, g_0_13, sf_0_13, fe_0_13, g_0_4, rc_29, g_0_14, sf_0_14, fe_0_14, g_0_15, sf_0_15, fe_0_15, g_0_2, rc_3, g_0_3, rc_16, g_0_5, rc_30, rc_34, rc_45, g_0_11, rc_62, rc_65, g_0_12, g_3_2, rc_4, g_16_2, rc_17, rc_6, rc_8, rc_10, rc_12, rc_14, rc_19, rc_21, rc_23, rc_25, rc_27, hF2.len, s2]
      refine c_begin30 (d := d + 8) hC2 (fun H3 hF3 a3 g1 g2 g3 => ?_)
      have s3 := hF3.shp
      simp (maxDischargeDepth := 12) only [w121_0, w121_1, w121_4, w121_5, w121_6, w121_9, w121_12, w121_13, w121_14, w121_17, w121_18, w121_19, w121_20, w121_21, w121_24, w121_25, w121_28, w121_31, w121_32, w121_33, w121_36, w121_39, w121_42, w121_43, w121_44, w121_47, w121_48, w121_51, w121_54, w121_55, w121_56, w121_59, w121_60, w121_61, w121_62, w121_63, w121_66, w121_67, w121_70, w121_71, w121_74, w121_77, w121_78, w121_81, w121_82, w121_85, w121_88, w121_89, w121_92, w121_95, w121_96, w121_99, w121_102, w121_103, w121_106, w121_109, w121_112, oK_some, cont_int, cont_intS, cont_none, cont_noneS, cont_long, cont_longS, true_and, and_true, false_and, and_false, true_implies, false_implies, not_true_eq_false, not_false_eq_true, eq_self, or_true, true_or, Option.isSome_some, hpf_length, hpa_length, bI_eq0, fi_hpa, fl_hpa, ar_hpf, fi_hpf_ne, fl_hpf_ne, ar_hpa_ne, hpa_hpa, hpf_hpf, nI_1, two_ne, fokZ, implies_true, Nat.reduceEqDiff, g_0_1, sf_0_1, fe_0_1, g_0_13, sf_0_13, fe_0_13, g_0_4, rc_29, g_0_14, sf_0_14, fe_0_14, g_0_15, sf_0_15, fe_0_15, g_0_2, rc_3, g_0_3, rc_16, g_0_5, rc_30, rc_34, rc_45, g_0_11, rc_62, rc_65, g_0_12, g_3_2, rc_4, g_16_2, rc_17, rc_6, rc_8, rc_10, rc_12, rc_14, rc_19, rc_21, rc_23, rc_25, rc_27, hF3.len, s3]
      refine C_sclear62 s3 (fun H4 hF4 p2 p3 => ?_)
      have s4 := hF4.shp
      simp (maxDischargeDepth := 12) only [w121_0, w121_1, w121_4, w121_5, w121_6, w121_9, w121_12, w121_13, w121_14, w121_17, w121_18, w121_19, w121_20, w121_21, w121_24, w121_25, w121_28, w121_31, w121_32, w121_33, w121_36, w121_39, w121_42, w121_43, w121_44, w121_47, w121_48, w121_51, w121_54, w121_55, w121_56, w121_59, w121_60, w121_61, w121_62, w121_63, w121_66, w121_67, w121_70, w121_71, w121_74, w121_77, w121_78, w121_81, w121_82, w121_85, w121_88, w121_89, w121_92, w121_95, w121_96, w121_99, w121_102, w121_103, w121_106, w121_109, w121_112, oK_some, cont_int, cont_intS, cont_none, cont_noneS, cont_long, cont_longS, true_and, and_true, false_and, and_false, true_implies, false_implies, not_true_eq_false, not_false_eq_true, eq_self, or_true, true_or, Option.isSome_some, hpf_length, hpa_length, bI_eq0, fi_hpa, fl_hpa, ar_hpf, fi_hpf_ne, fl_hpf_ne, ar_hpa_ne, hpa_hpa, hpf_hpf, nI_1, two_ne, fokZ, implies_true, Nat.reduceEqDiff, g_0_1, sf_0_1, fe_0_1, g_0_13, sf_0_13, fe_0_13, g_0_4, rc_29, g_0_14, sf_0_14, fe_0_14, g_0_15, sf_0_15, fe_0_15, g_0_2, rc_3, g_0_3, rc_16, g_0_5, rc_30, rc_34, rc_45, g_0_11, rc_62, rc_65, g_0_12, g_3_2, rc_4, g_16_2, rc_17, rc_6, rc_8, rc_10, rc_12, rc_14, rc_19, rc_21, rc_23, rc_25, rc_27, hF4.len, s4]
      refine C_sclear65 s4 (fun H5 hF5 q2 q3 => ?_)
      have s5 := hF5.shp
      have hF25 : Fg [30, 32] [(62, 2), (62, 3), (65, 2), (65, 3)] H2 H5 := ((hF3.mono (by decide) (by decide)).trans (hF4.mono (by decide) (by decide))).trans (hF5.mono (by decide) (by decide))
      have hF35 : Fg [] [(62, 2), (62, 3), (65, 2), (65, 3)] H3 H5 := (hF4.mono (by decide) (by decide)).trans (hF5.mono (by decide) (by decide))
      have hC5 : CSl H5 R' k2 k3 k4 k5 k6 k7 := hC2.of hF25 (by decide) (by decide)
      have e4 : fi H5 4 2 = nI k2 := hC5.2.1.1
      simp (maxDischargeDepth := 12) only [w121_0, w121_1, w121_4, w121_5, w121_6, w121_9, w121_12, w121_13, w121_14, w121_17, w121_18, w121_19, w121_20, w121_21, w121_24, w121_25, w121_28, w121_31, w121_32, w121_33, w121_36, w121_39, w121_42, w121_43, w121_44, w121_47, w121_48, w121_51, w121_54, w121_55, w121_56, w121_59, w121_60, w121_61, w121_62, w121_63, w121_66, w121_67, w121_70, w121_71, w121_74, w121_77, w121_78, w121_81, w121_82, w121_85, w121_88, w121_89, w121_92, w121_95, w121_96, w121_99, w121_102, w121_103, w121_106, w121_109, w121_112, oK_some, cont_int, cont_intS, cont_none, cont_noneS, cont_long, cont_longS, true_and, and_true, false_and, and_false, true_implies, false_implies, not_true_eq_false, not_false_eq_true, eq_self, or_true, true_or, Option.isSome_some, hpf_length, hpa_length, bI_eq0, fi_hpa, fl_hpa, ar_hpf, fi_hpf_ne, fl_hpf_ne, ar_hpa_ne, hpa_hpa, hpf_hpf, nI_1, two_ne, fokZ, implies_true, Nat.reduceEqDiff, g_0_1, sf_0_1, fe_0_1, g_0_13, sf_0_13, fe_0_13, g_0_4, rc_29, g_0_14, sf_0_14, fe_0_14, g_0_15, sf_0_15, fe_0_15, g_0_2, rc_3, g_0_3, rc_16, g_0_5, rc_30, rc_34, rc_45, g_0_11, rc_62, rc_65, g_0_12, g_3_2, rc_4, g_16_2, rc_17, rc_6, rc_8, rc_10, rc_12, rc_14, rc_19, rc_21, rc_23, rc_25, rc_27, hF5.len, s5, c_Table_count (g_4_2 s5), e4]
      have hAll : FgY H H5 := (((hF1.mono (by decide) (by decide)).trans (hG.mono (by decide) (by decide))).trans (hF2.mono (by decide) (by decide))).trans (hF25.mono (by decide) (by decide))
      have hX5 : Fg [5, 7, 9, 11, 13, 15, 30, 32] [(3, 0), (3, 1), (4, 2), (6, 2), (8, 2), (10, 2), (12, 2), (14, 2), (62, 2), (62, 3), (65, 2), (65, 3)] X H5 := (hF2.mono (by decide) (by decide)).trans (hF25.mono (by decide) (by decide))
      refine hok R' k2 k3 k4 k5 k6 k7 e H5 hAll ?_ ?_ ?_ hC5 hD1.mn hD1.2.2.2.1.2.2.2.2.2.2.2.2 kpos ⟨fun i hi => ?_, ?_, ?_, ?_⟩ ?_ ?_ ?_ ?_
      · rw [hX5.int (by decide) (by decide)]; exact y1
      · rw [hX5.int (by decide) (by decide)]; exact y13
      · rw [hX5.int (by decide) (by decide)]; exact y14
      · rw [hF35.arr (by decide), a3 i hi, stN_get k2 (by omega), if_pos hi]
      · rw [hF35.int (by decide) (by decide), g1, stN_get k2 (by omega), if_neg (by omega)]
      · rw [hF35.int (by decide) (by decide), g2, stN_get k2 (by omega), if_neg (by omega)]
      · rw [hF35.int (by decide) (by decide), g3, stN_get k2 (by omega), if_neg (by omega)]
      · rw [hF5.int (by decide) (by decide)]; exact p2
      · rw [hF5.int (by decide) (by decide)]; exact p3
      · exact q2
      · exact q3
    · have s1 := hF1.shp
      have cne : (c = 0) = False := eq_false hE1.2.2.1
      have r1 := sf_0_14 (v := c) s1
      have r2 := sf_0_15 (v := fi H1 29 8) r1
      have r3 := sf_0_1 (v := 0) r2
      have r4 := sf_0_13 (v := 4) r3
      have hG : Fg [] [(0, 1), (0, 13), (0, 14), (0, 15)] H1 (hpf (hpf (hpf (hpf H1 0 14 (.int c)) 0 15 (.int (fi H1 29 8))) 0 1 (.int 0)) 0 13 (.int 4)) := ((((fg_hpf (a := 0) (f := 14) (ci := 11) s1 rfl (by decide))).trans (fg_hpf (a := 0) (f := 15) (ci := 11) r1 rfl (by decide))).trans (fg_hpf (a := 0) (f := 1) (ci := 11) r2 rfl (by decide))).trans (fg_hpf (a := 0) (f := 13) (ci := 11) r3 rfl (by decide))
      have y14 : fi (hpf (hpf (hpf (hpf H1 0 14 (.int c)) 0 15 (.int (fi H1 29 8))) 0 1 (.int 0)) 0 13 (.int 4)) 0 14 = c := by rw [fi_hpf_ne (by decide), fi_hpf_ne (by decide), fi_hpf_ne (by decide)]; exact fe_0_14 s1
      have y15 : fi (hpf (hpf (hpf (hpf H1 0 14 (.int c)) 0 15 (.int (fi H1 29 8))) 0 1 (.int 0)) 0 13 (.int 4)) 0 15 = nI p := by rw [fi_hpf_ne (by decide), fi_hpf_ne (by decide)]; exact (fe_0_15 r1).trans hE1.2.2.2
      have y1 : fi (hpf (hpf (hpf (hpf H1 0 14 (.int c)) 0 15 (.int (fi H1 29 8))) 0 1 (.int 0)) 0 13 (.int 4)) 0 1 = 0 := by rw [fi_hpf_ne (by decide)]; exact fe_0_1 r2
      have y13 : fi (hpf (hpf (hpf (hpf H1 0 14 (.int c)) 0 15 (.int (fi H1 29 8))) 0 1 (.int 0)) 0 13 (.int 4)) 0 13 = 4 := fe_0_13 r3
      simp (maxDischargeDepth := 12) only [w121_0, w121_1, w121_4, w121_5, w121_6, w121_9, w121_12, w121_13, w121_14, w121_17, w121_18, w121_19, w121_20, w121_21, w121_24, w121_25, w121_28, w121_31, w121_32, w121_33, w121_36, w121_39, w121_42, w121_43, w121_44, w121_47, w121_48, w121_51, w121_54, w121_55, w121_56, w121_59, w121_60, w121_61, w121_62, w121_63, w121_66, w121_67, w121_70, w121_71, w121_74, w121_77, w121_78, w121_81, w121_82, w121_85, w121_88, w121_89, w121_92, w121_95, w121_96, w121_99, w121_102, w121_103, w121_106, w121_109, w121_112, oK_some, cont_int, cont_intS, cont_none, cont_noneS, cont_long, cont_longS, true_and, and_true, false_and, and_false, true_implies, false_implies, not_true_eq_false, not_false_eq_true, eq_self, or_true, true_or, Option.isSome_some, hpf_length, hpa_length, bI_eq0, fi_hpa, fl_hpa, ar_hpf, fi_hpf_ne, fl_hpf_ne, ar_hpa_ne, hpa_hpa, hpf_hpf, nI_1, two_ne, fokZ, implies_true, Nat.reduceEqDiff, g_0_1, sf_0_1, fe_0_1, g_0_13, sf_0_13, fe_0_13, g_0_4, rc_29, g_0_14, sf_0_14, fe_0_14, g_0_15, sf_0_15, fe_0_15, g_0_2, rc_3, g_0_3, rc_16, g_0_5, rc_30, rc_34, rc_45, g_0_11, rc_62, rc_65, g_0_12, g_3_2, rc_4, g_16_2, rc_17, rc_6, rc_8, rc_10, rc_12, rc_14, rc_19, rc_21, rc_23, rc_25, rc_27, w29_0, w29_1, w29_4, hF1.len, s1, g_29_8, r1, r2, r3, r4, fi_hpf_ne (show ¬ ((0 : Nat) = 29 ∧ (14 : Nat) = 8) by decide), cne]
      exact her _ _ e _ ((hF1.mono (by decide) (by decide)).trans (hG.mono (by decide) (by decide))) y1 y13 y14 y15
  · have hG : Fg [] [(0, 13)] H (hpf H 0 13 (.int 2)) := (fg_hpf (a := 0) (f := 13) (ci := 11) hS rfl (by decide))
    have fin := hbad hb _ hG (fe_0_13 hS)
    by_cases c1 : m < 0
    · simp (maxDischargeDepth := 12) only [w121_0, w121_1, w121_4, w121_5, w121_6, w121_9, w121_12, w121_13, w121_14, w121_17, w121_18, w121_19, w121_20, w121_21, w121_24, w121_25, w121_28, w121_31, w121_32, w121_33, w121_36, w121_39, w121_42, w121_43, w121_44, w121_47, w121_48, w121_51, w121_54, w121_55, w121_56, w121_59, w121_60, w121_61, w121_62, w121_63, w121_66, w121_67, w121_70, w121_71, w121_74, w121_77, w121_78, w121_81, w121_82, w121_85, w121_88, w121_89, w121_92, w121_95, w121_96, w121_99, w121_102, w121_103, w121_106, w121_109, w121_112, oK_some, cont_int, cont_intS, cont_none, cont_noneS, cont_long, cont_longS, true_and, and_true, false_and, and_false, true_implies, false_implies, not_true_eq_false, not_false_eq_true, eq_self, or_true, true_or, Option.isSome_some, hpf_length, hpa_length, bI_eq0, fi_hpa, fl_hpa, ar_hpf, fi_hpf_ne, fl_hpf_ne, ar_hpa_ne, hpa_hpa, hpf_hpf, nI_1, two_ne, fokZ, implies_true, Nat.reduceEqDiff, g_0_1, sf_0_1, fe_0_1, g_0_13, sf_0_13, fe_0_13, g_0_4, rc_29, g_0_14, sf_0_14, fe_0_14, g_0_15, sf_0_15, fe_0_15, g_0_2, rc_3, g_0_3, rc_16, g_0_5, rc_30, rc_34, rc_45, g_0_11, rc_62, rc_65, g_0_12, g_3_2, rc_4, g_16_2, rc_17, rc_6, rc_8, rc_10, rc_12, rc_14, rc_19, rc_21, rc_23, rc_25, rc_27, hS, ht, c1]
      exact fin
    · have c2 : (m ≤ nI tp) = False := eq_false (fun q => hb ⟨by rw [← Int32.not_lt]; exact c1, q⟩)
      simp (maxDischargeDepth := 12) only [w121_0, w121_1, w121_4, w121_5, w121_6, w121_9, w121_12, w121_13, w121_14, w121_17, w121_18, w121_19, w121_20, w121_21, w121_24, w121_25, w121_28, w121_31, w121_32, w121_33, w121_36, w121_39, w121_42, w121_43, w121_44, w121_47, w121_48, w121_51, w121_54, w121_55, w121_56, w121_59, w121_60, w121_61, w121_62, w121_63, w121_66, w121_67, w121_70, w121_71, w121_74, w121_77, w121_78, w121_81, w121_82, w121_85, w121_88, w121_89, w121_92, w121_95, w121_96, w121_99, w121_102, w121_103, w121_106, w121_109, w121_112, oK_some, cont_int, cont_intS, cont_none, cont_noneS, cont_long, cont_longS, true_and, and_true, false_and, and_false, true_implies, false_implies, not_true_eq_false, not_false_eq_true, eq_self, or_true, true_or, Option.isSome_some, hpf_length, hpa_length, bI_eq0, fi_hpa, fl_hpa, ar_hpf, fi_hpf_ne, fl_hpf_ne, ar_hpa_ne, hpa_hpa, hpf_hpf, nI_1, two_ne, fokZ, implies_true, Nat.reduceEqDiff, g_0_1, sf_0_1, fe_0_1, g_0_13, sf_0_13, fe_0_13, g_0_4, rc_29, g_0_14, sf_0_14, fe_0_14, g_0_15, sf_0_15, fe_0_15, g_0_2, rc_3, g_0_3, rc_16, g_0_5, rc_30, rc_34, rc_45, g_0_11, rc_62, rc_65, g_0_12, g_3_2, rc_4, g_16_2, rc_17, rc_6, rc_8, rc_10, rc_12, rc_14, rc_19, rc_21, rc_23, rc_25, rc_27, hS, ht, c1, c2]
      exact fin
end CSLOPE
