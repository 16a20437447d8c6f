/-! ===== reading: names ===== -/
theorem getD_dropI {R : List Int32} {p k : Nat} : (R.drop p).getD k 0 = R.getD (p + k) 0 := by
  simp [List.getD, List.getElem?_drop]
def fdI (o : Option Nat) : Int32 := match o with | some i => nI i | none => -1
section MREAD2
variable {scr : List Int32} {d n j k : Nat} {t : Tk} {xs R : List Int32} {H H' : List AC} {Q : Option Value → List AC → Prop}
theorem MP.le (h : MP H xs n t R) : t.1 ≤ t.2.1 := by
  have := congrArg Prod.snd h.1.2.2.2.2.2.2.2.2.1
  change t.2.1 = _ at this
  rw [this]
  exact tkT_ge
theorem tkT_w8 {a : Nat} (h : (tkT xs n a).1 = 1) : (tkT xs n a).2 - a ≤ 8 ∧ 0 < (tkT xs n a).2 - a := by
  unfold tkT at h ⊢
  by_cases h1 : n ≤ a
  · rw [if_pos h1] at h; exact absurd (show (0 : Nat) = 1 from h) (by decide)
  · rw [if_neg h1] at h ⊢
    by_cases h2 : isL (xs.getD a 0) = true
    · rw [if_pos h2] at h ⊢
      change (if tkL xs n a - a ≤ 8 then 1 else 4) = 1 at h
      change tkL xs n a - a ≤ 8 ∧ 0 < tkL xs n a - a
      have : a + 1 ≤ tkL xs n a := by
        unfold tkL
        rw [sk_step (by omega) h2]
        exact sk_le
      by_cases q : tkL xs n a - a ≤ 8
      · exact ⟨q, by omega⟩
      · rw [if_neg q] at h; exact absurd h (by decide)
    · rw [if_neg h2] at h
      by_cases h3 : isD (xs.getD a 0) = true
      · rw [if_pos h3] at h
        change (if tkD xs n a - a ≤ 3 then 2 else 4) = 1 at h
        by_cases q : tkD xs n a - a ≤ 3
        · rw [if_pos q] at h; exact absurd h (by decide)
        · rw [if_neg q] at h; exact absurd h (by decide)
      · rw [if_neg h3] at h
        change (if xs.getD a 0 = 59 then 3 else 4) = 1 at h
        by_cases q : xs.getD a 0 = 59
        · rw [if_pos q] at h; exact absurd h (by decide)
        · rw [if_neg q] at h; exact absurd h (by decide)
theorem MP.w8 (h : MP H xs n t R) (h1 : t.2.2 = 1) : t.2.1 - t.1 ≤ 8 ∧ 0 < t.2.1 - t.1 := by
  have e := h.1.2.2.2.2.2.2.2.2.1
  have e1 := congrArg Prod.fst e
  have e2 := congrArg Prod.snd e
  change t.2.2 = _ at e1
  change t.2.1 = _ at e2
  rw [h1] at e1
  rw [e2]
  exact tkT_w8 e1.symm
theorem M_find (h : MP H xs n t R) (h1 : t.2.2 = 1) : Wp scr d 203 0 [some (.ref 68), none, none, none] [] H Q ↔ Q (some (.int (fdI (findR xs R t 7)))) H := by
  refine Wp_iff ?_
  obtain ⟨h8, h0⟩ := h.w8 h1
  obtain ⟨⟨hS, hn, h9, f4, f5, f6, ha, he, et, hh1, hh2⟩, e69, hB, hf, e72⟩ := id h
  obtain ⟨f8, hl⟩ := hh1 h1
  rw [e69] at hl
  have i1 : ∀ a : Nat, nI a + 1 = nI (a + 1) := fun a => ixa a 1 (v := 1) rfl
  generalize hm : t.2.1 - t.1 = m at *
  have lR : R.length = 211 := by rw [← e72, gn_72 hS]
  have key := down (P := fun i => findR xs R t i = none → ∀ o2 o3 : Option Value, Wp scr d 203 2 [some (.ref 68), some (.int (nI i)), o2, o3] [] H (fun r H' => r = some (.int (fdI (findR xs R t 7))) ∧ H' = H)) 7 ?_ ?_
  · simp (maxDischargeDepth := 12) only [w203_0, w203_1, w203_3, w203_5, w203_8, w203_9, w203_12, w203_15, w203_16, w203_17, w203_18, w203_21, w203_22, w203_25, w203_28, w203_29, w203_30, w203_31, w203_32, w203_35, w203_38, w203_39, w203_42, w203_43, w203_44, w203_45, w203_47, w203_48, w203_51, w203_54, w203_55, w203_58, w203_59, w203_62, w203_65, w203_67, w203_68, w203_69, w203_70, w203_71, w203_72, w203_73, w203_74, w203_77, w203_78, w203_79, w203_82, w203_83, w203_86, w203_87, w203_88, w203_91, w203_94, w203_95, w203_98, w203_99, w203_100, w203_103, w203_106, w203_107, oK_some, cont_int, cont_intS, cont_none, cont_noneS, cont_long, cont_longS, true_and, and_true, false_and, and_false, true_implies, false_implies, not_true_eq_false, not_false_eq_true, eq_self, or_true, true_or, Option.isSome_some, hpf_length, hpa_length, bI_eq0, fi_hpa, fl_hpa, ar_hpf, fi_hpf_ne, fl_hpf_ne, ar_hpa_ne, hpa_hpa, hpf_hpf, nI_1, two_ne, fokZ, implies_true, Nat.reduceEqDiff, g_68_16, ga_72, gn_72, sa_72, ae_72, g_68_8, sf_68_8, fe_68_8, g_68_12, ga_70, gn_70, sa_70, ae_70, kl_0, kl_1, kl_2, kl_3, kl_4, kl_5, kl_6, kl_7, kl_8, kl_9, kl_10, kl_11, kl_12, jb_0_8, jb_1_8, jb_2_8, jb_3_8, jb_4_8, jb_5_8, jb_6_8, jb_7_8, jb_0_211, jb_1_211, jb_2_211, jb_3_211, jb_4_211, jb_5_211, jb_6_211, jb_7_211, jb_8_211, jb_9_211, jb_10_211, jb_11_211, jb_12_211, hS]
    exact key rfl none none
  · intro hno o2 o3
    rw [w203_2]
    simp (maxDischargeDepth := 12) only [w203_0, w203_1, w203_3, w203_5, w203_8, w203_9, w203_12, w203_15, w203_16, w203_17, w203_18, w203_21, w203_22, w203_25, w203_28, w203_29, w203_30, w203_31, w203_32, w203_35, w203_38, w203_39, w203_42, w203_43, w203_44, w203_45, w203_47, w203_48, w203_51, w203_54, w203_55, w203_58, w203_59, w203_62, w203_65, w203_67, w203_68, w203_69, w203_70, w203_71, w203_72, w203_73, w203_74, w203_77, w203_78, w203_79, w203_82, w203_83, w203_86, w203_87, w203_88, w203_91, w203_94, w203_95, w203_98, w203_99, w203_100, w203_103, w203_106, w203_107, oK_some, cont_int, cont_intS, cont_none, cont_noneS, cont_long, cont_longS, true_and, and_true, false_and, and_false, true_implies, false_implies, not_true_eq_false, not_false_eq_true, eq_self, or_true, true_or, Option.isSome_some, hpf_length, hpa_length, bI_eq0, fi_hpa, fl_hpa, ar_hpf, fi_hpf_ne, fl_hpf_ne, ar_hpa_ne, hpa_hpa, hpf_hpf, nI_1, two_ne, fokZ, implies_true, Nat.reduceEqDiff, g_68_16, ga_72, gn_72, sa_72, ae_72, g_68_8, sf_68_8, fe_68_8, g_68_12, ga_70, gn_70, sa_70, ae_70, kl_0, kl_1, kl_2, kl_3, kl_4, kl_5, kl_6, kl_7, kl_8, kl_9, kl_10, kl_11, kl_12, jb_0_8, jb_1_8, jb_2_8, jb_3_8, jb_4_8, jb_5_8, jb_6_8, jb_7_8, jb_0_211, jb_1_211, jb_2_211, jb_3_211, jb_4_211, jb_5_211, jb_6_211, jb_7_211, jb_8_211, jb_9_211, jb_10_211, jb_11_211, jb_12_211, show ((7 : Int32) ≤ nI 7) = True from eq_true (by decide), hno]
    rfl
  · intro i hi hw hno o2 o3
    have hst : findR xs R t (i + 1) = if nmE xs R t i = true then some i else none := by
      show (match findR xs R t i with | some i => some i | none => if nmE xs R t i = true then some i else none) = _
      rw [hno]
    have hfin : nmE xs R t i = true → findR xs R t 7 = some i := by
      intro hq
      rw [if_pos hq] at hst
      have : ∀ k, findR xs R t (i + 1 + k) = some i := by
        intro k
        induction k with
        | zero => exact hst
        | succ k ih =>
          show (match findR xs R t (i + 1 + k) with | some i => some i | none => if nmE xs R t (i + 1 + k) = true then some (i + 1 + k) else none) = _
          rw [ih]
      have := this (6 - i)
      rwa [show i + 1 + (6 - i) = 7 by omega] at this
    have j1 : (148 : Int32) + nI i = nI (148 + i) := by rw [show (148 : Int32) = nI 148 from rfl, nI_add]
    have j2 : ∀ k, (155 : Int32) + 8 * nI i + nI k = nI (155 + 8 * i + k) := fun k => by rw [show (155 : Int32) + 8 * nI i = nI (155 + 8 * i) from ixm 155 8 i rfl rfl, nI_add]
    have hout : nmE xs R t i = false → ∀ o2 o3 : Option Value, Wp scr d 203 2 [some (.ref 68), some (.int (nI (i + 1))), o2, o3] [] H (fun r H' => r = some (.int (fdI (findR xs R t 7))) ∧ H' = H) := fun q => hw (by rw [hst, q]; rfl)
    have hn' : nmE xs R t i = ((decide (0 < rg R (148 + i)) && decide (rg R (148 + i) = nI m)) && eqp xs t.1 (R.drop (155 + 8 * i)) m) := by
      unfold nmE; rw [hm, Bool.and_assoc]
    have inner := down (P := fun k => Wp scr d 203 46 [some (.ref 68), some (.int (nI i)), some (.int (bI ((decide (0 < rg R (148 + i)) && decide (rg R (148 + i) = nI m)) && eqp xs t.1 (R.drop (155 + 8 * i)) k))), some (.int (nI k))] [] H (fun r H' => r = some (.int (fdI (findR xs R t 7))) ∧ H' = H)) m ?_ ?_
    · rw [eqp_zero, Bool.and_true] at inner
      rw [w203_2]
      simp (maxDischargeDepth := 12) only [w203_0, w203_1, w203_3, w203_5, w203_8, w203_9, w203_12, w203_15, w203_16, w203_17, w203_18, w203_21, w203_22, w203_25, w203_28, w203_29, w203_30, w203_31, w203_32, w203_35, w203_38, w203_39, w203_42, w203_43, w203_44, w203_45, w203_47, w203_48, w203_51, w203_54, w203_55, w203_58, w203_59, w203_62, w203_65, w203_67, w203_68, w203_69, w203_70, w203_71, w203_72, w203_73, w203_74, w203_77, w203_78, w203_79, w203_82, w203_83, w203_86, w203_87, w203_88, w203_91, w203_94, w203_95, w203_98, w203_99, w203_100, w203_103, w203_106, w203_107, oK_some, cont_int, cont_intS, cont_none, cont_noneS, cont_long, cont_longS, true_and, and_true, false_and, and_false, true_implies, false_implies, not_true_eq_false, not_false_eq_true, eq_self, or_true, true_or, Option.isSome_some, hpf_length, hpa_length, bI_eq0, fi_hpa, fl_hpa, ar_hpf, fi_hpf_ne, fl_hpf_ne, ar_hpa_ne, hpa_hpa, hpf_hpf, nI_1, two_ne, fokZ, implies_true, Nat.reduceEqDiff, g_68_16, ga_72, gn_72, sa_72, ae_72, g_68_8, sf_68_8, fe_68_8, g_68_12, ga_70, gn_70, sa_70, ae_70, kl_0, kl_1, kl_2, kl_3, kl_4, kl_5, kl_6, kl_7, kl_8, kl_9, kl_10, kl_11, kl_12, jb_0_8, jb_1_8, jb_2_8, jb_3_8, jb_4_8, jb_5_8, jb_6_8, jb_7_8, jb_0_211, jb_1_211, jb_2_211, jb_3_211, jb_4_211, jb_5_211, jb_6_211, jb_7_211, jb_8_211, jb_9_211, jb_10_211, jb_11_211, jb_12_211, hS, show ((7 : Int32) ≤ nI i) = False from nI_lef (n := 7) hi (by decide), j1, e72, lR, inb_nI (i := 148 + i) (by omega), decide_eq_true (by omega : 148 + i < 211), nI_clamp (n := 148 + i) (by omega), f8]
      have c1 : 0 < rg R (148 + i) ↔ ¬ R.getD (148 + i) 0 ≤ 0 := by unfold rg; rw [Int32.not_le]
      have c2 : rg R (148 + i) = R.getD (148 + i) 0 := rfl
      by_cases q1 : R.getD (148 + i) 0 ≤ 0
      · rw [decide_eq_false (fun q => c1.mp q q1)] at inner
        simp only [q1, oK_some, cont_int, cont_intS, cont_none, cont_noneS, cont_long, cont_longS, true_and, and_true, false_and, and_false, true_implies, false_implies, not_true_eq_false, not_false_eq_true, eq_self, or_true, true_or, Option.isSome_some, hpf_length, hpa_length, bI_eq0, fi_hpa, fl_hpa, ar_hpf, fi_hpf_ne, fl_hpf_ne, ar_hpa_ne, hpa_hpa, hpf_hpf, nI_1, two_ne, fokZ, implies_true, Nat.reduceEqDiff]
        exact inner
      · rw [decide_eq_true (c1.mpr q1), Bool.true_and, c2] at inner
        by_cases q2 : R.getD (148 + i) 0 = nI m
        · rw [decide_eq_true q2] at inner
          simp only [q1, q2, oK_some, cont_int, cont_intS, cont_none, cont_noneS, cont_long, cont_longS, true_and, and_true, false_and, and_false, true_implies, false_implies, not_true_eq_false, not_false_eq_true, eq_self, or_true, true_or, Option.isSome_some, hpf_length, hpa_length, bI_eq0, fi_hpa, fl_hpa, ar_hpf, fi_hpf_ne, fl_hpf_ne, ar_hpa_ne, hpa_hpa, hpf_hpf, nI_1, two_ne, fokZ, implies_true, Nat.reduceEqDiff]
          rw [q2] at q1
          simp only [q1, oK_some, cont_int, cont_intS, cont_none, cont_noneS, cont_long, cont_longS, true_and, and_true, false_and, and_false, true_implies, false_implies, not_true_eq_false, not_false_eq_true, eq_self, or_true, true_or, Option.isSome_some, hpf_length, hpa_length, bI_eq0, fi_hpa, fl_hpa, ar_hpf, fi_hpf_ne, fl_hpf_ne, ar_hpa_ne, hpa_hpa, hpf_hpf, nI_1, two_ne, fokZ, implies_true, Nat.reduceEqDiff]
          exact inner
        · rw [decide_eq_false q2] at inner
          simp only [q1, q2, oK_some, cont_int, cont_intS, cont_none, cont_noneS, cont_long, cont_longS, true_and, and_true, false_and, and_false, true_implies, false_implies, not_true_eq_false, not_false_eq_true, eq_self, or_true, true_or, Option.isSome_some, hpf_length, hpa_length, bI_eq0, fi_hpa, fl_hpa, ar_hpf, fi_hpf_ne, fl_hpf_ne, ar_hpa_ne, hpa_hpa, hpf_hpf, nI_1, two_ne, fokZ, implies_true, Nat.reduceEqDiff]
          exact inner
    · rw [w203_46]
      simp (maxDischargeDepth := 12) only [w203_0, w203_1, w203_3, w203_5, w203_8, w203_9, w203_12, w203_15, w203_16, w203_17, w203_18, w203_21, w203_22, w203_25, w203_28, w203_29, w203_30, w203_31, w203_32, w203_35, w203_38, w203_39, w203_42, w203_43, w203_44, w203_45, w203_47, w203_48, w203_51, w203_54, w203_55, w203_58, w203_59, w203_62, w203_65, w203_67, w203_68, w203_69, w203_70, w203_71, w203_72, w203_73, w203_74, w203_77, w203_78, w203_79, w203_82, w203_83, w203_86, w203_87, w203_88, w203_91, w203_94, w203_95, w203_98, w203_99, w203_100, w203_103, w203_106, w203_107, oK_some, cont_int, cont_intS, cont_none, cont_noneS, cont_long, cont_longS, true_and, and_true, false_and, and_false, true_implies, false_implies, not_true_eq_false, not_false_eq_true, eq_self, or_true, true_or, Option.isSome_some, hpf_length, hpa_length, bI_eq0, fi_hpa, fl_hpa, ar_hpf, fi_hpf_ne, fl_hpf_ne, ar_hpa_ne, hpa_hpa, hpf_hpf, nI_1, two_ne, fokZ, implies_true, Nat.reduceEqDiff, g_68_16, ga_72, gn_72, sa_72, ae_72, g_68_8, sf_68_8, fe_68_8, g_68_12, ga_70, gn_70, sa_70, ae_70, kl_0, kl_1, kl_2, kl_3, kl_4, kl_5, kl_6, kl_7, kl_8, kl_9, kl_10, kl_11, kl_12, jb_0_8, jb_1_8, jb_2_8, jb_3_8, jb_4_8, jb_5_8, jb_6_8, jb_7_8, jb_0_211, jb_1_211, jb_2_211, jb_3_211, jb_4_211, jb_5_211, jb_6_211, jb_7_211, jb_8_211, jb_9_211, jb_10_211, jb_11_211, jb_12_211, hS, f8, nI_les, i1, ← hn']
      cases hq : nmE xs R t i
      · simp only [oK_some, cont_int, cont_intS, cont_none, cont_noneS, cont_long, cont_longS, true_and, and_true, false_and, and_false, true_implies, false_implies, not_true_eq_false, not_false_eq_true, eq_self, or_true, true_or, Option.isSome_some, hpf_length, hpa_length, bI_eq0, fi_hpa, fl_hpa, ar_hpf, fi_hpf_ne, fl_hpf_ne, ar_hpa_ne, hpa_hpa, hpf_hpf, nI_1, two_ne, fokZ, implies_true, Nat.reduceEqDiff]
        exact hout hq _ _
      · simp only [oK_some, cont_int, cont_intS, cont_none, cont_noneS, cont_long, cont_longS, true_and, and_true, false_and, and_false, true_implies, false_implies, not_true_eq_false, not_false_eq_true, eq_self, or_true, true_or, Option.isSome_some, hpf_length, hpa_length, bI_eq0, fi_hpa, fl_hpa, ar_hpf, fi_hpf_ne, fl_hpf_ne, ar_hpa_ne, hpa_hpa, hpf_hpf, nI_1, two_ne, fokZ, implies_true, Nat.reduceEqDiff, Bool.true_eq_false, hfin hq]
        rfl
    · intro k hk hw2
      rw [eqp_succ, ← Bool.and_assoc, getD_dropI] at hw2
      rw [w203_46]
      simp (maxDischargeDepth := 12) only [w203_0, w203_1, w203_3, w203_5, w203_8, w203_9, w203_12, w203_15, w203_16, w203_17, w203_18, w203_21, w203_22, w203_25, w203_28, w203_29, w203_30, w203_31, w203_32, w203_35, w203_38, w203_39, w203_42, w203_43, w203_44, w203_45, w203_47, w203_48, w203_51, w203_54, w203_55, w203_58, w203_59, w203_62, w203_65, w203_67, w203_68, w203_69, w203_70, w203_71, w203_72, w203_73, w203_74, w203_77, w203_78, w203_79, w203_82, w203_83, w203_86, w203_87, w203_88, w203_91, w203_94, w203_95, w203_98, w203_99, w203_100, w203_103, w203_106, w203_107, oK_some, cont_int, cont_intS, cont_none, cont_noneS, cont_long, cont_longS, true_and, and_true, false_and, and_false, true_implies, false_implies, not_true_eq_false, not_false_eq_true, eq_self, or_true, true_or, Option.isSome_some, hpf_length, hpa_length, bI_eq0, fi_hpa, fl_hpa, ar_hpf, fi_hpf_ne, fl_hpf_ne, ar_hpa_ne, hpa_hpa, hpf_hpf, nI_1, two_ne, fokZ, implies_true, Nat.reduceEqDiff, g_68_16, ga_72, gn_72, sa_72, ae_72, g_68_8, sf_68_8, fe_68_8, g_68_12, ga_70, gn_70, sa_70, ae_70, kl_0, kl_1, kl_2, kl_3, kl_4, kl_5, kl_6, kl_7, kl_8, kl_9, kl_10, kl_11, kl_12, jb_0_8, jb_1_8, jb_2_8, jb_3_8, jb_4_8, jb_5_8, jb_6_8, jb_7_8, jb_0_211, jb_1_211, jb_2_211, jb_3_211, jb_4_211, jb_5_211, jb_6_211, jb_7_211, jb_8_211, jb_9_211, jb_10_211, jb_11_211, jb_12_211, hS, f8, nI_lef hk (by omega), i1, j2, e72, lR, inb_nI (i := 155 + 8 * i + k) (by omega), decide_eq_true (by omega : 155 + 8 * i + k < 211), nI_clamp (n := 155 + 8 * i + k) (by omega), inb_nI (i := k) (by omega), decide_eq_true (by omega : k < 8), nI_clamp (n := k) (by omega), hl k hk]
      cases hq : ((decide (0 < rg R (148 + i)) && decide (rg R (148 + i) = nI m)) && eqp xs t.1 (R.drop (155 + 8 * i)) k)
      · have hz : nmE xs R t i = false := by
          rw [hn']
          cases hb : (decide (0 < rg R (148 + i)) && decide (rg R (148 + i) = nI m))
          · rfl
          · rw [hb, Bool.true_and] at hq
            rw [Bool.true_and]
            exact decide_eq_false (fun q => of_decide_eq_false hq (fun i' hi' => q i' (by omega)))
        simp only [oK_some, cont_int, cont_intS, cont_none, cont_noneS, cont_long, cont_longS, true_and, and_true, false_and, and_false, true_implies, false_implies, not_true_eq_false, not_false_eq_true, eq_self, or_true, true_or, Option.isSome_some, hpf_length, hpa_length, bI_eq0, fi_hpa, fl_hpa, ar_hpf, fi_hpf_ne, fl_hpf_ne, ar_hpa_ne, hpa_hpa, hpf_hpf, nI_1, two_ne, fokZ, implies_true, Nat.reduceEqDiff]
        exact hout hz _ _
      · rw [hq, Bool.true_and] at hw2
        simp only [oK_some, cont_int, cont_intS, cont_none, cont_noneS, cont_long, cont_longS, true_and, and_true, false_and, and_false, true_implies, false_implies, not_true_eq_false, not_false_eq_true, eq_self, or_true, true_or, Option.isSome_some, hpf_length, hpa_length, bI_eq0, fi_hpa, fl_hpa, ar_hpf, fi_hpf_ne, fl_hpf_ne, ar_hpa_ne, hpa_hpa, hpf_hpf, nI_1, two_ne, fokZ, implies_true, Nat.reduceEqDiff, Bool.true_eq_false]
        by_cases hc : R.getD (155 + 8 * i + k) 0 = xs.getD (t.1 + k) 0
        · rw [decide_eq_true hc.symm] at hw2
          simp only [hc, oK_some, cont_int, cont_intS, cont_none, cont_noneS, cont_long, cont_longS, true_and, and_true, false_and, and_false, true_implies, false_implies, not_true_eq_false, not_false_eq_true, eq_self, or_true, true_or, Option.isSome_some, hpf_length, hpa_length, bI_eq0, fi_hpa, fl_hpa, ar_hpf, fi_hpf_ne, fl_hpf_ne, ar_hpa_ne, hpa_hpa, hpf_hpf, nI_1, two_ne, fokZ, implies_true, Nat.reduceEqDiff]
          exact hw2
        · rw [decide_eq_false (fun q => hc q.symm)] at hw2
          simp only [hc, oK_some, cont_int, cont_intS, cont_none, cont_noneS, cont_long, cont_longS, true_and, and_true, false_and, and_false, true_implies, false_implies, not_true_eq_false, not_false_eq_true, eq_self, or_true, true_or, Option.isSome_some, hpf_length, hpa_length, bI_eq0, fi_hpa, fl_hpa, ar_hpf, fi_hpf_ne, fl_hpf_ne, ar_hpa_ne, hpa_hpa, hpf_hpf, nI_1, two_ne, fokZ, implies_true, Nat.reduceEqDiff]
          exact hw2
theorem isKey_false (h : isKey xs t = false) : isWt xs t 0 = false ∧ isWt xs t 1 = false ∧ isWt xs t 2 = false ∧ isWt xs t 3 = false ∧ isWt xs t 4 = false ∧ isWt xs t 5 = false ∧ isWt xs t 6 = false ∧ isWt xs t 7 = false := by
  unfold isKey at h
  simpa only [Bool.or_eq_false_iff] using h
theorem M_mustName (h : MP H xs n t R) (hok : pName xs t = true → Q none H) (her : pName xs t = false → ∀ H', FgM H H' → ML H' 1 t.1 → Q none H') : Wp scr (d + 5) 202 0 [some (.ref 68)] [] H Q := by
  have hS := h.shp
  have f6 : (fi H 68 6 = 2) = (t.2.2 = 1) := by rw [h.1.2.2.2.2.2.1]; exact mtk2 h.s5
  have f4 := h.1.2.2.2.1
  have E : pName xs t = false → Wp scr (d + 5) 202 80 [some (.ref 68)] [] H Q := fun q => by
    simp (maxDischargeDepth := 12) only [w202_0, w202_1, w202_4, w202_5, w202_8, w202_9, w202_11, w202_14, w202_17, w202_18, w202_20, w202_23, w202_26, w202_27, w202_29, w202_32, w202_35, w202_36, w202_38, w202_41, w202_44, w202_45, w202_47, w202_50, w202_53, w202_54, w202_56, w202_59, w202_62, w202_63, w202_65, w202_68, w202_71, w202_72, w202_74, w202_77, w202_80, w202_81, w202_82, w202_83, w202_86, w202_89, oK_some, cont_int, cont_intS, cont_none, cont_noneS, cont_long, cont_longS, true_and, and_true, false_and, and_false, true_implies, false_implies, not_true_eq_false, not_false_eq_true, eq_self, or_true, true_or, Option.isSome_some, hpf_length, hpa_length, bI_eq0, fi_hpa, fl_hpa, ar_hpf, fi_hpf_ne, fl_hpf_ne, ar_hpa_ne, hpa_hpa, hpf_hpf, nI_1, two_ne, fokZ, implies_true, Nat.reduceEqDiff, g_68_6, sf_68_6, fe_68_6, rc_68, g_68_4, sf_68_4, fe_68_4, hS, f4]
    refine M_wrong h (fun H' hF hL => ?_)
    have hs := hF.shp
    simp (maxDischargeDepth := 12) only [w202_0, w202_1, w202_4, w202_5, w202_8, w202_9, w202_11, w202_14, w202_17, w202_18, w202_20, w202_23, w202_26, w202_27, w202_29, w202_32, w202_35, w202_36, w202_38, w202_41, w202_44, w202_45, w202_47, w202_50, w202_53, w202_54, w202_56, w202_59, w202_62, w202_63, w202_65, w202_68, w202_71, w202_72, w202_74, w202_77, w202_80, w202_81, w202_82, w202_83, w202_86, w202_89, oK_some, cont_int, cont_intS, cont_none, cont_noneS, cont_long, cont_longS, true_and, and_true, false_and, and_false, true_implies, false_implies, not_true_eq_false, not_false_eq_true, eq_self, or_true, true_or, Option.isSome_some, hpf_length, hpa_length, bI_eq0, fi_hpa, fl_hpa, ar_hpf, fi_hpf_ne, fl_hpf_ne, ar_hpa_ne, hpa_hpa, hpf_hpf, nI_1, two_ne, fokZ, implies_true, Nat.reduceEqDiff, g_68_6, sf_68_6, fe_68_6, rc_68, g_68_4, sf_68_4, fe_68_4, hF.len, hs]
    exact her q H' hF hL
  by_cases h1 : t.2.2 = 1
  · have en : pName xs t = !(isKey xs t) := by unfold pName; rw [decide_eq_true h1, Bool.true_and]
    rw [en] at hok E
    simp (maxDischargeDepth := 12) only [w202_0, w202_1, w202_4, w202_5, w202_8, w202_9, w202_11, w202_14, w202_17, w202_18, w202_20, w202_23, w202_26, w202_27, w202_29, w202_32, w202_35, w202_36, w202_38, w202_41, w202_44, w202_45, w202_47, w202_50, w202_53, w202_54, w202_56, w202_59, w202_62, w202_63, w202_65, w202_68, w202_71, w202_72, w202_74, w202_77, w202_81, w202_82, w202_83, w202_86, w202_89, oK_some, cont_int, cont_intS, cont_none, cont_noneS, cont_long, cont_longS, true_and, and_true, false_and, and_false, true_implies, false_implies, not_true_eq_false, not_false_eq_true, eq_self, or_true, true_or, Option.isSome_some, hpf_length, hpa_length, bI_eq0, fi_hpa, fl_hpa, ar_hpf, fi_hpf_ne, fl_hpf_ne, ar_hpa_ne, hpa_hpa, hpf_hpf, nI_1, two_ne, fokZ, implies_true, Nat.reduceEqDiff, g_68_6, sf_68_6, fe_68_6, rc_68, g_68_4, sf_68_4, fe_68_4, hS, f6, h1, m_isW h (show 0 < 19 by decide), m_isW h (show 1 < 19 by decide), m_isW h (show 2 < 19 by decide), m_isW h (show 3 < 19 by decide), m_isW h (show 4 < 19 by decide), m_isW h (show 5 < 19 by decide), m_isW h (show 6 < 19 by decide), m_isW h (show 7 < 19 by decide), Classical.not_not]
    cases hk : isKey xs t
    · obtain ⟨k0, k1, k2, k3, k4, k5, k6, k7⟩ := isKey_false hk
      simp only [k0, k1, k2, k3, k4, k5, k6, k7, oK_some, cont_int, cont_intS, cont_none, cont_noneS, cont_long, cont_longS, true_and, and_true, false_and, and_false, true_implies, false_implies, not_true_eq_false, not_false_eq_true, eq_self, or_true, true_or, Option.isSome_some, hpf_length, hpa_length, bI_eq0, fi_hpa, fl_hpa, ar_hpf, fi_hpf_ne, fl_hpf_ne, ar_hpa_ne, hpa_hpa, hpf_hpf, nI_1, two_ne, fokZ, implies_true, Nat.reduceEqDiff]
      exact hok (by rw [hk]; rfl)
    · have E' := E (by rw [hk]; rfl)
      refine ⟨fun _ => E', fun q0 => ⟨fun _ => E', fun q1 => ⟨fun _ => E', fun q2 => ⟨fun _ => E', fun q3 => ⟨fun _ => E', fun q4 => ⟨fun _ => E', fun q5 => ⟨fun _ => E', fun q6 => ⟨fun q7 => ?_, fun _ => E'⟩⟩⟩⟩⟩⟩⟩⟩
      unfold isKey at hk
      rw [q0, q1, q2, q3, q4, q5, q6, q7] at hk
      exact absurd hk (by decide)
  · have en : pName xs t = false := by unfold pName; rw [decide_eq_false h1, Bool.false_and]
    simp (maxDischargeDepth := 12) only [w202_0, w202_1, w202_4, w202_5, w202_8, w202_9, w202_11, w202_14, w202_17, w202_18, w202_20, w202_23, w202_26, w202_27, w202_29, w202_32, w202_35, w202_36, w202_38, w202_41, w202_44, w202_45, w202_47, w202_50, w202_53, w202_54, w202_56, w202_59, w202_62, w202_63, w202_65, w202_68, w202_71, w202_72, w202_74, w202_77, w202_81, w202_82, w202_83, w202_86, w202_89, oK_some, cont_int, cont_intS, cont_none, cont_noneS, cont_long, cont_longS, true_and, and_true, false_and, and_false, true_implies, false_implies, not_true_eq_false, not_false_eq_true, eq_self, or_true, true_or, Option.isSome_some, hpf_length, hpa_length, bI_eq0, fi_hpa, fl_hpa, ar_hpf, fi_hpf_ne, fl_hpf_ne, ar_hpa_ne, hpa_hpa, hpf_hpf, nI_1, two_ne, fokZ, implies_true, Nat.reduceEqDiff, g_68_6, sf_68_6, fe_68_6, rc_68, g_68_4, sf_68_4, fe_68_4, hS, f6, h1]
    exact E en
theorem m_rowHF (hS : Shp H) (hf : fi H 68 13 = 1) : Wp scr (d + 6) 205 0 [some (.ref 68), none] [] H Q ↔ Q (some (.int 0)) H := by
  refine Wp_iff ?_
  simp (maxDischargeDepth := 12) only [w205_0, w205_1, w205_4, w205_7, w205_8, w205_9, w205_10, w205_13, w205_14, w205_17, w205_20, w205_21, w205_22, w205_23, w205_26, w205_27, w205_28, w205_31, w205_32, w205_33, w205_34, w205_37, w205_40, w205_41, w205_44, w205_47, w205_48, w205_51, w205_52, oK_some, cont_int, cont_intS, cont_none, cont_noneS, cont_long, cont_longS, true_and, and_true, false_and, and_false, true_implies, false_implies, not_true_eq_false, not_false_eq_true, eq_self, or_true, true_or, Option.isSome_some, hpf_length, hpa_length, bI_eq0, fi_hpa, fl_hpa, ar_hpf, fi_hpf_ne, fl_hpf_ne, ar_hpa_ne, hpa_hpa, hpf_hpf, nI_1, two_ne, fokZ, implies_true, Nat.reduceEqDiff, g_68_13, sf_68_13, fe_68_13, rc_68, g_68_4, sf_68_4, fe_68_4, hS, hf, show ((1 : Int32) = 0) = False from eq_false (by decide)]
theorem pName_s (h : pName xs t = true) : t.2.2 = 1 := by
  unfold pName at h
  rw [Bool.and_eq_true] at h
  exact of_decide_eq_true h.1
theorem findR_lt : ∀ k i, findR xs R t k = some i → i < k
  | 0, i, h => by unfold findR at h; exact absurd h (by simp)
  | k + 1, i, h => by
    unfold findR at h
    cases e : findR xs R t k with
    | some i' =>
      rw [e] at h
      have := findR_lt k i' e
      injection h with h
      omega
    | none =>
      rw [e] at h
      change (if nmE xs R t k = true then some k else none) = some i at h
      cases q : nmE xs R t k
      · rw [q] at h; exact absurd h (by simp)
      · rw [q] at h; injection h with h; omega
theorem fdI_neg : (0 ≤ fdI none) = False := eq_false (by decide)
theorem fdI_pos {i : Nat} (h : i < 7) : (0 ≤ fdI (some i)) = True := eq_true ((nI_leI (a := 0) (by decide) (by omega)).mpr (by omega))
theorem M_rowH (h : MP H xs n t R) (hok : ∀ i, pRowH xs R t = .ok i → i < 7 → Q (some (.int (nI i))) H) (her : ∀ c p, pRowH xs R t = .error (c, p) → ∀ H', FgM H H' → ML H' c p → Q (some (.int 0)) H') : Wp scr (d + 6) 205 0 [some (.ref 68), none] [] H Q := by
  have hS := h.shp
  have f4 := h.1.2.2.2.1
  have f13 := h.2.2.2.1
  unfold pRowH at hok her
  simp (maxDischargeDepth := 12) only [w205_0, w205_1, w205_4, w205_7, w205_8, w205_9, w205_10, w205_13, w205_14, w205_17, w205_20, w205_21, w205_22, w205_23, w205_26, w205_27, w205_28, w205_31, w205_32, w205_33, w205_34, w205_37, w205_40, w205_41, w205_44, w205_47, w205_48, w205_51, w205_52, oK_some, cont_int, cont_intS, cont_none, cont_noneS, cont_long, cont_longS, true_and, and_true, false_and, and_false, true_implies, false_implies, not_true_eq_false, not_false_eq_true, eq_self, or_true, true_or, Option.isSome_some, hpf_length, hpa_length, bI_eq0, fi_hpa, fl_hpa, ar_hpf, fi_hpf_ne, fl_hpf_ne, ar_hpa_ne, hpa_hpa, hpf_hpf, nI_1, two_ne, fokZ, implies_true, Nat.reduceEqDiff, g_68_13, sf_68_13, fe_68_13, rc_68, g_68_4, sf_68_4, fe_68_4, hS, f13]
  refine M_mustName h (fun hp => ?_) (fun hp H1 hF1 hL1 => ?_)
  · rw [hp, if_pos rfl] at hok her
    have h1 := pName_s hp
    simp (maxDischargeDepth := 12) only [w205_0, w205_1, w205_4, w205_7, w205_8, w205_9, w205_10, w205_13, w205_14, w205_17, w205_20, w205_21, w205_22, w205_23, w205_26, w205_27, w205_28, w205_31, w205_32, w205_33, w205_34, w205_37, w205_40, w205_41, w205_44, w205_47, w205_48, w205_51, w205_52, oK_some, cont_int, cont_intS, cont_none, cont_noneS, cont_long, cont_longS, true_and, and_true, false_and, and_false, true_implies, false_implies, not_true_eq_false, not_false_eq_true, eq_self, or_true, true_or, Option.isSome_some, hpf_length, hpa_length, bI_eq0, fi_hpa, fl_hpa, ar_hpf, fi_hpf_ne, fl_hpf_ne, ar_hpa_ne, hpa_hpa, hpf_hpf, nI_1, two_ne, fokZ, implies_true, Nat.reduceEqDiff, g_68_13, sf_68_13, fe_68_13, rc_68, g_68_4, sf_68_4, fe_68_4, hS, f13, M_find h h1]
    cases e : findR xs R t 7 with
    | some i =>
      rw [e] at hok
      have hi := findR_lt _ _ e
      simp (maxDischargeDepth := 12) only [w205_0, w205_1, w205_4, w205_7, w205_8, w205_9, w205_10, w205_13, w205_14, w205_17, w205_20, w205_21, w205_22, w205_23, w205_26, w205_27, w205_28, w205_31, w205_32, w205_33, w205_34, w205_37, w205_40, w205_41, w205_44, w205_47, w205_48, w205_51, w205_52, oK_some, cont_int, cont_intS, cont_none, cont_noneS, cont_long, cont_longS, true_and, and_true, false_and, and_false, true_implies, false_implies, not_true_eq_false, not_false_eq_true, eq_self, or_true, true_or, Option.isSome_some, hpf_length, hpa_length, bI_eq0, fi_hpa, fl_hpa, ar_hpf, fi_hpf_ne, fl_hpf_ne, ar_hpa_ne, hpa_hpa, hpf_hpf, nI_1, two_ne, fokZ, implies_true, Nat.reduceEqDiff, g_68_13, sf_68_13, fe_68_13, rc_68, g_68_4, sf_68_4, fe_68_4, hS, f13, fdI_pos hi]
      exact hok i rfl hi
    | none =>
      rw [e] at her
      simp (maxDischargeDepth := 12) only [w205_0, w205_1, w205_4, w205_7, w205_8, w205_9, w205_10, w205_13, w205_14, w205_17, w205_20, w205_21, w205_22, w205_23, w205_26, w205_27, w205_28, w205_31, w205_32, w205_33, w205_34, w205_37, w205_40, w205_41, w205_44, w205_47, w205_48, w205_51, w205_52, oK_some, cont_int, cont_intS, cont_none, cont_noneS, cont_long, cont_longS, true_and, and_true, false_and, and_false, true_implies, false_implies, not_true_eq_false, not_false_eq_true, eq_self, or_true, true_or, Option.isSome_some, hpf_length, hpa_length, bI_eq0, fi_hpa, fl_hpa, ar_hpf, fi_hpf_ne, fl_hpf_ne, ar_hpa_ne, hpa_hpa, hpf_hpf, nI_1, two_ne, fokZ, implies_true, Nat.reduceEqDiff, g_68_13, sf_68_13, fe_68_13, rc_68, g_68_4, sf_68_4, fe_68_4, hS, f4, fdI_neg]
      refine M_wrong h (fun H' hF hL => ?_)
      have hs := hF.shp
      simp (maxDischargeDepth := 12) only [w205_0, w205_1, w205_4, w205_7, w205_8, w205_9, w205_10, w205_13, w205_14, w205_17, w205_20, w205_21, w205_22, w205_23, w205_26, w205_27, w205_28, w205_31, w205_32, w205_33, w205_34, w205_37, w205_40, w205_41, w205_44, w205_47, w205_48, w205_51, w205_52, oK_some, cont_int, cont_intS, cont_none, cont_noneS, cont_long, cont_longS, true_and, and_true, false_and, and_false, true_implies, false_implies, not_true_eq_false, not_false_eq_true, eq_self, or_true, true_or, Option.isSome_some, hpf_length, hpa_length, bI_eq0, fi_hpa, fl_hpa, ar_hpf, fi_hpf_ne, fl_hpf_ne, ar_hpa_ne, hpa_hpa, hpf_hpf, nI_1, two_ne, fokZ, implies_true, Nat.reduceEqDiff, g_68_13, sf_68_13, fe_68_13, rc_68, g_68_4, sf_68_4, fe_68_4, hF.len, hs, hL.2.1, show ((1 : Int32) = 0) = False from eq_false (by decide)]
      exact her _ _ rfl H' hF hL
  · rw [hp, if_neg (by decide)] at her
    have hs := hF1.shp
    simp (maxDischargeDepth := 12) only [w205_0, w205_1, w205_4, w205_7, w205_8, w205_9, w205_10, w205_13, w205_14, w205_17, w205_20, w205_21, w205_22, w205_23, w205_26, w205_27, w205_28, w205_31, w205_32, w205_33, w205_34, w205_37, w205_40, w205_41, w205_44, w205_47, w205_48, w205_51, w205_52, oK_some, cont_int, cont_intS, cont_none, cont_noneS, cont_long, cont_longS, true_and, and_true, false_and, and_false, true_implies, false_implies, not_true_eq_false, not_false_eq_true, eq_self, or_true, true_or, Option.isSome_some, hpf_length, hpa_length, bI_eq0, fi_hpa, fl_hpa, ar_hpf, fi_hpf_ne, fl_hpf_ne, ar_hpa_ne, hpa_hpa, hpf_hpf, nI_1, two_ne, fokZ, implies_true, Nat.reduceEqDiff, g_68_13, sf_68_13, fe_68_13, rc_68, g_68_4, sf_68_4, fe_68_4, hF1.len, hs, hL1.2.1, show ((1 : Int32) = 0) = False from eq_false (by decide)]
    exact her _ _ rfl H1 hF1 hL1
theorem m_rowF (hS : Shp H) (hf : fi H 68 13 = 1) : Wp scr (d + 7) 206 0 [some (.ref 68), none] [] H Q ↔ Q (some (.int 0)) H := by
  refine Wp_iff ?_
  simp (maxDischargeDepth := 12) only [w206_0, w206_1, w206_4, w206_5, w206_6, w206_9, w206_12, w206_13, w206_16, w206_17, oK_some, cont_int, cont_intS, cont_none, cont_noneS, cont_long, cont_longS, true_and, and_true, false_and, and_false, true_implies, false_implies, not_true_eq_false, not_false_eq_true, eq_self, or_true, true_or, Option.isSome_some, hpf_length, hpa_length, bI_eq0, fi_hpa, fl_hpa, ar_hpf, fi_hpf_ne, fl_hpf_ne, ar_hpa_ne, hpa_hpa, hpf_hpf, nI_1, two_ne, fokZ, implies_true, Nat.reduceEqDiff, rc_68, g_68_13, sf_68_13, fe_68_13, hS, m_rowHF hS hf, hf, show ((1 : Int32) = 0) = False from eq_false (by decide)]
theorem M_rowP (h : MP H xs n t R) (hok : ∀ i t', pRow xs n R t = .ok (i, t') → i < 7 → ∀ H', FgM H H' → MP H' xs n t' R → Q (some (.int (nI i))) H') (her : ∀ c p, pRow xs n R t = .error (c, p) → ∀ H', FgM H H' → ML H' c p → Q (some (.int 0)) H') : Wp scr (d + 7) 206 0 [some (.ref 68), none] [] H Q := by
  have hS := h.shp
  unfold pRow at hok her
  simp (maxDischargeDepth := 12) only [w206_0, w206_1, w206_4, w206_5, w206_6, w206_9, w206_12, w206_13, w206_16, w206_17, oK_some, cont_int, cont_intS, cont_none, cont_noneS, cont_long, cont_longS, true_and, and_true, false_and, and_false, true_implies, false_implies, not_true_eq_false, not_false_eq_true, eq_self, or_true, true_or, Option.isSome_some, hpf_length, hpa_length, bI_eq0, fi_hpa, fl_hpa, ar_hpf, fi_hpf_ne, fl_hpf_ne, ar_hpa_ne, hpa_hpa, hpf_hpf, nI_1, two_ne, fokZ, implies_true, Nat.reduceEqDiff, rc_68, g_68_13, sf_68_13, fe_68_13, hS]
  refine M_rowH h (fun i e1 hi => ?_) (fun c p e1 H1 hF1 hL1 => ?_)
  · rw [e1] at hok
    simp (maxDischargeDepth := 12) only [w206_0, w206_1, w206_4, w206_5, w206_6, w206_9, w206_12, w206_13, w206_16, w206_17, oK_some, cont_int, cont_intS, cont_none, cont_noneS, cont_long, cont_longS, true_and, and_true, false_and, and_false, true_implies, false_implies, not_true_eq_false, not_false_eq_true, eq_self, or_true, true_or, Option.isSome_some, hpf_length, hpa_length, bI_eq0, fi_hpa, fl_hpa, ar_hpf, fi_hpf_ne, fl_hpf_ne, ar_hpa_ne, hpa_hpa, hpf_hpf, nI_1, two_ne, fokZ, implies_true, Nat.reduceEqDiff, rc_68, g_68_13, sf_68_13, fe_68_13, hS, h.2.2.2.1]
    refine M_nx h (fun H' hF hP => ?_)
    have hs := hF.shp
    simp (maxDischargeDepth := 12) only [w206_0, w206_1, w206_4, w206_5, w206_6, w206_9, w206_12, w206_13, w206_16, w206_17, oK_some, cont_int, cont_intS, cont_none, cont_noneS, cont_long, cont_longS, true_and, and_true, false_and, and_false, true_implies, false_implies, not_true_eq_false, not_false_eq_true, eq_self, or_true, true_or, Option.isSome_some, hpf_length, hpa_length, bI_eq0, fi_hpa, fl_hpa, ar_hpf, fi_hpf_ne, fl_hpf_ne, ar_hpa_ne, hpa_hpa, hpf_hpf, nI_1, two_ne, fokZ, implies_true, Nat.reduceEqDiff, rc_68, g_68_13, sf_68_13, fe_68_13, hF.len, hs]
    exact hok _ _ rfl hi H' hF hP
  · rw [e1] at her
    have hs := hF1.shp
    simp (maxDischargeDepth := 12) only [w206_0, w206_1, w206_4, w206_5, w206_6, w206_9, w206_12, w206_13, w206_16, w206_17, oK_some, cont_int, cont_intS, cont_none, cont_noneS, cont_long, cont_longS, true_and, and_true, false_and, and_false, true_implies, false_implies, not_true_eq_false, not_false_eq_true, eq_self, or_true, true_or, Option.isSome_some, hpf_length, hpa_length, bI_eq0, fi_hpa, fl_hpa, ar_hpf, fi_hpf_ne, fl_hpf_ne, ar_hpa_ne, hpa_hpa, hpf_hpf, nI_1, two_ne, fokZ, implies_true, Nat.reduceEqDiff, rc_68, g_68_13, sf_68_13, fe_68_13, hF1.len, hs, hL1.2.1, show ((1 : Int32) = 0) = False from eq_false (by decide)]
    exact her _ _ rfl H1 hF1 hL1
end MREAD2
