/-! ===== words ===== -/
theorem bytC : ∀ w ∈ bytS, w.length ≤ 8 ∧ ∀ v ∈ w, ((v &&& 255).toUInt32 % 65536).toInt32 = v ∧ (v.toUInt32 % 65536).toInt32 = v := by decide +kernel
theorem bytL : bytS.length = 19 := by decide +kernel
theorem bytM {j : Nat} (hj : j < 19) : bytS.getD j [] ∈ bytS := by
  rw [show bytS.getD j [] = bytS[j]'(by rw [bytL]; exact hj) from by simp [List.getD, List.getElem?_eq_getElem (show j < bytS.length by rw [bytL]; exact hj)]]
  exact List.getElem_mem _
theorem bytK {w : List Int32} {k : Nat} (hk : k < w.length) : w.getD k 0 ∈ w := by
  rw [show w.getD k 0 = w[k] from by simp [List.getD, List.getElem?_eq_getElem hk]]
  exact List.getElem_mem _
theorem nI_eqI {a b : Nat} (ha : a < 2147483648) (hb : b < 2147483648) : nI a = nI b ↔ a = b := by
  refine ⟨fun h => ?_, fun h => by rw [h]⟩
  have := congrArg Int32.toNatClampNeg h
  rwa [nI_clamp ha, nI_clamp hb] at this
theorem tkT_lt {xs : List Int32} {n a : Nat} : (tkT xs n a).1 < 5 := by
  unfold tkT
  by_cases h1 : n ≤ a
  · rw [if_pos h1]; show 0 < 5; decide
  · rw [if_neg h1]
    by_cases h2 : isL (xs.getD a 0) = true
    · rw [if_pos h2]; show (if tkL xs n a - a ≤ 8 then 1 else 4) < 5
      by_cases q : tkL xs n a - a ≤ 8
      · rw [if_pos q]; decide
      · rw [if_neg q]; decide
    · rw [if_neg h2]
      by_cases h3 : isD (xs.getD a 0) = true
      · rw [if_pos h3]; show (if tkD xs n a - a ≤ 3 then 2 else 4) < 5
        by_cases q : tkD xs n a - a ≤ 3
        · rw [if_pos q]; decide
        · rw [if_neg q]; decide
      · rw [if_neg h3]; show (if xs.getD a 0 = 59 then 3 else 4) < 5
        by_cases q : xs.getD a 0 = 59
        · rw [if_pos q]; decide
        · rw [if_neg q]; decide
theorem tkT_ge {xs : List Int32} {n a : Nat} : a ≤ (tkT xs n a).2 := by
  unfold tkT
  by_cases h1 : n ≤ a
  · rw [if_pos h1]; exact Nat.le_refl _
  · rw [if_neg h1]
    by_cases h2 : isL (xs.getD a 0) = true
    · rw [if_pos h2]; exact sk_le
    · rw [if_neg h2]
      by_cases h3 : isD (xs.getD a 0) = true
      · rw [if_pos h3]; exact sk_le
      · rw [if_neg h3]; show a ≤ a + 1; omega
section WORDS
variable {scr : List Int32} {d n p j k : Nat} {c : Int32} {H : List AC} {Q : Option Value → List AC → Prop}
theorem c_strLen (hj : j < 19) : Wp scr (d + 1) 308 0 [some (.retAddr j)] [] H Q ↔ Q (some (.int (nI (bytS.getD j []).length))) H := by
  refine Wp_iff ?_
  have hj2 : j < 200 := by omega
  have nb : narrow .byte (.int 0) = .int 0 := rfl
  simp only [w308_0, w308_1, w308_4, w308_5, w308_6, w308_9, w308_10, w310_0, w310_3, w310_6, w310_7, w310_10, w310_13, w310_14, oK_some, cont_int, cont_intS, cont_none, cont_noneS, cont_long, cont_longS, true_and, and_true, false_and, and_false, true_implies, false_implies, not_true_eq_false, not_false_eq_true, eq_self, or_true, true_or, Option.isSome_some, hpf_length, hpa_length, bI_eq0, fi_hpa, fl_hpa, ar_hpf, fi_hpf_ne, fl_hpf_ne, ar_hpa_ne, hpa_hpa, hpf_hpf, nI_1, two_ne, fokZ, implies_true, Nat.reduceEqDiff, hj, hj2, nb, show ((1 : Int32) = 0) = False from eq_false (by decide), show ((0 : Int32) &&& 31) = 0 from rfl, Int32.shiftRight_zero]
  rfl
theorem nr_char {v : Int32} (h : (v.toUInt32 % 65536).toInt32 = v) : narrow .char (.int v) = .int v := by
  simp [narrow, h]
theorem c_charAt (hj : j < 19) (hk : k < (bytS.getD j []).length) : Wp scr (d + 3) 309 0 [some (.retAddr j), some (.int (nI k))] [] H Q ↔ Q (some (.int ((bytS.getD j []).getD k 0))) H := by
  refine Wp_iff ?_
  have hj2 : j < 200 := by omega
  obtain ⟨h8, hv⟩ := bytC _ (bytM hj)
  have hc := nr_char (hv _ (bytK hk)).2
  have hv := (hv _ (bytK hk)).1
  have e1 : (nI k < 0) = False := eq_false (fun q => absurd ((nI_ltI (b := 0) (by omega) (by omega)).mp q) (by omega))
  have e2 : (nI k < Int32.ofNat (bytS.getD j []).length) = True := eq_true ((nI_ltI (by omega) (by omega)).mpr hk)
  simp only [w309_0, w309_1, w309_4, w309_7, w309_8, w309_11, w309_12, w309_15, w309_16, w309_17, w309_20, w311_0, w311_3, w311_6, w311_7, w311_10, w311_13, w311_14, w311_17, w311_18, w312_0, w312_1, w312_2, w312_5, w312_8, w312_9, w313_0, w313_1, w313_2, w313_3, w313_6, w313_7, w313_8, w313_9, w313_12, w313_13, w313_14, w314_0, w314_1, w314_4, w314_5, w314_6, w314_10, w314_11, w314_16, w314_17, oK_some, cont_int, cont_intS, cont_none, cont_noneS, cont_long, cont_longS, true_and, and_true, false_and, and_false, true_implies, false_implies, not_true_eq_false, not_false_eq_true, eq_self, or_true, true_or, Option.isSome_some, hpf_length, hpa_length, bI_eq0, fi_hpa, fl_hpa, ar_hpf, fi_hpf_ne, fl_hpf_ne, ar_hpa_ne, hpa_hpa, hpf_hpf, nI_1, two_ne, fokZ, implies_true, Nat.reduceEqDiff, hj, hj2, show ((1 : Int32) = 0) = False from eq_false (by decide), e1, e2, inb_nI (show k < 2147483648 by omega), decide_eq_true hk, nI_clamp (show k < 2147483648 by omega), hv, hc]
  exact ⟨by omega, by omega⟩
/-- two runs of letters are alike -/
def eqp (xs : List Int32) (a : Nat) (w : List Int32) (k : Nat) : Bool := decide (∀ i, i < k → xs.getD (a + i) 0 = w.getD i 0)
theorem eqp_zero {xs w : List Int32} {a : Nat} : eqp xs a w 0 = true := decide_eq_true (fun i hi => absurd hi (Nat.not_lt_zero _))
theorem eqp_succ {xs w : List Int32} {a k : Nat} : eqp xs a w (k + 1) = (eqp xs a w k && decide (xs.getD (a + k) 0 = w.getD k 0)) := by
  unfold eqp
  rw [Bool.eq_iff_iff, Bool.and_eq_true, decide_eq_true_iff, decide_eq_true_iff, decide_eq_true_iff]
  refine ⟨fun h => ⟨fun i hi => h i (by omega), h k (by omega)⟩, fun h i hi => ?_⟩
  by_cases e : i = k
  · rw [e]; exact h.2
  · exact h.1 i (by omega)
/-- the token is this word -/
def isW (xs : List Int32) (a e s j : Nat) : Bool := decide (s = 1) && (decide (e - a = (bytS.getD j []).length) && eqp xs a (bytS.getD j []) (bytS.getD j []).length)
theorem m_isWordF (hS : Shp H) (hf : fi H 68 13 = 1) : Wp scr (d + 4) 199 0 [some (.ref 68), some (.retAddr j), none, none] [] H Q ↔ Q (some (.int 0)) H := by
  refine Wp_iff ?_
  simp (maxDischargeDepth := 12) only [w199_0, w199_1, w199_4, w199_7, w199_8, w199_11, w199_12, w199_15, w199_16, w199_19, w199_20, w199_23, w199_26, w199_27, w199_28, w199_29, w199_30, w199_31, w199_33, w199_34, w199_37, w199_40, w199_41, w199_44, w199_45, w199_48, w199_49, w199_50, w199_51, w199_52, w199_55, w199_58, w199_59, w199_62, w199_63, w199_64, w199_67, w199_70, w199_71, oK_some, cont_int, cont_intS, cont_none, cont_noneS, cont_long, cont_longS, true_and, and_true, false_and, and_false, true_implies, false_implies, not_true_eq_false, not_false_eq_true, eq_self, or_true, true_or, Option.isSome_some, hpf_length, hpa_length, bI_eq0, fi_hpa, fl_hpa, ar_hpf, fi_hpf_ne, fl_hpf_ne, ar_hpa_ne, hpa_hpa, hpf_hpf, nI_1, two_ne, fokZ, implies_true, Nat.reduceEqDiff, g_68_13, sf_68_13, fe_68_13, g_68_6, sf_68_6, fe_68_6, g_68_8, sf_68_8, fe_68_8, g_68_12, ga_70, gn_70, sa_70, ae_70, kl_0, kl_1, kl_2, kl_3, kl_4, kl_5, kl_6, kl_7, kl_8, kl_9, kl_10, kl_11, kl_12, jb_0_8, jb_1_8, jb_2_8, jb_3_8, jb_4_8, jb_5_8, jb_6_8, jb_7_8, hS, hf, show ((1 : Int32) = 0) = False from eq_false (by decide)]
theorem M_isWord {a e s : Nat} (hT : MT H n a e s) (hf : fi H 68 13 = 0) (hj : j < 19) : Wp scr (d + 4) 199 0 [some (.ref 68), some (.retAddr j), none, none] [] H Q ↔ Q (some (.int (bI (isW (ar H 69) a e s j)))) H := by
  refine Wp_iff ?_
  obtain ⟨hS, hn, h9, f4, f5, f6, ha, he, et, h1, h2⟩ := hT
  have i1 : ∀ a : Nat, nI a + 1 = nI (a + 1) := fun a => ixa a 1 (v := 1) rfl
  have h8 := (bytC _ (bytM hj)).1
  have hj2 : j < 200 := by omega
  by_cases hs : s = 1
  · obtain ⟨f8, hl⟩ := h1 hs
    have m6 : (fi H 68 6 = 2) = True := by rw [f6, hs]; exact eq_true rfl
    unfold isW
    rw [decide_eq_true hs, Bool.true_and]
    by_cases hm : e - a = (bytS.getD j []).length
    · rw [decide_eq_true hm, Bool.true_and, ← hm]
      rw [hm] at f8 hl
      have key := down (P := fun k => Wp scr (d + 4) 199 32 [some (.ref 68), some (.retAddr j), some (.int (bI (eqp (ar H 69) a (bytS.getD j []) k))), some (.int (nI k))] [] H (fun r H' => r = some (.int (bI (eqp (ar H 69) a (bytS.getD j []) (bytS.getD j []).length))) ∧ H' = H)) (bytS.getD j []).length ?_ ?_
      · simp (maxDischargeDepth := 12) only [w199_0, w199_1, w199_4, w199_7, w199_8, w199_11, w199_12, w199_15, w199_16, w199_19, w199_20, w199_23, w199_26, w199_27, w199_28, w199_29, w199_30, w199_31, w199_33, w199_34, w199_37, w199_40, w199_41, w199_44, w199_45, w199_48, w199_49, w199_50, w199_51, w199_52, w199_55, w199_58, w199_59, w199_62, w199_63, w199_64, w199_67, w199_70, w199_71, oK_some, cont_int, cont_intS, cont_none, cont_noneS, cont_long, cont_longS, true_and, and_true, false_and, and_false, true_implies, false_implies, not_true_eq_false, not_false_eq_true, eq_self, or_true, true_or, Option.isSome_some, hpf_length, hpa_length, bI_eq0, fi_hpa, fl_hpa, ar_hpf, fi_hpf_ne, fl_hpf_ne, ar_hpa_ne, hpa_hpa, hpf_hpf, nI_1, two_ne, fokZ, implies_true, Nat.reduceEqDiff, g_68_13, sf_68_13, fe_68_13, g_68_6, sf_68_6, fe_68_6, g_68_8, sf_68_8, fe_68_8, g_68_12, ga_70, gn_70, sa_70, ae_70, kl_0, kl_1, kl_2, kl_3, kl_4, kl_5, kl_6, kl_7, kl_8, kl_9, kl_10, kl_11, kl_12, jb_0_8, jb_1_8, jb_2_8, jb_3_8, jb_4_8, jb_5_8, jb_6_8, jb_7_8, hS, hf, m6, f8, c_strLen hj, hj, hj2, hm]
        exact key
      · rw [w199_32]
        simp (maxDischargeDepth := 12) only [w199_0, w199_1, w199_4, w199_7, w199_8, w199_11, w199_12, w199_15, w199_16, w199_19, w199_20, w199_23, w199_26, w199_27, w199_28, w199_29, w199_30, w199_31, w199_33, w199_34, w199_37, w199_40, w199_41, w199_44, w199_45, w199_48, w199_49, w199_50, w199_51, w199_52, w199_55, w199_58, w199_59, w199_62, w199_63, w199_64, w199_67, w199_70, w199_71, oK_some, cont_int, cont_intS, cont_none, cont_noneS, cont_long, cont_longS, true_and, and_true, false_and, and_false, true_implies, false_implies, not_true_eq_false, not_false_eq_true, eq_self, or_true, true_or, Option.isSome_some, hpf_length, hpa_length, bI_eq0, fi_hpa, fl_hpa, ar_hpf, fi_hpf_ne, fl_hpf_ne, ar_hpa_ne, hpa_hpa, hpf_hpf, nI_1, two_ne, fokZ, implies_true, Nat.reduceEqDiff, g_68_13, sf_68_13, fe_68_13, g_68_6, sf_68_6, fe_68_6, g_68_8, sf_68_8, fe_68_8, g_68_12, ga_70, gn_70, sa_70, ae_70, kl_0, kl_1, kl_2, kl_3, kl_4, kl_5, kl_6, kl_7, kl_8, kl_9, kl_10, kl_11, kl_12, jb_0_8, jb_1_8, jb_2_8, jb_3_8, jb_4_8, jb_5_8, jb_6_8, jb_7_8, hS, f8, nI_les, w199_71 (bI_or _)]
      · intro k hk hw
        rw [eqp_succ] at hw
        rw [w199_32]
        simp (maxDischargeDepth := 12) only [w199_0, w199_1, w199_4, w199_7, w199_8, w199_11, w199_12, w199_15, w199_16, w199_19, w199_20, w199_23, w199_26, w199_27, w199_28, w199_29, w199_30, w199_31, w199_33, w199_34, w199_37, w199_40, w199_41, w199_44, w199_45, w199_48, w199_49, w199_50, w199_51, w199_52, w199_55, w199_58, w199_59, w199_62, w199_63, w199_64, w199_67, w199_70, w199_71, oK_some, cont_int, cont_intS, cont_none, cont_noneS, cont_long, cont_longS, true_and, and_true, false_and, and_false, true_implies, false_implies, not_true_eq_false, not_false_eq_true, eq_self, or_true, true_or, Option.isSome_some, hpf_length, hpa_length, bI_eq0, fi_hpa, fl_hpa, ar_hpf, fi_hpf_ne, fl_hpf_ne, ar_hpa_ne, hpa_hpa, hpf_hpf, nI_1, two_ne, fokZ, implies_true, Nat.reduceEqDiff, g_68_13, sf_68_13, fe_68_13, g_68_6, sf_68_6, fe_68_6, g_68_8, sf_68_8, fe_68_8, g_68_12, ga_70, gn_70, sa_70, ae_70, kl_0, kl_1, kl_2, kl_3, kl_4, kl_5, kl_6, kl_7, kl_8, kl_9, kl_10, kl_11, kl_12, jb_0_8, jb_1_8, jb_2_8, jb_3_8, jb_4_8, jb_5_8, jb_6_8, jb_7_8, hS, f8, nI_lef hk (by omega), i1, hj2, c_charAt hj hk, hj, inb_nI (show k < 2147483648 by omega), decide_eq_true (show k < 8 by omega), nI_clamp (show k < 2147483648 by omega), hl k hk]
        cases hq : eqp (ar H 69) a (bytS.getD j []) k
        · rw [hq, Bool.false_and] at hw
          simp only [oK_some, cont_int, cont_intS, cont_none, cont_noneS, cont_long, cont_longS, true_and, and_true, false_and, and_false, true_implies, false_implies, not_true_eq_false, not_false_eq_true, eq_self, or_true, true_or, Option.isSome_some, hpf_length, hpa_length, bI_eq0, fi_hpa, fl_hpa, ar_hpf, fi_hpf_ne, fl_hpf_ne, ar_hpa_ne, hpa_hpa, hpf_hpf, nI_1, two_ne, fokZ, implies_true, Nat.reduceEqDiff]
          exact hw
        · rw [hq, Bool.true_and] at hw
          simp only [oK_some, cont_int, cont_intS, cont_none, cont_noneS, cont_long, cont_longS, true_and, and_true, false_and, and_false, true_implies, false_implies, not_true_eq_false, not_false_eq_true, eq_self, or_true, true_or, Option.isSome_some, hpf_length, hpa_length, bI_eq0, fi_hpa, fl_hpa, ar_hpf, fi_hpf_ne, fl_hpf_ne, ar_hpa_ne, hpa_hpa, hpf_hpf, nI_1, two_ne, fokZ, implies_true, Nat.reduceEqDiff, Bool.true_eq_false]
          by_cases hc : (ar H 69).getD (a + k) 0 = (bytS.getD j []).getD k 0
          · rw [decide_eq_true hc] at hw
            simp only [hc, oK_some, cont_int, cont_intS, cont_none, cont_noneS, cont_long, cont_longS, true_and, and_true, false_and, and_false, true_implies, false_implies, not_true_eq_false, not_false_eq_true, eq_self, or_true, true_or, Option.isSome_some, hpf_length, hpa_length, bI_eq0, fi_hpa, fl_hpa, ar_hpf, fi_hpf_ne, fl_hpf_ne, ar_hpa_ne, hpa_hpa, hpf_hpf, nI_1, two_ne, fokZ, implies_true, Nat.reduceEqDiff]
            exact hw
          · rw [decide_eq_false hc] at hw
            simp only [hc, oK_some, cont_int, cont_intS, cont_none, cont_noneS, cont_long, cont_longS, true_and, and_true, false_and, and_false, true_implies, false_implies, not_true_eq_false, not_false_eq_true, eq_self, or_true, true_or, Option.isSome_some, hpf_length, hpa_length, bI_eq0, fi_hpa, fl_hpa, ar_hpf, fi_hpf_ne, fl_hpf_ne, ar_hpa_ne, hpa_hpa, hpf_hpf, nI_1, two_ne, fokZ, implies_true, Nat.reduceEqDiff]
            exact hw
    · rw [decide_eq_false hm, Bool.false_and]
      have ne : (nI (e - a) = nI (bytS.getD j []).length) = False := eq_false (fun q => hm ((nI_eqI (by omega) (by omega)).mp q))
      simp (maxDischargeDepth := 12) only [w199_0, w199_1, w199_4, w199_7, w199_8, w199_11, w199_12, w199_15, w199_16, w199_19, w199_20, w199_23, w199_26, w199_27, w199_28, w199_29, w199_30, w199_31, w199_33, w199_34, w199_37, w199_40, w199_41, w199_44, w199_45, w199_48, w199_49, w199_50, w199_51, w199_52, w199_55, w199_58, w199_59, w199_62, w199_63, w199_64, w199_67, w199_70, w199_71, oK_some, cont_int, cont_intS, cont_none, cont_noneS, cont_long, cont_longS, true_and, and_true, false_and, and_false, true_implies, false_implies, not_true_eq_false, not_false_eq_true, eq_self, or_true, true_or, Option.isSome_some, hpf_length, hpa_length, bI_eq0, fi_hpa, fl_hpa, ar_hpf, fi_hpf_ne, fl_hpf_ne, ar_hpa_ne, hpa_hpa, hpf_hpf, nI_1, two_ne, fokZ, implies_true, Nat.reduceEqDiff, g_68_13, sf_68_13, fe_68_13, g_68_6, sf_68_6, fe_68_6, g_68_8, sf_68_8, fe_68_8, g_68_12, ga_70, gn_70, sa_70, ae_70, kl_0, kl_1, kl_2, kl_3, kl_4, kl_5, kl_6, kl_7, kl_8, kl_9, kl_10, kl_11, kl_12, jb_0_8, jb_1_8, jb_2_8, jb_3_8, jb_4_8, jb_5_8, jb_6_8, jb_7_8, hS, hf, m6, f8, c_strLen hj, hj, hj2, ne]
      rfl
  · have m6 : (fi H 68 6 = 2) = False := by
      rw [f6]
      refine eq_false (fun q => ?_)
      unfold mtk at q
      by_cases q0 : s = 0
      · rw [if_pos q0] at q; exact absurd q (by decide)
      · rw [if_neg q0, if_neg hs] at q
        by_cases q2 : s = 2
        · rw [if_pos q2] at q; exact absurd q (by decide)
        · rw [if_neg q2] at q
          by_cases q3 : s = 3
          · rw [if_pos q3] at q; exact absurd q (by decide)
          · rw [if_neg q3] at q; exact absurd q (by decide)
    unfold isW
    rw [decide_eq_false hs, Bool.false_and]
    simp (maxDischargeDepth := 12) only [w199_0, w199_1, w199_4, w199_7, w199_8, w199_11, w199_12, w199_15, w199_16, w199_19, w199_20, w199_23, w199_26, w199_27, w199_28, w199_29, w199_30, w199_31, w199_33, w199_34, w199_37, w199_40, w199_41, w199_44, w199_45, w199_48, w199_49, w199_50, w199_51, w199_52, w199_55, w199_58, w199_59, w199_62, w199_63, w199_64, w199_67, w199_70, w199_71, oK_some, cont_int, cont_intS, cont_none, cont_noneS, cont_long, cont_longS, true_and, and_true, false_and, and_false, true_implies, false_implies, not_true_eq_false, not_false_eq_true, eq_self, or_true, true_or, Option.isSome_some, hpf_length, hpa_length, bI_eq0, fi_hpa, fl_hpa, ar_hpf, fi_hpf_ne, fl_hpf_ne, ar_hpa_ne, hpa_hpa, hpf_hpf, nI_1, two_ne, fokZ, implies_true, Nat.reduceEqDiff, g_68_13, sf_68_13, fe_68_13, g_68_6, sf_68_6, fe_68_6, g_68_8, sf_68_8, fe_68_8, g_68_12, ga_70, gn_70, sa_70, ae_70, kl_0, kl_1, kl_2, kl_3, kl_4, kl_5, kl_6, kl_7, kl_8, kl_9, kl_10, kl_11, kl_12, jb_0_8, jb_1_8, jb_2_8, jb_3_8, jb_4_8, jb_5_8, jb_6_8, jb_7_8, hS, hf, m6]
    rfl
theorem C_isWord {a e s : Nat} (hT : CT H n a e s) (hj : j < 19) : Wp scr (d + 4) 35 0 [some (.ref 29), some (.retAddr j), none] [] H Q ↔ Q (some (.int (bI (isW (ar H 2) a e s j)))) H := by
  refine Wp_iff ?_
  obtain ⟨hS, hn, h9, f3, f4, f5, ha, he, et⟩ := hT
  have i1 : ∀ a : Nat, nI a + 1 = nI (a + 1) := fun a => ixa a 1 (v := 1) rfl
  have h8 := (bytC _ (bytM hj)).1
  have hj2 : j < 200 := by omega
  have hs5 : s < 5 := by
    have := congrArg Prod.fst et
    change s = _ at this
    rw [this]
    exact tkT_lt
  have e5 : (fi H 29 5 = 1) = (s = 1) := by rw [f5]; exact propext (nI_eqI (b := 1) (by omega) (by decide))
  have hae : a ≤ e := by
    have := congrArg Prod.snd et
    change e = _ at this
    rw [this]
    exact tkT_ge
  unfold isW
  by_cases hs : s = 1
  · rw [decide_eq_true hs, Bool.true_and]
    by_cases hm : e - a = (bytS.getD j []).length
    · rw [decide_eq_true hm, Bool.true_and]
      have key := down (P := fun k => eqp (ar H 2) a (bytS.getD j []) k = true → Wp scr (d + 4) 35 28 [some (.ref 29), some (.retAddr j), some (.int (nI k))] [] H (fun r H' => r = some (.int (bI (eqp (ar H 2) a (bytS.getD j []) (bytS.getD j []).length))) ∧ H' = H)) (bytS.getD j []).length ?_ ?_
      · simp (maxDischargeDepth := 12) only [w35_0, w35_1, w35_4, w35_5, w35_8, w35_9, w35_12, w35_13, w35_16, w35_17, w35_18, w35_21, w35_24, w35_25, w35_26, w35_27, w35_29, w35_30, w35_33, w35_36, w35_37, w35_40, w35_41, w35_44, w35_45, w35_46, w35_49, w35_50, w35_51, w35_54, w35_57, w35_58, w35_59, w35_62, w35_65, w35_66, oK_some, cont_int, cont_intS, cont_none, cont_noneS, cont_long, cont_longS, true_and, and_true, false_and, and_false, true_implies, false_implies, not_true_eq_false, not_false_eq_true, eq_self, or_true, true_or, Option.isSome_some, hpf_length, hpa_length, bI_eq0, fi_hpa, fl_hpa, ar_hpf, fi_hpf_ne, fl_hpf_ne, ar_hpa_ne, hpa_hpa, hpf_hpf, nI_1, two_ne, fokZ, implies_true, Nat.reduceEqDiff, g_29_5, sf_29_5, fe_29_5, g_29_4, sf_29_4, fe_29_4, g_29_3, sf_29_3, fe_29_3, g_29_0, rc_1, rc_31, rc_35, rc_37, rc_39, rc_41, rc_46, rc_48, rc_50, rc_53, rc_55, rc_57, rc_59, rc_63, rc_66, hS, f3, f4, e5, hs, nI_subI hae, c_strLen hj, hj, hj2, hm]
        exact key eqp_zero
      · intro hq
        rw [w35_28]
        simp (maxDischargeDepth := 12) only [w35_0, w35_1, w35_4, w35_5, w35_8, w35_9, w35_12, w35_13, w35_16, w35_17, w35_18, w35_21, w35_24, w35_25, w35_26, w35_27, w35_29, w35_30, w35_33, w35_36, w35_37, w35_40, w35_41, w35_44, w35_45, w35_46, w35_49, w35_50, w35_51, w35_54, w35_57, w35_58, w35_59, w35_62, w35_65, w35_66, oK_some, cont_int, cont_intS, cont_none, cont_noneS, cont_long, cont_longS, true_and, and_true, false_and, and_false, true_implies, false_implies, not_true_eq_false, not_false_eq_true, eq_self, or_true, true_or, Option.isSome_some, hpf_length, hpa_length, bI_eq0, fi_hpa, fl_hpa, ar_hpf, fi_hpf_ne, fl_hpf_ne, ar_hpa_ne, hpa_hpa, hpf_hpf, nI_1, two_ne, fokZ, implies_true, Nat.reduceEqDiff, g_29_5, sf_29_5, fe_29_5, g_29_4, sf_29_4, fe_29_4, g_29_3, sf_29_3, fe_29_3, g_29_0, rc_1, rc_31, rc_35, rc_37, rc_39, rc_41, rc_46, rc_48, rc_50, rc_53, rc_55, rc_57, rc_59, rc_63, rc_66, hS, c_strLen hj, hj, hj2, nI_les, hq]
        rfl
      · intro k hk hw hq
        rw [eqp_succ, hq, Bool.true_and] at hw
        rw [w35_28]
        simp (maxDischargeDepth := 12) only [w35_0, w35_1, w35_4, w35_5, w35_8, w35_9, w35_12, w35_13, w35_16, w35_17, w35_18, w35_21, w35_24, w35_25, w35_26, w35_27, w35_29, w35_30, w35_33, w35_36, w35_37, w35_40, w35_41, w35_44, w35_45, w35_46, w35_49, w35_50, w35_51, w35_54, w35_57, w35_58, w35_59, w35_62, w35_65, w35_66, oK_some, cont_int, cont_intS, cont_none, cont_noneS, cont_long, cont_longS, true_and, and_true, false_and, and_false, true_implies, false_implies, not_true_eq_false, not_false_eq_true, eq_self, or_true, true_or, Option.isSome_some, hpf_length, hpa_length, bI_eq0, fi_hpa, fl_hpa, ar_hpf, fi_hpf_ne, fl_hpf_ne, ar_hpa_ne, hpa_hpa, hpf_hpf, nI_1, two_ne, fokZ, implies_true, Nat.reduceEqDiff, g_29_5, sf_29_5, fe_29_5, g_29_4, sf_29_4, fe_29_4, g_29_3, sf_29_3, fe_29_3, g_29_0, rc_1, rc_31, rc_35, rc_37, rc_39, rc_41, rc_46, rc_48, rc_50, rc_53, rc_55, rc_57, rc_59, rc_63, rc_66, hS, c_strLen hj, hj, hj2, nI_lef hk (by omega), i1, f3, nI_add, c_textAt hS (show a + k < 2147483648 by omega), c_charAt hj hk]
        by_cases hc : (ar H 2).getD (a + k) 0 = (bytS.getD j []).getD k 0
        · simp only [hc, oK_some, cont_int, cont_intS, cont_none, cont_noneS, cont_long, cont_longS, true_and, and_true, false_and, and_false, true_implies, false_implies, not_true_eq_false, not_false_eq_true, eq_self, or_true, true_or, Option.isSome_some, hpf_length, hpa_length, bI_eq0, fi_hpa, fl_hpa, ar_hpf, fi_hpf_ne, fl_hpf_ne, ar_hpa_ne, hpa_hpa, hpf_hpf, nI_1, two_ne, fokZ, implies_true, Nat.reduceEqDiff]
          exact hw (decide_eq_true hc)
        · simp only [hc, oK_some, cont_int, cont_intS, cont_none, cont_noneS, cont_long, cont_longS, true_and, and_true, false_and, and_false, true_implies, false_implies, not_true_eq_false, not_false_eq_true, eq_self, or_true, true_or, Option.isSome_some, hpf_length, hpa_length, bI_eq0, fi_hpa, fl_hpa, ar_hpf, fi_hpf_ne, fl_hpf_ne, ar_hpa_ne, hpa_hpa, hpf_hpf, nI_1, two_ne, fokZ, implies_true, Nat.reduceEqDiff]
          have hz : eqp (ar H 2) a (bytS.getD j []) (bytS.getD j []).length = false := decide_eq_false (fun q => hc (q k hk))
          rw [hz]; rfl
    · rw [decide_eq_false hm, Bool.false_and]
      have ne : (nI (e - a) = nI (bytS.getD j []).length) = False := eq_false (fun q => hm ((nI_eqI (by omega) (by omega)).mp q))
      simp (maxDischargeDepth := 12) only [w35_0, w35_1, w35_4, w35_5, w35_8, w35_9, w35_12, w35_13, w35_16, w35_17, w35_18, w35_21, w35_24, w35_25, w35_26, w35_27, w35_29, w35_30, w35_33, w35_36, w35_37, w35_40, w35_41, w35_44, w35_45, w35_46, w35_49, w35_50, w35_51, w35_54, w35_57, w35_58, w35_59, w35_62, w35_65, w35_66, oK_some, cont_int, cont_intS, cont_none, cont_noneS, cont_long, cont_longS, true_and, and_true, false_and, and_false, true_implies, false_implies, not_true_eq_false, not_false_eq_true, eq_self, or_true, true_or, Option.isSome_some, hpf_length, hpa_length, bI_eq0, fi_hpa, fl_hpa, ar_hpf, fi_hpf_ne, fl_hpf_ne, ar_hpa_ne, hpa_hpa, hpf_hpf, nI_1, two_ne, fokZ, implies_true, Nat.reduceEqDiff, g_29_5, sf_29_5, fe_29_5, g_29_4, sf_29_4, fe_29_4, g_29_3, sf_29_3, fe_29_3, g_29_0, rc_1, rc_31, rc_35, rc_37, rc_39, rc_41, rc_46, rc_48, rc_50, rc_53, rc_55, rc_57, rc_59, rc_63, rc_66, hS, f3, f4, e5, hs, nI_subI hae, c_strLen hj, hj, hj2, ne]
      rfl
  · rw [decide_eq_false hs, Bool.false_and]
    simp (maxDischargeDepth := 12) only [w35_0, w35_1, w35_4, w35_5, w35_8, w35_9, w35_12, w35_13, w35_16, w35_17, w35_18, w35_21, w35_24, w35_25, w35_26, w35_27, w35_29, w35_30, w35_33, w35_36, w35_37, w35_40, w35_41, w35_44, w35_45, w35_46, w35_49, w35_50, w35_51, w35_54, w35_57, w35_58, w35_59, w35_62, w35_65, w35_66, oK_some, cont_int, cont_intS, cont_none, cont_noneS, cont_long, cont_longS, true_and, and_true, false_and, and_false, true_implies, false_implies, not_true_eq_false, not_false_eq_true, eq_self, or_true, true_or, Option.isSome_some, hpf_length, hpa_length, bI_eq0, fi_hpa, fl_hpa, ar_hpf, fi_hpf_ne, fl_hpf_ne, ar_hpa_ne, hpa_hpa, hpf_hpf, nI_1, two_ne, fokZ, implies_true, Nat.reduceEqDiff, g_29_5, sf_29_5, fe_29_5, g_29_4, sf_29_4, fe_29_4, g_29_3, sf_29_3, fe_29_3, g_29_0, rc_1, rc_31, rc_35, rc_37, rc_39, rc_41, rc_46, rc_48, rc_50, rc_53, rc_55, rc_57, rc_59, rc_63, rc_66, hS, e5, hs]
    rfl
end WORDS
