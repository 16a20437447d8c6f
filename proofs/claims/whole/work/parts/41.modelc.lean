/-! ===== the Model: which rumours there were ===== -/
def lay0 (R st : List Int32) (n : Nat) : List Int32 := (List.range 10).map (fun j => if j = 7 then st.getD 7 0 else if j = 8 then st.getD 8 0 else if j < n then rg R (9 + 3 * j + 1) else 0)
theorem lay0_len {R st : List Int32} {n : Nat} : (lay0 R st n).length = 10 := by unfold lay0; simp
def dOn (R st : List Int32) (n nW nG nU : Nat) (rum : Int32) : List Int32 := (List.range 21).map (fun d => dbt n (daysM R rum n nW nG nU (d + 1) (lay0 R st n)))
theorem dOn_len {R st : List Int32} {n nW nG nU : Nat} {rum : Int32} : (dOn R st n nW nG nU rum).length = 21 := by unfold dOn; simp
/-- days of what was seen lie among the 21 -/
def Vd (R : List Int32) (nN : Nat) : Prop := ∀ k, k < nN → rg R (133 + 3 * k + 1) = nI (rg R (133 + 3 * k + 1)).toNatClampNeg ∧ (rg R (133 + 3 * k + 1)).toNatClampNeg < 21
def wsP (R dO : List Int32) (k : Nat) : Bool := decide (¬ (dO.getD (rg R (133 + 3 * k + 1)).toNatClampNeg 0 >>> (rg R (133 + 3 * k) &&& 31)) &&& 1 = rg R (133 + 3 * k + 2))
def wsM (R : List Int32) (nN : Nat) (dO : List Int32) : Int32 := fnd (wsP R dO) nN (-2)
def l0F (R : List Int32) (n : Nat) (k : Nat) (ys : List Int32) : List Int32 := ys.set k (if k < n then rg R (9 + 3 * k + 1) else 0)
theorem l0F_len {R ys : List Int32} {n m : Nat} : (forN (l0F R n) m ys).length = ys.length := forN_len (fun k zs => by unfold l0F; simp) m ys
theorem l0F_getD {R ys : List Int32} {n j : Nat} : ∀ m, m ≤ ys.length → j < m → (forN (l0F R n) m ys).getD j 0 = if j < n then rg R (9 + 3 * j + 1) else 0
  | 0, _, h => absurd h (Nat.not_lt_zero _)
  | m + 1, hm, h => by
    rw [forN_succ, show l0F R n m (forN (l0F R n) m ys) = (forN (l0F R n) m ys).set m (if m < n then rg R (9 + 3 * m + 1) else 0) from rfl, getD_set, l0F_len]
    by_cases h1 : m = j
    · rw [if_pos ⟨h1, by omega⟩, h1]
    · rw [if_neg (fun q => h1 q.1), l0F_getD m (by omega) (by omega)]
theorem fill_getD {F : Nat → Int32} {ys : List Int32} {j : Nat} : ∀ m, m ≤ ys.length → (forN (fun k zs => zs.set k (F k)) m ys).length = ys.length ∧ (forN (fun k zs => zs.set k (F k)) m ys).getD j 0 = if j < m then F j else ys.getD j 0
  | 0, _ => ⟨rfl, by simp [forN]⟩
  | m + 1, hm => by
    obtain ⟨h1, h2⟩ := fill_getD (F := F) (ys := ys) (j := j) m (by omega)
    rw [forN_succ]
    refine ⟨by rw [List.length_set, h1], ?_⟩
    rw [getD_set, h1, h2]
    by_cases e : m = j
    · subst e; rw [if_pos ⟨rfl, by omega⟩, if_pos (by omega)]
    · rw [if_neg (fun q => e q.1)]
      by_cases c : j < m
      · rw [if_pos c, if_pos (by omega)]
      · rw [if_neg c, if_neg (by omega)]
section MODELC
variable {scr : List Int32} {d n nS nW nG nU nN w : Nat} {H : List AC} {R st : List Int32} {Q : Option Value → List AC → Prop}
theorem m_layFrom {rum : Int32} (hI : MIv H R st n nS nW nG nU nN) (hQ : ∀ H', Fg [76, 77, 79] [(68, 22)] H H' → ar H' 79 = dOn R st n nW nG nU rum → Q none H') : Wp scr (d + 5) 267 0 [some (.ref 68), some (.int rum), none] [] H Q := by
  have hS := hI.shp
  have e71 := hI.2.1
  have e73 := hI.2.2.1
  have l73 := hI.l
  have rgR : ∀ j, R.getD j 0 = rg R j := fun _ => rfl
  obtain ⟨c2, c3, c4, c5, c6, c7, b2, b3, b4, b5, b6, b7⟩ := hI.mn
  simp only [w267_0, w267_1]
  have key := down (P := fun i => Wp scr (d + 5) 267 2 [some (.ref 68), some (.int rum), some (.int (nI i))] [] (hpa H 77 (forN (l0F R n) i (ar H 77))) Q) 10 ?_ ?_
  · rw [forN_zero, hpa_self (ga_77 hS)] at key
    exact key
  · have hly : (forN (l0F R n) 10 (ar H 77)).length = 10 := by rw [l0F_len, gn_77 hS]
    have hg0 : ∀ j, j < 10 → (forN (l0F R n) 10 (ar H 77)).getD j 0 = if j < n then rg R (9 + 3 * j + 1) else 0 := fun j hj => l0F_getD 10 (by rw [gn_77 hS]; decide) hj
    generalize forN (l0F R n) 10 (ar H 77) = ys at hly hg0
    have hs1 : Shp (hpa H 77 ys) := sa_77 hS hly
    have ey : (ys.set 7 (st.getD 7 0)).set 8 (st.getD 8 0) = lay0 R st n := by
      apply ext_getD
      · rw [List.length_set, List.length_set, hly, lay0_len]
      · intro j hj
        rw [lay0_len] at hj
        unfold lay0
        rw [getD_rmap hj, getD_set, getD_set, List.length_set, hly, hg0 j hj]
        by_cases h8 : 8 = j
        · subst h8; rw [if_pos ⟨rfl, by decide⟩, if_neg (by decide), if_pos rfl]
        · rw [if_neg (fun q => h8 q.1)]
          by_cases h7 : 7 = j
          · subst h7; rw [if_pos ⟨rfl, by decide⟩, if_pos rfl]
          · have h7' : ¬ j = 7 := fun q => h7 q.symm
            have h8' : ¬ j = 8 := fun q => h8 q.symm
            rw [if_neg (fun q => h7 q.1)]
            simp only [h7', h8', if_false]
    have hs2 : Shp (hpa H 77 (lay0 R st n)) := sa_77 hS lay0_len
    rw [w267_2]
    simp (maxDischargeDepth := 12) only [w267_0, w267_1, w267_3, w267_5, w267_8, w267_9, w267_12, w267_13, w267_14, w267_15, w267_18, w267_19, w267_20, w267_23, w267_24, w267_27, w267_29, w267_30, w267_31, w267_32, w267_33, w267_34, w267_35, w267_36, w267_39, w267_40, w267_41, w267_44, w267_47, w267_48, w267_51, w267_53, w267_54, w267_57, w267_59, w267_60, w267_61, w267_62, w267_65, w267_67, w267_68, w267_71, w267_73, w267_74, w267_75, w267_76, w267_77, w267_80, w267_81, w267_83, w267_85, w267_88, w267_89, w267_90, w267_93, w267_96, w267_97, w267_100, w267_101, w267_102, w267_103, w267_106, w267_109, w267_110, w267_113, w267_116, oK_some, cont_int, cont_intS, cont_none, cont_noneS, cont_long, cont_longS, true_and, and_true, false_and, and_false, true_implies, false_implies, not_true_eq_false, not_false_eq_true, eq_self, or_true, true_or, Option.isSome_some, hpf_length, hpa_length, bI_eq0, fi_hpa, fl_hpa, ar_hpf, fi_hpf_ne, fl_hpf_ne, ar_hpa_ne, hpa_hpa, hpf_hpf, nI_1, two_ne, fokZ, implies_true, Nat.reduceEqDiff, g_68_24, ga_77, gn_77, sa_77, ae_77, g_68_15, ga_71, gn_71, sa_71, ae_71, g_68_17, ga_73, gn_73, sa_73, ae_73, g_68_22, sf_68_22, fe_68_22, rc_68, g_68_26, ga_79, gn_79, sa_79, ae_79, kl_0, kl_1, kl_2, kl_3, kl_4, kl_5, kl_6, kl_7, kl_8, kl_9, kl_10, kl_11, kl_12, jb_0_10, jb_1_10, jb_2_10, jb_3_10, jb_4_10, jb_5_10, jb_6_10, jb_7_10, jb_8_10, jb_9_10, jb_0_211, jb_1_211, jb_2_211, jb_3_211, jb_4_211, jb_5_211, jb_6_211, jb_7_211, jb_8_211, jb_9_211, jb_10_211, jb_11_211, jb_12_211, jb_0_21, jb_1_21, jb_2_21, jb_3_21, jb_4_21, jb_5_21, jb_6_21, jb_7_21, jb_8_21, jb_9_21, jb_10_21, jb_11_21, jb_12_21, hS, hs1, hs2, hly, e73, l73, List.length_set, jb_7_10, jb_8_10, show ((10 : Int32) ≤ nI 10) = True from eq_true (by decide), ey]
    generalize hH1 : hpf (hpa H 77 (lay0 R st n)) 68 22 (.int rum) = H1
    have hF1 : Fg [76, 77, 79] [(68, 22)] H H1 := by
      rw [← hH1]
      exact (fg_hpa hS (by rw [gn_77 hS, lay0_len]) (by decide)).trans (fg_hpf (a := 68) (f := 22) (ci := 12) hs2 rfl (by decide))
    have a1 : ar H1 77 = lay0 R st n := by rw [← hH1, ar_hpf, ae_77 hS]
    have f1 : fi H1 68 22 = rum := by rw [← hH1, fe_68_22 hs2]
    have key2 := down (P := fun i => ∀ H2, Fg [76, 77, 79] [(68, 22)] H H2 → fi H2 68 22 = rum → ar H2 77 = daysM R rum n nW nG nU i (lay0 R st n) → ar H2 79 = forN (fun k zs => zs.set k (dbt n (daysM R rum n nW nG nU (k + 1) (lay0 R st n)))) i (ar H 79) → Wp scr (d + 5) 267 82 [some (.ref 68), some (.int rum), some (.int (nI i))] [] H2 Q) 21 ?_ ?_
    · refine key2 H1 hF1 f1 a1 ?_
      rw [forN_zero, ← hH1, ar_hpf, ar_hpa_ne (by decide)]
    · intro H2 hF2 f2 a2 d2
      rw [w267_82]
      simp (maxDischargeDepth := 12) only [w267_0, w267_1, w267_3, w267_5, w267_8, w267_9, w267_12, w267_13, w267_14, w267_15, w267_18, w267_19, w267_20, w267_23, w267_24, w267_27, w267_29, w267_30, w267_31, w267_32, w267_33, w267_34, w267_35, w267_36, w267_39, w267_40, w267_41, w267_44, w267_47, w267_48, w267_51, w267_53, w267_54, w267_57, w267_59, w267_60, w267_61, w267_62, w267_65, w267_67, w267_68, w267_71, w267_73, w267_74, w267_75, w267_76, w267_77, w267_80, w267_81, w267_83, w267_85, w267_88, w267_89, w267_90, w267_93, w267_96, w267_97, w267_100, w267_101, w267_102, w267_103, w267_106, w267_109, w267_110, w267_113, w267_116, oK_some, cont_int, cont_intS, cont_none, cont_noneS, cont_long, cont_longS, true_and, and_true, false_and, and_false, true_implies, false_implies, not_true_eq_false, not_false_eq_true, eq_self, or_true, true_or, Option.isSome_some, hpf_length, hpa_length, bI_eq0, fi_hpa, fl_hpa, ar_hpf, fi_hpf_ne, fl_hpf_ne, ar_hpa_ne, hpa_hpa, hpf_hpf, nI_1, two_ne, fokZ, implies_true, Nat.reduceEqDiff, g_68_24, ga_77, gn_77, sa_77, ae_77, g_68_15, ga_71, gn_71, sa_71, ae_71, g_68_17, ga_73, gn_73, sa_73, ae_73, g_68_22, sf_68_22, fe_68_22, rc_68, g_68_26, ga_79, gn_79, sa_79, ae_79, kl_0, kl_1, kl_2, kl_3, kl_4, kl_5, kl_6, kl_7, kl_8, kl_9, kl_10, kl_11, kl_12, jb_0_10, jb_1_10, jb_2_10, jb_3_10, jb_4_10, jb_5_10, jb_6_10, jb_7_10, jb_8_10, jb_9_10, jb_0_211, jb_1_211, jb_2_211, jb_3_211, jb_4_211, jb_5_211, jb_6_211, jb_7_211, jb_8_211, jb_9_211, jb_10_211, jb_11_211, jb_12_211, jb_0_21, jb_1_21, jb_2_21, jb_3_21, jb_4_21, jb_5_21, jb_6_21, jb_7_21, jb_8_21, jb_9_21, jb_10_21, jb_11_21, jb_12_21, l20t]
      refine hQ H2 hF2 ?_
      rw [d2]
      have hfl := fun j => fill_getD (F := fun k => dbt n (daysM R rum n nW nG nU (k + 1) (lay0 R st n))) (ys := ar H 79) (j := j) 21 (by rw [gn_79 hS]; decide)
      apply ext_getD
      · rw [(hfl 0).1, gn_79 hS, dOn_len]
      · intro j hj
        rw [dOn_len] at hj
        rw [(hfl j).2, if_pos hj]
        unfold dOn
        rw [getD_rmap hj]
    · intro i hi hw H2 hF2 f2 a2 d2
      have hI2 := hI.of hF2 (by decide) (by decide) (by decide) (by decide)
      have hs2 := hF2.shp
      rw [w267_82]
      simp (maxDischargeDepth := 12) only [w267_0, w267_1, w267_3, w267_5, w267_8, w267_9, w267_12, w267_13, w267_14, w267_15, w267_18, w267_19, w267_20, w267_23, w267_24, w267_27, w267_29, w267_30, w267_31, w267_32, w267_33, w267_34, w267_35, w267_36, w267_39, w267_40, w267_41, w267_44, w267_47, w267_48, w267_51, w267_53, w267_54, w267_57, w267_59, w267_60, w267_61, w267_62, w267_65, w267_67, w267_68, w267_71, w267_73, w267_74, w267_75, w267_76, w267_77, w267_80, w267_81, w267_83, w267_85, w267_88, w267_89, w267_90, w267_93, w267_96, w267_97, w267_100, w267_101, w267_102, w267_103, w267_106, w267_109, w267_110, w267_113, w267_116, oK_some, cont_int, cont_intS, cont_none, cont_noneS, cont_long, cont_longS, true_and, and_true, false_and, and_false, true_implies, false_implies, not_true_eq_false, not_false_eq_true, eq_self, or_true, true_or, Option.isSome_some, hpf_length, hpa_length, bI_eq0, fi_hpa, fl_hpa, ar_hpf, fi_hpf_ne, fl_hpf_ne, ar_hpa_ne, hpa_hpa, hpf_hpf, nI_1, two_ne, fokZ, implies_true, Nat.reduceEqDiff, g_68_24, ga_77, gn_77, sa_77, ae_77, g_68_15, ga_71, gn_71, sa_71, ae_71, g_68_17, ga_73, gn_73, sa_73, ae_73, g_68_22, sf_68_22, fe_68_22, rc_68, g_68_26, ga_79, gn_79, sa_79, ae_79, kl_0, kl_1, kl_2, kl_3, kl_4, kl_5, kl_6, kl_7, kl_8, kl_9, kl_10, kl_11, kl_12, jb_0_10, jb_1_10, jb_2_10, jb_3_10, jb_4_10, jb_5_10, jb_6_10, jb_7_10, jb_8_10, jb_9_10, jb_0_211, jb_1_211, jb_2_211, jb_3_211, jb_4_211, jb_5_211, jb_6_211, jb_7_211, jb_8_211, jb_9_211, jb_10_211, jb_11_211, jb_12_211, jb_0_21, jb_1_21, jb_2_21, jb_3_21, jb_4_21, jb_5_21, jb_6_21, jb_7_21, jb_8_21, jb_9_21, jb_10_21, jb_11_21, jb_12_21, hs2, l20f hi]
      refine m_dayT hI2 (fun H3 hF3 a3 => ?_)
      have hs3 := hF3.shp
      have hF4 := hF2.trans (hF3.mono (T := [76, 77, 79]) (G := [(68, 22)]) (by decide) (by decide))
      have hI3 := hI.of hF4 (by decide) (by decide) (by decide) (by decide)
      have a3' : ar H3 77 = daysM R rum n nW nG nU (i + 1) (lay0 R st n) := by rw [a3, f2, a2]; rfl
      have d3 : ar H3 79 = ar H2 79 := hF3.arr (by decide)
      have l3 : (ar H3 79).length = 21 := gn_79 hs3
      simp (maxDischargeDepth := 12) only [w267_0, w267_1, w267_3, w267_5, w267_8, w267_9, w267_12, w267_13, w267_14, w267_15, w267_18, w267_19, w267_20, w267_23, w267_24, w267_27, w267_29, w267_30, w267_31, w267_32, w267_33, w267_34, w267_35, w267_36, w267_39, w267_40, w267_41, w267_44, w267_47, w267_48, w267_51, w267_53, w267_54, w267_57, w267_59, w267_60, w267_61, w267_62, w267_65, w267_67, w267_68, w267_71, w267_73, w267_74, w267_75, w267_76, w267_77, w267_80, w267_81, w267_83, w267_85, w267_88, w267_89, w267_90, w267_93, w267_96, w267_97, w267_100, w267_101, w267_102, w267_103, w267_106, w267_109, w267_110, w267_113, w267_116, oK_some, cont_int, cont_intS, cont_none, cont_noneS, cont_long, cont_longS, true_and, and_true, false_and, and_false, true_implies, false_implies, not_true_eq_false, not_false_eq_true, eq_self, or_true, true_or, Option.isSome_some, hpf_length, hpa_length, bI_eq0, fi_hpa, fl_hpa, ar_hpf, fi_hpf_ne, fl_hpf_ne, ar_hpa_ne, hpa_hpa, hpf_hpf, nI_1, two_ne, fokZ, implies_true, Nat.reduceEqDiff, g_68_24, ga_77, gn_77, sa_77, ae_77, g_68_15, ga_71, gn_71, sa_71, ae_71, g_68_17, ga_73, gn_73, sa_73, ae_73, g_68_22, sf_68_22, fe_68_22, rc_68, g_68_26, ga_79, gn_79, sa_79, ae_79, kl_0, kl_1, kl_2, kl_3, kl_4, kl_5, kl_6, kl_7, kl_8, kl_9, kl_10, kl_11, kl_12, jb_0_10, jb_1_10, jb_2_10, jb_3_10, jb_4_10, jb_5_10, jb_6_10, jb_7_10, jb_8_10, jb_9_10, jb_0_211, jb_1_211, jb_2_211, jb_3_211, jb_4_211, jb_5_211, jb_6_211, jb_7_211, jb_8_211, jb_9_211, jb_10_211, jb_11_211, jb_12_211, jb_0_21, jb_1_21, jb_2_21, jb_3_21, jb_4_21, jb_5_21, jb_6_21, jb_7_21, jb_8_21, jb_9_21, jb_10_21, jb_11_21, jb_12_21, hF3.len, hs3, m_dbtT hI3, a3', inb_nI (i := i) (by omega), decide_eq_true (by omega : i < 21), nI_clamp (n := i) (by omega)]
      refine hw _ (hF4.trans (fg_hpa hs3 (by rw [List.length_set]) (by decide))) (by rw [fi_hpa, hF3.int (by decide) (by decide), f2]) (by rw [ar_hpa_ne (by decide), a3']) ?_
      rw [ae_79 hs3, d3, d2]
      rfl
  · intro i hi hw
    have hly : (forN (l0F R n) i (ar H 77)).length = 10 := by rw [l0F_len, gn_77 hS]
    rw [forN_succ] at hw
    generalize forN (l0F R n) i (ar H 77) = ys at hly hw ⊢
    have hs1 : Shp (hpa H 77 ys) := sa_77 hS hly
    rw [w267_2]
    simp (maxDischargeDepth := 12) only [w267_0, w267_1, w267_3, w267_5, w267_8, w267_9, w267_12, w267_13, w267_14, w267_15, w267_18, w267_19, w267_20, w267_23, w267_24, w267_27, w267_29, w267_30, w267_31, w267_32, w267_33, w267_34, w267_35, w267_36, w267_39, w267_40, w267_41, w267_44, w267_47, w267_48, w267_51, w267_53, w267_54, w267_57, w267_59, w267_60, w267_61, w267_62, w267_65, w267_67, w267_68, w267_71, w267_73, w267_74, w267_75, w267_76, w267_77, w267_80, w267_81, w267_83, w267_85, w267_88, w267_89, w267_90, w267_93, w267_96, w267_97, w267_100, w267_101, w267_102, w267_103, w267_106, w267_109, w267_110, w267_113, w267_116, oK_some, cont_int, cont_intS, cont_none, cont_noneS, cont_long, cont_longS, true_and, and_true, false_and, and_false, true_implies, false_implies, not_true_eq_false, not_false_eq_true, eq_self, or_true, true_or, Option.isSome_some, hpf_length, hpa_length, bI_eq0, fi_hpa, fl_hpa, ar_hpf, fi_hpf_ne, fl_hpf_ne, ar_hpa_ne, hpa_hpa, hpf_hpf, nI_1, two_ne, fokZ, implies_true, Nat.reduceEqDiff, g_68_24, ga_77, gn_77, sa_77, ae_77, g_68_15, ga_71, gn_71, sa_71, ae_71, g_68_17, ga_73, gn_73, sa_73, ae_73, g_68_22, sf_68_22, fe_68_22, rc_68, g_68_26, ga_79, gn_79, sa_79, ae_79, kl_0, kl_1, kl_2, kl_3, kl_4, kl_5, kl_6, kl_7, kl_8, kl_9, kl_10, kl_11, kl_12, jb_0_10, jb_1_10, jb_2_10, jb_3_10, jb_4_10, jb_5_10, jb_6_10, jb_7_10, jb_8_10, jb_9_10, jb_0_211, jb_1_211, jb_2_211, jb_3_211, jb_4_211, jb_5_211, jb_6_211, jb_7_211, jb_8_211, jb_9_211, jb_10_211, jb_11_211, jb_12_211, jb_0_21, jb_1_21, jb_2_21, jb_3_21, jb_4_21, jb_5_21, jb_6_21, jb_7_21, jb_8_21, jb_9_21, jb_10_21, jb_11_21, jb_12_21, hS, hs1, e71, hI.lr, rgR, c2, hly, show ((10 : Int32) ≤ nI i) = False from eq_false (nI_ge (b := 10) hi (by decide)), ixm 9 3 i (v := 9) (w := 3) rfl rfl, ixa (9 + 3 * i) 1 (v := 1) rfl, inb_nI (i := 9 + 3 * i + 1) (by omega), decide_eq_true (by omega : 9 + 3 * i + 1 < 211), nI_clamp (n := 9 + 3 * i + 1) (by omega), inb_nI (i := i) (by omega), decide_eq_true (by omega : i < 10), nI_clamp (n := i) (by omega)]
    unfold l0F at hw
    by_cases hc : i < n
    · rw [if_pos hc] at hw
      simp only [nI_lef hc (by omega : n < 2147483648), oK_some, cont_int, cont_intS, cont_none, cont_noneS, cont_long, cont_longS, true_and, and_true, false_and, and_false, true_implies, false_implies, not_true_eq_false, not_false_eq_true, eq_self, or_true, true_or, Option.isSome_some, hpf_length, hpa_length, bI_eq0, fi_hpa, fl_hpa, ar_hpf, fi_hpf_ne, fl_hpf_ne, ar_hpa_ne, hpa_hpa, hpf_hpf, nI_1, two_ne, fokZ, implies_true, Nat.reduceEqDiff]
      exact hw
    · have hc' : (nI n ≤ nI i) = True := eq_true (by rw [Int32.le_iff_toInt_le, nI_toInt (by omega), nI_toInt (by omega)]; omega)
      rw [if_neg hc] at hw
      simp only [hc', oK_some, cont_int, cont_intS, cont_none, cont_noneS, cont_long, cont_longS, true_and, and_true, false_and, and_false, true_implies, false_implies, not_true_eq_false, not_false_eq_true, eq_self, or_true, true_or, Option.isSome_some, hpf_length, hpa_length, bI_eq0, fi_hpa, fl_hpa, ar_hpf, fi_hpf_ne, fl_hpf_ne, ar_hpa_ne, hpa_hpa, hpf_hpf, nI_1, two_ne, fokZ, implies_true, Nat.reduceEqDiff]
      exact hw
theorem m_wrongSeen {dO : List Int32} (hI : MIv H R st n nS nW nG nU nN) (hV : Vd R nN) (hd : ar H 79 = dO) : Wp scr d 268 0 [some (.ref 68), none] [] H Q ↔ Q (some (.int (wsM R nN dO))) H := by
  refine Wp_iff ?_
  generalize hQ : (fun (r : Option Value) (H' : List AC) => r = some (.int (wsM R nN dO)) ∧ H' = H) = Q1
  have hS := hI.shp
  have e71 := hI.2.1
  have rgR : ∀ j, R.getD j 0 = rg R j := fun _ => rfl
  have l79 : dO.length = 21 := by rw [← hd]; exact gn_79 hS
  obtain ⟨c2, c3, c4, c5, c6, c7, b2, b3, b4, b5, b6, b7⟩ := hI.mn
  simp only [w268_0, w268_1]
  have key := down (P := fun i => (∀ j, j < i → wsP R dO j = false) → Wp scr d 268 2 [some (.ref 68), some (.int (nI i))] [] H Q1) nN ?_ ?_
  · exact key (fun j hj => absurd hj (Nat.not_lt_zero _))
  · intro hno
    rw [w268_2]
    simp (maxDischargeDepth := 12) only [w268_0, w268_1, w268_3, w268_4, w268_7, w268_9, w268_10, w268_13, w268_14, w268_17, w268_18, w268_21, w268_24, w268_25, w268_26, w268_27, w268_28, w268_29, w268_30, w268_31, w268_32, w268_33, w268_36, w268_39, w268_40, w268_41, w268_42, w268_43, w268_44, w268_45, w268_46, w268_47, w268_48, w268_51, w268_54, w268_55, w268_56, w268_57, w268_58, w268_59, w268_60, w268_61, w268_64, w268_65, w268_66, w268_69, w268_72, w268_74, oK_some, cont_int, cont_intS, cont_none, cont_noneS, cont_long, cont_longS, true_and, and_true, false_and, and_false, true_implies, false_implies, not_true_eq_false, not_false_eq_true, eq_self, or_true, true_or, Option.isSome_some, hpf_length, hpa_length, bI_eq0, fi_hpa, fl_hpa, ar_hpf, fi_hpf_ne, fl_hpf_ne, ar_hpa_ne, hpa_hpa, hpf_hpf, nI_1, two_ne, fokZ, implies_true, Nat.reduceEqDiff, g_68_15, ga_71, gn_71, sa_71, ae_71, g_68_26, ga_79, gn_79, sa_79, ae_79, kl_0, kl_1, kl_2, kl_3, kl_4, kl_5, kl_6, kl_7, kl_8, kl_9, kl_10, kl_11, kl_12, jb_0_211, jb_1_211, jb_2_211, jb_3_211, jb_4_211, jb_5_211, jb_6_211, jb_7_211, jb_8_211, jb_9_211, jb_10_211, jb_11_211, jb_12_211, jb_0_21, jb_1_21, jb_2_21, jb_3_21, jb_4_21, jb_5_21, jb_6_21, jb_7_21, jb_8_21, jb_9_21, jb_10_21, jb_11_21, jb_12_21, hS, e71, hI.lr, rgR, c7, nI_les]
    rw [← hQ]
    unfold wsM
    rw [fnd_miss hno]
    exact ⟨rfl, rfl⟩
  · intro i hi hw hno
    obtain ⟨v1, v2⟩ := hV i hi
    have ed : dO.getD (rg R (133 + 3 * i + 1)).toNatClampNeg 0 = dO.getD (rg R (133 + 3 * i + 1)).toNatClampNeg 0 := rfl
    have ib : inb (rg R (133 + 3 * i + 1)) 21 = true := by rw [v1, inb_nI (by omega)]; exact decide_eq_true v2
    rw [w268_2]
    simp (maxDischargeDepth := 12) only [w268_0, w268_1, w268_3, w268_4, w268_7, w268_9, w268_10, w268_13, w268_14, w268_17, w268_18, w268_21, w268_24, w268_25, w268_26, w268_27, w268_28, w268_29, w268_30, w268_31, w268_32, w268_33, w268_36, w268_39, w268_40, w268_41, w268_42, w268_43, w268_44, w268_45, w268_46, w268_47, w268_48, w268_51, w268_54, w268_55, w268_56, w268_57, w268_58, w268_59, w268_60, w268_61, w268_64, w268_65, w268_66, w268_69, w268_72, w268_74, oK_some, cont_int, cont_intS, cont_none, cont_noneS, cont_long, cont_longS, true_and, and_true, false_and, and_false, true_implies, false_implies, not_true_eq_false, not_false_eq_true, eq_self, or_true, true_or, Option.isSome_some, hpf_length, hpa_length, bI_eq0, fi_hpa, fl_hpa, ar_hpf, fi_hpf_ne, fl_hpf_ne, ar_hpa_ne, hpa_hpa, hpf_hpf, nI_1, two_ne, fokZ, implies_true, Nat.reduceEqDiff, g_68_15, ga_71, gn_71, sa_71, ae_71, g_68_26, ga_79, gn_79, sa_79, ae_79, kl_0, kl_1, kl_2, kl_3, kl_4, kl_5, kl_6, kl_7, kl_8, kl_9, kl_10, kl_11, kl_12, jb_0_211, jb_1_211, jb_2_211, jb_3_211, jb_4_211, jb_5_211, jb_6_211, jb_7_211, jb_8_211, jb_9_211, jb_10_211, jb_11_211, jb_12_211, jb_0_21, jb_1_21, jb_2_21, jb_3_21, jb_4_21, jb_5_21, jb_6_21, jb_7_21, jb_8_21, jb_9_21, jb_10_21, jb_11_21, jb_12_21, hS, e71, hI.lr, rgR, c7, nI_lef hi (by omega : nN < 2147483648), hd, l79, ixm 133 3 i (v := 133) (w := 3) rfl rfl, ixa (133 + 3 * i) 1 (v := 1) rfl, ixa (133 + 3 * i) 2 (v := 2) rfl, inb_nI (i := 133 + 3 * i) (by omega), decide_eq_true (by omega : 133 + 3 * i < 211), nI_clamp (n := 133 + 3 * i) (by omega), inb_nI (i := 133 + 3 * i + 1) (by omega), decide_eq_true (by omega : 133 + 3 * i + 1 < 211), nI_clamp (n := 133 + 3 * i + 1) (by omega), inb_nI (i := 133 + 3 * i + 2) (by omega), decide_eq_true (by omega : 133 + 3 * i + 2 < 211), nI_clamp (n := 133 + 3 * i + 2) (by omega), ib]
    by_cases hc : (dO.getD (rg R (133 + 3 * i + 1)).toNatClampNeg 0 >>> (rg R (133 + 3 * i) &&& 31)) &&& 1 = rg R (133 + 3 * i + 2)
    · simp only [hc, oK_some, cont_int, cont_intS, cont_none, cont_noneS, cont_long, cont_longS, true_and, and_true, false_and, and_false, true_implies, false_implies, not_true_eq_false, not_false_eq_true, eq_self, or_true, true_or, Option.isSome_some, hpf_length, hpa_length, bI_eq0, fi_hpa, fl_hpa, ar_hpf, fi_hpf_ne, fl_hpf_ne, ar_hpa_ne, hpa_hpa, hpf_hpf, nI_1, two_ne, fokZ, implies_true, Nat.reduceEqDiff]
      refine hw (fun j hj => ?_)
      rcases Nat.lt_or_ge j i with q | q
      · exact hno j q
      · rw [show j = i by omega]; unfold wsP; exact decide_eq_false (fun z => z hc)
    · simp only [hc, oK_some, cont_int, cont_intS, cont_none, cont_noneS, cont_long, cont_longS, true_and, and_true, false_and, and_false, true_implies, false_implies, not_true_eq_false, not_false_eq_true, eq_self, or_true, true_or, Option.isSome_some, hpf_length, hpa_length, bI_eq0, fi_hpa, fl_hpa, ar_hpf, fi_hpf_ne, fl_hpf_ne, ar_hpa_ne, hpa_hpa, hpf_hpf, nI_1, two_ne, fokZ, implies_true, Nat.reduceEqDiff]
      rw [← hQ]
      unfold wsM
      rw [fnd_hit hi (by unfold wsP; exact decide_eq_true hc) hno]
      exact ⟨rfl, rfl⟩
theorem M_judge (hI : MIv H R st n nS nW nG nU nN) (hV : Vd R nN) (hQ : MR H Q (if 0 < n then wsM R nN (dOn R st n nW nG nU (allU nU)) else -1) (if 0 < n then 0 else 1)) : Wp scr (d + 6) 277 0 [some (.ref 68)] [] H Q := by
  have hS := hI.shp
  have hg := gd_fg hS
  have hI1 := hI.q hg
  have hs1 := hI1.shp
  have hM1 : Mn (ar (gd H) 71) n nS nW nG nU nN := by rw [hI1.2.1]; exact hI1.mn
  have h14 := hI1.2.2.2.2
  have e73 := hI1.2.2.1
  have rgR : ∀ j, R.getD j 0 = rg R j := fun _ => rfl
  have l73 := hI1.l
  obtain ⟨c2, c3, c4, c5, c6, c7, b2, b3, b4, b5, b6, b7⟩ := hI1.mn
  simp (maxDischargeDepth := 12) only [w277_0, w277_1, w277_4, w277_5, w277_8, w277_11, w277_12, w277_13, w277_16, w277_17, w277_18, w277_19, w277_20, w277_23, w277_25, w277_26, w277_27, w277_28, w277_29, w277_32, w277_33, w277_36, oK_some, cont_int, cont_intS, cont_none, cont_noneS, cont_long, cont_longS, true_and, and_true, false_and, and_false, true_implies, false_implies, not_true_eq_false, not_false_eq_true, eq_self, or_true, true_or, Option.isSome_some, hpf_length, hpa_length, bI_eq0, fi_hpa, fl_hpa, ar_hpf, fi_hpf_ne, fl_hpf_ne, ar_hpa_ne, hpa_hpa, hpf_hpf, nI_1, two_ne, fokZ, implies_true, Nat.reduceEqDiff, rc_68, g_68_14, sf_68_14, fe_68_14, g_68_15, ga_71, gn_71, sa_71, ae_71, kl_0, kl_1, kl_2, kl_3, kl_4, kl_5, kl_6, kl_7, kl_8, kl_9, kl_10, kl_11, kl_12, jb_0_211, jb_1_211, jb_2_211, jb_3_211, jb_4_211, jb_5_211, jb_6_211, jb_7_211, jb_8_211, jb_9_211, jb_10_211, jb_11_211, jb_12_211, hS, m_good, gd_len, hs1, h14, e73, l73, hI1.2.1, rgR, hI1.lr, m_no, decide_eq_false_iff_not, gn_71, jb_7_10, jb_8_10, jb_9_10, c6]
  by_cases hp : 0 < n
  · simp only [hp, if_true] at hQ
    simp only [hp, oK_some, cont_int, cont_intS, cont_none, cont_noneS, cont_long, cont_longS, true_and, and_true, false_and, and_false, true_implies, false_implies, not_true_eq_false, not_false_eq_true, eq_self, or_true, true_or, Option.isSome_some, hpf_length, hpa_length, bI_eq0, fi_hpa, fl_hpa, ar_hpf, fi_hpf_ne, fl_hpf_ne, ar_hpa_ne, hpa_hpa, hpf_hpf, nI_1, two_ne, fokZ, implies_true, Nat.reduceEqDiff]
    refine m_layFrom hI1 (fun H2 hF2 a2 => ?_)
    have hI2 := hI1.of hF2 (by decide) (by decide) (by decide) (by decide)
    have hs2 := hF2.shp
    simp (maxDischargeDepth := 12) only [w277_0, w277_1, w277_4, w277_5, w277_8, w277_11, w277_12, w277_13, w277_16, w277_17, w277_18, w277_19, w277_20, w277_23, w277_25, w277_26, w277_27, w277_28, w277_29, w277_32, w277_33, w277_36, oK_some, cont_int, cont_intS, cont_none, cont_noneS, cont_long, cont_longS, true_and, and_true, false_and, and_false, true_implies, false_implies, not_true_eq_false, not_false_eq_true, eq_self, or_true, true_or, Option.isSome_some, hpf_length, hpa_length, bI_eq0, fi_hpa, fl_hpa, ar_hpf, fi_hpf_ne, fl_hpf_ne, ar_hpa_ne, hpa_hpa, hpf_hpf, nI_1, two_ne, fokZ, implies_true, Nat.reduceEqDiff, rc_68, g_68_14, sf_68_14, fe_68_14, g_68_15, ga_71, gn_71, sa_71, ae_71, kl_0, kl_1, kl_2, kl_3, kl_4, kl_5, kl_6, kl_7, kl_8, kl_9, kl_10, kl_11, kl_12, jb_0_211, jb_1_211, jb_2_211, jb_3_211, jb_4_211, jb_5_211, jb_6_211, jb_7_211, jb_8_211, jb_9_211, jb_10_211, jb_11_211, jb_12_211, hF2.len, hs2, m_wrongSeen hI2 hV a2]
    exact mr_ok hS hF2 (by decide) (by decide) (by decide) (by decide) (by decide) hQ
  · simp only [hp, if_false] at hQ
    simp only [hp, oK_some, cont_int, cont_intS, cont_none, cont_noneS, cont_long, cont_longS, true_and, and_true, false_and, and_false, true_implies, false_implies, not_true_eq_false, not_false_eq_true, eq_self, or_true, true_or, Option.isSome_some, hpf_length, hpa_length, bI_eq0, fi_hpa, fl_hpa, ar_hpf, fi_hpf_ne, fl_hpf_ne, ar_hpa_ne, hpa_hpa, hpf_hpf, nI_1, two_ne, fokZ, implies_true, Nat.reduceEqDiff]
    exact mr_no hS hg (gd_0 hS) hQ
end MODELC
