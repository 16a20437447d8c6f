/-! ===== the class: shelves of states ===== -/
/-- a state's place on a shelf -/
def Slot (xs : List Int32) (j : Nat) (ws : List Int32) (n : Nat) : Prop := (∀ i, i < n → xs.getD (10 * j + i) 0 = ws.getD i 0) ∧ xs.getD (10 * j + 7) 0 = ws.getD 9 0 ∧ xs.getD (10 * j + 8) 0 = ws.getD 7 0 ∧ xs.getD (10 * j + 9) 0 = ws.getD 8 0
theorem mn_nI {x y : Nat} (hx : x < 100000) (hy : y < 100000) : mn (nI x) (nI y) = nI (min x y) := by
  unfold mn
  by_cases h : y < x
  · rw [if_pos (nI_lt h (by omega))]
    congr 1
    omega
  · rw [if_neg (nI_nlt (by omega) (by omega))]
    congr 1
    omega
section CSHELF
variable {scr : List Int32} {d n nS nW nG nU nN : Nat} {H : List AC} {R st ws : List Int32} {Q : Option Value → List AC → Prop}
theorem c_keep62 {t c : Nat} (hS : Shp H) (hN : Sn H 30 32 st n) (hn : n ≤ 7) (h0 : fi H 62 0 = nI 16) (h3 : fi H 62 3 = nI t) (h2 : fi H 62 2 = nI c) (ht : t < 16) (hc : c ≤ 16) (hQ : ∀ H', Fg [64] [(62, 2), (62, 3)] H H' → fi H' 62 3 = nI ((t + 1) % 16) → fi H' 62 2 = nI (min (c + 1) 16) → Slot (ar H' 64) t st n → (∀ q, q < 10 * t ∨ 10 * t + 10 ≤ q → (ar H' 64).getD q 0 = (ar H 64).getD q 0) → Q none H') : Wp scr (d + 1) 57 0 [some (.ref 62), some (.ref 30), none, none] [] H Q := by
  have e10 : nI t * 10 = nI (10 * t) := by rw [show (10 : Int32) = nI 10 from rfl, pk_mul, Nat.mul_comm]
  simp (maxDischargeDepth := 12) only [w57_0, w57_1, w57_4, w57_6, w57_7, w57_8, w57_9, w57_11, w57_13, w57_16, w57_17, w57_20, w57_21, w57_22, w57_23, w57_24, w57_27, w57_28, w57_31, w57_34, w57_37, w57_40, w57_41, w57_44, w57_45, w57_47, w57_48, w57_49, w57_52, w57_55, w57_56, w57_59, w57_60, w57_62, w57_63, w57_64, w57_65, w57_66, w57_69, w57_72, w57_73, w57_76, w57_77, w57_79, w57_80, w57_81, w57_82, w57_83, w57_86, w57_89, w57_90, w57_91, w57_94, w57_95, w57_96, w57_97, w57_100, w57_103, w57_104, w57_107, w57_108, w57_111, w57_112, w57_113, w57_116, w57_117, w57_118, w57_121, w57_122, w57_123, w57_124, w57_127, w57_130, w57_133, oK_some, cont_int, cont_intS, cont_none, cont_noneS, cont_long, cont_longS, true_and, and_true, false_and, and_false, true_implies, false_implies, not_true_eq_false, not_false_eq_true, eq_self, or_true, true_or, Option.isSome_some, hpf_length, hpa_length, bI_eq0, fi_hpa, fl_hpa, ar_hpf, fi_hpf_ne, fl_hpf_ne, ar_hpa_ne, hpa_hpa, hpf_hpf, nI_1, two_ne, fokZ, implies_true, Nat.reduceEqDiff, g_62_3, sf_62_3, fe_62_3, g_65_3, sf_65_3, fe_65_3, g_62_1, rc_63, g_65_1, rc_66, g_30_0, rc_31, g_34_0, rc_35, g_45_0, rc_46, rc_1, rc_37, rc_39, rc_41, rc_48, rc_50, rc_53, rc_55, rc_57, rc_59, g_30_1, sf_30_1, fe_30_1, g_34_1, sf_34_1, fe_34_1, g_45_1, sf_45_1, fe_45_1, g_30_2, sf_30_2, fe_30_2, g_34_2, sf_34_2, fe_34_2, g_45_2, sf_45_2, fe_45_2, g_30_3, sf_30_3, fe_30_3, g_34_3, sf_34_3, fe_34_3, g_45_3, sf_45_3, fe_45_3, g_62_0, sf_62_0, fe_62_0, g_65_0, sf_65_0, fe_65_0, g_62_2, sf_62_2, fe_62_2, g_65_2, sf_65_2, fe_65_2, hS, h3, e10]
  have key := down (P := fun r => ∀ H2, Fg [64] [] H H2 → (∀ q, (ar H2 64).getD q 0 = if 10 * t ≤ q ∧ q < 10 * t + r then (ar H 32).getD (q - 10 * t) 0 else (ar H 64).getD q 0) → Wp scr (d + 1) 57 10 [some (.ref 62), some (.ref 30), some (.int (nI (10 * t))), some (.int (nI r))] [] H2 Q) 7 ?_ ?_
  · exact key H (Fg.rfl' hS) (fun q => by rw [if_neg (by omega)])
  · intro H2 hF2 a2
    have hs2 := hF2.shp
    have l2 : (ar H2 64).length = 160 := gn_64 hs2
    have k1 : fi H2 30 1 = st.getD 9 0 := by rw [hF2.int (by decide) (by decide), hN.2.1]
    have k2 : fi H2 30 2 = st.getD 7 0 := by rw [hF2.int (by decide) (by decide), hN.2.2.1]
    have k3 : fi H2 30 3 = st.getD 8 0 := by rw [hF2.int (by decide) (by decide), hN.2.2.2]
    have q0 : fi H2 62 0 = nI 16 := by rw [hF2.int (by decide) (by decide), h0]
    have q3 : fi H2 62 3 = nI t := by rw [hF2.int (by decide) (by decide), h3]
    have q2 : fi H2 62 2 = nI c := by rw [hF2.int (by decide) (by decide), h2]
    have cs0 : ∀ i x Q', Wp scr d 3 0 [some (.ref 63), some (.int i), some (.int x)] [] H2 Q' ↔ Q' none (hpa H2 64 (cSet (ar H2 64) i x)) := fun i x Q' => c_Cells_set (g_63_0 hs2) (ga_64 hs2) (by rw [l2]; decide)
    have cs : ∀ xs, xs.length = 160 → ∀ i x Q', Wp scr d 3 0 [some (.ref 63), some (.int i), some (.int x)] [] (hpa H2 64 xs) Q' ↔ Q' none (hpa H2 64 (cSet xs i x)) := fun xs hl i x Q' => by
      have hs3 := sa_64 hs2 hl
      have := c_Cells_set (scr := scr) (d := d) (Q := Q') (i := i) (x := x) (g_63_0 hs3) (ga_64 hs3) (by rw [ae_64 hs2, hl]; decide)
      rw [ae_64 hs2, hpa_hpa] at this
      exact this
    rw [w57_10]
    simp (maxDischargeDepth := 12) only [w57_0, w57_1, w57_4, w57_6, w57_7, w57_8, w57_9, w57_11, w57_13, w57_16, w57_17, w57_20, w57_21, w57_22, w57_23, w57_24, w57_27, w57_28, w57_31, w57_34, w57_37, w57_40, w57_41, w57_44, w57_45, w57_47, w57_48, w57_49, w57_52, w57_55, w57_56, w57_59, w57_60, w57_62, w57_63, w57_64, w57_65, w57_66, w57_69, w57_72, w57_73, w57_76, w57_77, w57_79, w57_80, w57_81, w57_82, w57_83, w57_86, w57_89, w57_90, w57_91, w57_94, w57_95, w57_96, w57_97, w57_100, w57_103, w57_104, w57_107, w57_108, w57_111, w57_112, w57_113, w57_116, w57_117, w57_118, w57_121, w57_122, w57_123, w57_124, w57_127, w57_130, w57_133, oK_some, cont_int, cont_intS, cont_none, cont_noneS, cont_long, cont_longS, true_and, and_true, false_and, and_false, true_implies, false_implies, not_true_eq_false, not_false_eq_true, eq_self, or_true, true_or, Option.isSome_some, hpf_length, hpa_length, bI_eq0, fi_hpa, fl_hpa, ar_hpf, fi_hpf_ne, fl_hpf_ne, ar_hpa_ne, hpa_hpa, hpf_hpf, nI_1, two_ne, fokZ, implies_true, Nat.reduceEqDiff, g_62_3, sf_62_3, fe_62_3, g_65_3, sf_65_3, fe_65_3, g_62_1, rc_63, g_65_1, rc_66, g_30_0, rc_31, g_34_0, rc_35, g_45_0, rc_46, rc_1, rc_37, rc_39, rc_41, rc_48, rc_50, rc_53, rc_55, rc_57, rc_59, g_30_1, sf_30_1, fe_30_1, g_34_1, sf_34_1, fe_34_1, g_45_1, sf_45_1, fe_45_1, g_30_2, sf_30_2, fe_30_2, g_34_2, sf_34_2, fe_34_2, g_45_2, sf_45_2, fe_45_2, g_30_3, sf_30_3, fe_30_3, g_34_3, sf_34_3, fe_34_3, g_45_3, sf_45_3, fe_45_3, g_62_0, sf_62_0, fe_62_0, g_65_0, sf_65_0, fe_65_0, g_62_2, sf_62_2, fe_62_2, g_65_2, sf_65_2, fe_65_2, hs2, sa_64, cSet_length, l2, cs0, cs, show ((7 : Int32) ≤ nI 7) = True from eq_true (by decide), k1, k2, k3, ixa (10 * t) 7 (v := 7) rfl, ixa (10 * t + 7) 2 (v := 2) rfl, q0, q2, q3, c_min, mn_nI (show c + 1 < 100000 by omega) (show 16 < 100000 by decide), nI_ltI (show t + 1 < 2 ^ 31 by omega) (show 16 < 2 ^ 31 by decide)]
    generalize hX : cSet (cSet (cSet (ar H2 64) (nI (10 * t + 7)) (st.getD 9 0)) (nI (10 * t + 7 + 1)) (st.getD 7 0)) (nI (10 * t + 7 + 2)) (st.getD 8 0) = X
    have hlX : X.length = 160 := by rw [← hX, cSet_length, cSet_length, cSet_length, l2]
    have hs3 : Shp (hpa H2 64 X) := sa_64 hs2 hlX
    have gX : ∀ q, X.getD q 0 = if q = 10 * t + 9 then st.getD 8 0 else if q = 10 * t + 8 then st.getD 7 0 else if q = 10 * t + 7 then st.getD 9 0 else (ar H2 64).getD q 0 := by
      intro q
      rw [← hX, cSet_getD (by omega), cSet_getD (by omega), cSet_getD (by omega), cSet_length, cSet_length, l2]
      by_cases e9 : q = 10 * t + 9
      · rw [if_pos ⟨by omega, by omega⟩, if_pos e9]
      · rw [if_neg (by omega), if_neg e9]
        by_cases e8 : q = 10 * t + 8
        · rw [if_pos ⟨by omega, by omega⟩, if_pos e8]
        · rw [if_neg (by omega), if_neg e8]
          by_cases e7 : q = 10 * t + 7
          · rw [if_pos ⟨by omega, by omega⟩, if_pos e7]
          · rw [if_neg (by omega), if_neg e7]
    have fin : ∀ v : Int32, v = nI ((t + 1) % 16) → Q none (hpf (hpf (hpa H2 64 X) 62 3 (.int v)) 62 2 (.int (nI (min (c + 1) 16)))) := by
      intro v hv
      have t3 := sf_62_3 (v := v) hs3
      refine hQ _ (((hF2.mono (by decide) (by decide)).trans (fg_hpa hs2 (by rw [hlX, l2]) (by decide))).trans (((fg_hpf (a := 62) (f := 3) (ci := 5) hs3 rfl (by decide))).trans (fg_hpf (a := 62) (f := 2) (ci := 5) t3 rfl (by decide)))) ?_ ?_ ⟨fun i hi => ?_, ?_, ?_, ?_⟩ (fun q hq => ?_)
      · rw [fi_hpf_ne (by decide), fe_62_3 hs3, hv]
      · rw [fe_62_2 t3]
      · rw [ar_hpf, ar_hpf, ae_64 hs2, gX, if_neg (by omega), if_neg (by omega), if_neg (by omega), a2, if_pos (by omega), show 10 * t + i - 10 * t = i by omega, hN.1 i hi]
      · rw [ar_hpf, ar_hpf, ae_64 hs2, gX, if_neg (by omega), if_neg (by omega), if_pos rfl]
      · rw [ar_hpf, ar_hpf, ae_64 hs2, gX, if_neg (by omega), if_pos rfl]
      · rw [ar_hpf, ar_hpf, ae_64 hs2, gX, if_pos rfl]
      · rw [ar_hpf, ar_hpf, ae_64 hs2, gX, if_neg (by omega), if_neg (by omega), if_neg (by omega), a2, if_neg (by omega)]
    have z3 := fun v => sf_62_3 (v := v) hs3
    by_cases hl : t + 1 < 16
    · simp (maxDischargeDepth := 12) only [w57_0, w57_1, w57_4, w57_6, w57_7, w57_8, w57_9, w57_11, w57_13, w57_16, w57_17, w57_20, w57_21, w57_22, w57_23, w57_24, w57_27, w57_28, w57_31, w57_34, w57_37, w57_40, w57_41, w57_44, w57_45, w57_47, w57_48, w57_49, w57_52, w57_55, w57_56, w57_59, w57_60, w57_62, w57_63, w57_64, w57_65, w57_66, w57_69, w57_72, w57_73, w57_76, w57_77, w57_79, w57_80, w57_81, w57_82, w57_83, w57_86, w57_89, w57_90, w57_91, w57_94, w57_95, w57_96, w57_97, w57_100, w57_103, w57_104, w57_107, w57_108, w57_111, w57_112, w57_113, w57_116, w57_117, w57_118, w57_121, w57_122, w57_123, w57_124, w57_127, w57_130, w57_133, oK_some, cont_int, cont_intS, cont_none, cont_noneS, cont_long, cont_longS, true_and, and_true, false_and, and_false, true_implies, false_implies, not_true_eq_false, not_false_eq_true, eq_self, or_true, true_or, Option.isSome_some, hpf_length, hpa_length, bI_eq0, fi_hpa, fl_hpa, ar_hpf, fi_hpf_ne, fl_hpf_ne, ar_hpa_ne, hpa_hpa, hpf_hpf, nI_1, two_ne, fokZ, implies_true, Nat.reduceEqDiff, g_62_3, sf_62_3, fe_62_3, g_65_3, sf_65_3, fe_65_3, g_62_1, rc_63, g_65_1, rc_66, g_30_0, rc_31, g_34_0, rc_35, g_45_0, rc_46, rc_1, rc_37, rc_39, rc_41, rc_48, rc_50, rc_53, rc_55, rc_57, rc_59, g_30_1, sf_30_1, fe_30_1, g_34_1, sf_34_1, fe_34_1, g_45_1, sf_45_1, fe_45_1, g_30_2, sf_30_2, fe_30_2, g_34_2, sf_34_2, fe_34_2, g_45_2, sf_45_2, fe_45_2, g_30_3, sf_30_3, fe_30_3, g_34_3, sf_34_3, fe_34_3, g_45_3, sf_45_3, fe_45_3, g_62_0, sf_62_0, fe_62_0, g_65_0, sf_65_0, fe_65_0, g_62_2, sf_62_2, fe_62_2, g_65_2, sf_65_2, fe_65_2, hl, hs3, q0, q2, q3, z3, c_min, mn_nI (show c + 1 < 100000 by omega) (show 16 < 100000 by decide)]
      exact fin _ (by rw [Nat.mod_eq_of_lt hl])
    · simp (maxDischargeDepth := 12) only [w57_0, w57_1, w57_4, w57_6, w57_7, w57_8, w57_9, w57_11, w57_13, w57_16, w57_17, w57_20, w57_21, w57_22, w57_23, w57_24, w57_27, w57_28, w57_31, w57_34, w57_37, w57_40, w57_41, w57_44, w57_45, w57_47, w57_48, w57_49, w57_52, w57_55, w57_56, w57_59, w57_60, w57_62, w57_63, w57_64, w57_65, w57_66, w57_69, w57_72, w57_73, w57_76, w57_77, w57_79, w57_80, w57_81, w57_82, w57_83, w57_86, w57_89, w57_90, w57_91, w57_94, w57_95, w57_96, w57_97, w57_100, w57_103, w57_104, w57_107, w57_108, w57_111, w57_112, w57_113, w57_116, w57_117, w57_118, w57_121, w57_122, w57_123, w57_124, w57_127, w57_130, w57_133, oK_some, cont_int, cont_intS, cont_none, cont_noneS, cont_long, cont_longS, true_and, and_true, false_and, and_false, true_implies, false_implies, not_true_eq_false, not_false_eq_true, eq_self, or_true, true_or, Option.isSome_some, hpf_length, hpa_length, bI_eq0, fi_hpa, fl_hpa, ar_hpf, fi_hpf_ne, fl_hpf_ne, ar_hpa_ne, hpa_hpa, hpf_hpf, nI_1, two_ne, fokZ, implies_true, Nat.reduceEqDiff, g_62_3, sf_62_3, fe_62_3, g_65_3, sf_65_3, fe_65_3, g_62_1, rc_63, g_65_1, rc_66, g_30_0, rc_31, g_34_0, rc_35, g_45_0, rc_46, rc_1, rc_37, rc_39, rc_41, rc_48, rc_50, rc_53, rc_55, rc_57, rc_59, g_30_1, sf_30_1, fe_30_1, g_34_1, sf_34_1, fe_34_1, g_45_1, sf_45_1, fe_45_1, g_30_2, sf_30_2, fe_30_2, g_34_2, sf_34_2, fe_34_2, g_45_2, sf_45_2, fe_45_2, g_30_3, sf_30_3, fe_30_3, g_34_3, sf_34_3, fe_34_3, g_45_3, sf_45_3, fe_45_3, g_62_0, sf_62_0, fe_62_0, g_65_0, sf_65_0, fe_65_0, g_62_2, sf_62_2, fe_62_2, g_65_2, sf_65_2, fe_65_2, hl, hs3, q0, q2, q3, z3, c_min, mn_nI (show c + 1 < 100000 by omega) (show 16 < 100000 by decide)]
      exact fin 0 (by rw [show t + 1 = 16 by omega, Nat.mod_self]; rfl)
  · intro r hr hw H2 hF2 a2
    have hs2 := hF2.shp
    have l2 : (ar H2 64).length = 160 := gn_64 hs2
    have hx32 : (ar H2 32).length < 2147483648 := by rw [gn_32 hs2]; decide
    rw [w57_10]
    simp (maxDischargeDepth := 12) only [w57_0, w57_1, w57_4, w57_6, w57_7, w57_8, w57_9, w57_11, w57_13, w57_16, w57_17, w57_20, w57_21, w57_22, w57_23, w57_24, w57_27, w57_28, w57_31, w57_34, w57_37, w57_40, w57_41, w57_44, w57_45, w57_47, w57_48, w57_49, w57_52, w57_55, w57_56, w57_59, w57_60, w57_62, w57_63, w57_64, w57_65, w57_66, w57_69, w57_72, w57_73, w57_76, w57_77, w57_79, w57_80, w57_81, w57_82, w57_83, w57_86, w57_89, w57_90, w57_91, w57_94, w57_95, w57_96, w57_97, w57_100, w57_103, w57_104, w57_107, w57_108, w57_111, w57_112, w57_113, w57_116, w57_117, w57_118, w57_121, w57_122, w57_123, w57_124, w57_127, w57_130, w57_133, oK_some, cont_int, cont_intS, cont_none, cont_noneS, cont_long, cont_longS, true_and, and_true, false_and, and_false, true_implies, false_implies, not_true_eq_false, not_false_eq_true, eq_self, or_true, true_or, Option.isSome_some, hpf_length, hpa_length, bI_eq0, fi_hpa, fl_hpa, ar_hpf, fi_hpf_ne, fl_hpf_ne, ar_hpa_ne, hpa_hpa, hpf_hpf, nI_1, two_ne, fokZ, implies_true, Nat.reduceEqDiff, g_62_3, sf_62_3, fe_62_3, g_65_3, sf_65_3, fe_65_3, g_62_1, rc_63, g_65_1, rc_66, g_30_0, rc_31, g_34_0, rc_35, g_45_0, rc_46, rc_1, rc_37, rc_39, rc_41, rc_48, rc_50, rc_53, rc_55, rc_57, rc_59, g_30_1, sf_30_1, fe_30_1, g_34_1, sf_34_1, fe_34_1, g_45_1, sf_45_1, fe_45_1, g_30_2, sf_30_2, fe_30_2, g_34_2, sf_34_2, fe_34_2, g_45_2, sf_45_2, fe_45_2, g_30_3, sf_30_3, fe_30_3, g_34_3, sf_34_3, fe_34_3, g_45_3, sf_45_3, fe_45_3, g_62_0, sf_62_0, fe_62_0, g_65_0, sf_65_0, fe_65_0, g_62_2, sf_62_2, fe_62_2, g_65_2, sf_65_2, fe_65_2, hs2, show ((7 : Int32) ≤ nI r) = False from eq_false (nI_ge (b := 7) hr (by decide)), nI_add, c_Cells_at (g_31_0 hs2) (ga_32 hs2) hx32, cAt_nI (show r < 2147483648 by omega), c_Cells_set (g_63_0 hs2) (ga_64 hs2) (by rw [l2]; decide)]
    refine hw _ (hF2.trans (fg_hpa hs2 (by rw [cSet_length]) (by decide))) (fun q => ?_)
    rw [ae_64 hs2, cSet_getD (by omega), l2, a2, hF2.arr (by decide)]
    by_cases e : 10 * t + r = q
    · rw [if_pos ⟨e, by omega⟩, if_pos (by omega), ← e, show 10 * t + r - 10 * t = r by omega]
    · rw [if_neg (fun z => e z.1)]
      by_cases c : 10 * t ≤ q ∧ q < 10 * t + r
      · rw [if_pos c, if_pos (by omega)]
      · rw [if_neg c, if_neg (by omega)]
theorem c_read62 {j : Nat} (hS : Shp H) (hj : j < 16) (hl : Slot (ar H 64) j ws n) (hn : n ≤ 7) (hQ : ∀ H', Fg [30, 32] [] H H' → Sn H' 30 32 ws n → Q none H') : Wp scr (d + 1) 58 0 [some (.ref 62), some (.int (nI j)), some (.ref 30), none, none] [] H Q := by
  have e10 : nI j * 10 = nI (10 * j) := by rw [show (10 : Int32) = nI 10 from rfl, pk_mul, Nat.mul_comm]
  simp (maxDischargeDepth := 12) only [w58_0, w58_1, w58_3, w58_4, w58_5, w58_6, w58_10, w58_12, w58_15, w58_16, w58_19, w58_21, w58_22, w58_25, w58_26, w58_28, w58_29, w58_32, w58_35, w58_38, w58_41, w58_42, w58_43, w58_46, w58_47, w58_49, w58_50, w58_53, w58_56, w58_57, w58_58, w58_61, w58_62, w58_64, w58_65, w58_66, w58_67, w58_70, w58_73, w58_74, w58_75, w58_78, w58_79, w58_81, w58_82, w58_83, w58_84, w58_87, w58_90, oK_some, cont_int, cont_intS, cont_none, cont_noneS, cont_long, cont_longS, true_and, and_true, false_and, and_false, true_implies, false_implies, not_true_eq_false, not_false_eq_true, eq_self, or_true, true_or, Option.isSome_some, hpf_length, hpa_length, bI_eq0, fi_hpa, fl_hpa, ar_hpf, fi_hpf_ne, fl_hpf_ne, ar_hpa_ne, hpa_hpa, hpf_hpf, nI_1, two_ne, fokZ, implies_true, Nat.reduceEqDiff, g_30_0, rc_31, g_34_0, rc_35, g_45_0, rc_46, g_62_1, rc_63, g_65_1, rc_66, rc_1, rc_37, rc_39, rc_41, rc_48, rc_50, rc_53, rc_55, rc_57, rc_59, g_30_1, sf_30_1, fe_30_1, g_34_1, sf_34_1, fe_34_1, g_45_1, sf_45_1, fe_45_1, g_30_2, sf_30_2, fe_30_2, g_34_2, sf_34_2, fe_34_2, g_45_2, sf_45_2, fe_45_2, g_30_3, sf_30_3, fe_30_3, g_34_3, sf_34_3, fe_34_3, g_45_3, sf_45_3, fe_45_3, e10]
  have key := down (P := fun r => ∀ H2, Fg [32] [] H H2 → (∀ i, i < r → (ar H2 32).getD i 0 = (ar H 64).getD (10 * j + i) 0) → Wp scr (d + 1) 58 8 [some (.ref 62), some (.int (nI j)), some (.ref 30), some (.int (nI (10 * j))), some (.int (nI r))] [] H2 Q) 7 ?_ ?_
  · exact key H (Fg.rfl' hS) (fun i hi => absurd hi (Nat.not_lt_zero _))
  · intro H2 hF2 a2
    have hs2 := hF2.shp
    have ea : ar H2 64 = ar H 64 := hF2.arr (by decide)
    have t1 := fun v => sf_30_1 (v := v) hs2
    have t2 := fun v v' => sf_30_2 (v := v) (t1 v')
    have ca : ∀ H3, Shp H3 → ar H3 64 = ar H 64 → ∀ i Q', Wp scr d 2 0 [some (.ref 63), some (.int i)] [] H3 Q' ↔ Q' (some (.int (cAt (ar H 64) i))) H3 := fun H3 h3 e3 i Q' => by
      have := c_Cells_at (scr := scr) (d := d) (Q := Q') (i := i) (g_63_0 h3) (ga_64 h3) (by rw [gn_64 h3]; decide)
      rw [e3] at this
      exact this
    rw [w58_8]
    simp (maxDischargeDepth := 12) only [w58_0, w58_1, w58_3, w58_4, w58_5, w58_6, w58_10, w58_12, w58_15, w58_16, w58_19, w58_21, w58_22, w58_25, w58_26, w58_28, w58_29, w58_32, w58_35, w58_38, w58_41, w58_42, w58_43, w58_46, w58_47, w58_49, w58_50, w58_53, w58_56, w58_57, w58_58, w58_61, w58_62, w58_64, w58_65, w58_66, w58_67, w58_70, w58_73, w58_74, w58_75, w58_78, w58_79, w58_81, w58_82, w58_83, w58_84, w58_87, w58_90, oK_some, cont_int, cont_intS, cont_none, cont_noneS, cont_long, cont_longS, true_and, and_true, false_and, and_false, true_implies, false_implies, not_true_eq_false, not_false_eq_true, eq_self, or_true, true_or, Option.isSome_some, hpf_length, hpa_length, bI_eq0, fi_hpa, fl_hpa, ar_hpf, fi_hpf_ne, fl_hpf_ne, ar_hpa_ne, hpa_hpa, hpf_hpf, nI_1, two_ne, fokZ, implies_true, Nat.reduceEqDiff, g_30_0, rc_31, g_34_0, rc_35, g_45_0, rc_46, g_62_1, rc_63, g_65_1, rc_66, rc_1, rc_37, rc_39, rc_41, rc_48, rc_50, rc_53, rc_55, rc_57, rc_59, g_30_1, sf_30_1, fe_30_1, g_34_1, sf_34_1, fe_34_1, g_45_1, sf_45_1, fe_45_1, g_30_2, sf_30_2, fe_30_2, g_34_2, sf_34_2, fe_34_2, g_45_2, sf_45_2, fe_45_2, g_30_3, sf_30_3, fe_30_3, g_34_3, sf_34_3, fe_34_3, g_45_3, sf_45_3, fe_45_3, hs2, t1, t2, ca, ea, show ((7 : Int32) ≤ nI 7) = True from eq_true (by decide), ixa (10 * j) 7 (v := 7) rfl, ixa (10 * j + 7) 2 (v := 2) rfl, cAt_nI (show 10 * j + 7 < 2147483648 by omega), cAt_nI (show 10 * j + 7 + 1 < 2147483648 by omega), cAt_nI (show 10 * j + 7 + 2 < 2147483648 by omega)]
    obtain ⟨l1, l2, l3, l4⟩ := hl
    rw [l2, show 10 * j + 7 + 1 = 10 * j + 8 by omega, l3, show 10 * j + 7 + 2 = 10 * j + 9 by omega, l4]
    refine hQ _ (((hF2.mono (by decide) (by decide)).trans (fr_hpf (S := [30, 32]) (ci := 8) hs2 rfl (by decide)).fg).trans ((fr_hpf (S := [30, 32]) (ci := 8) (t1 _) rfl (by decide)).fg.trans (fr_hpf (S := [30, 32]) (ci := 8) (t2 _ _) rfl (by decide)).fg)) ⟨fun i hi => ?_, ?_, ?_, ?_⟩
    · rw [ar_hpf, ar_hpf, ar_hpf, a2 i (by omega), l1 i hi]
    · rw [fi_hpf_ne (by decide), fi_hpf_ne (by decide), fe_30_1 hs2]
    · rw [fi_hpf_ne (by decide), fe_30_2 (t1 _)]
    · rw [fe_30_3 (t2 _ _)]
  · intro r hr hw H2 hF2 a2
    have hs2 := hF2.shp
    have ea : ar H2 64 = ar H 64 := hF2.arr (by decide)
    have hx : (ar H2 64).length < 2147483648 := by rw [gn_64 hs2]; decide
    have hx32 : (ar H2 32).length < 2147483648 := by rw [gn_32 hs2]; decide
    rw [w58_8]
    simp (maxDischargeDepth := 12) only [w58_0, w58_1, w58_3, w58_4, w58_5, w58_6, w58_10, w58_12, w58_15, w58_16, w58_19, w58_21, w58_22, w58_25, w58_26, w58_28, w58_29, w58_32, w58_35, w58_38, w58_41, w58_42, w58_43, w58_46, w58_47, w58_49, w58_50, w58_53, w58_56, w58_57, w58_58, w58_61, w58_62, w58_64, w58_65, w58_66, w58_67, w58_70, w58_73, w58_74, w58_75, w58_78, w58_79, w58_81, w58_82, w58_83, w58_84, w58_87, w58_90, oK_some, cont_int, cont_intS, cont_none, cont_noneS, cont_long, cont_longS, true_and, and_true, false_and, and_false, true_implies, false_implies, not_true_eq_false, not_false_eq_true, eq_self, or_true, true_or, Option.isSome_some, hpf_length, hpa_length, bI_eq0, fi_hpa, fl_hpa, ar_hpf, fi_hpf_ne, fl_hpf_ne, ar_hpa_ne, hpa_hpa, hpf_hpf, nI_1, two_ne, fokZ, implies_true, Nat.reduceEqDiff, g_30_0, rc_31, g_34_0, rc_35, g_45_0, rc_46, g_62_1, rc_63, g_65_1, rc_66, rc_1, rc_37, rc_39, rc_41, rc_48, rc_50, rc_53, rc_55, rc_57, rc_59, g_30_1, sf_30_1, fe_30_1, g_34_1, sf_34_1, fe_34_1, g_45_1, sf_45_1, fe_45_1, g_30_2, sf_30_2, fe_30_2, g_34_2, sf_34_2, fe_34_2, g_45_2, sf_45_2, fe_45_2, g_30_3, sf_30_3, fe_30_3, g_34_3, sf_34_3, fe_34_3, g_45_3, sf_45_3, fe_45_3, hs2, show ((7 : Int32) ≤ nI r) = False from eq_false (nI_ge (b := 7) hr (by decide)), nI_add, c_Cells_at (g_63_0 hs2) (ga_64 hs2) hx, cAt_nI (show 10 * j + r < 2147483648 by omega), ea, c_Cells_set (g_31_0 hs2) (ga_32 hs2) hx32]
    refine hw _ (hF2.trans (fg_hpa hs2 (by rw [cSet_length]) (by decide))) (fun i hi => ?_)
    rw [ae_32 hs2, cSet_getD (by omega), gn_32 hs2]
    by_cases e : r = i
    · subst e; rw [if_pos ⟨rfl, by omega⟩]
    · rw [if_neg (fun z => e z.1), a2 i (by omega)]
theorem c_keep65 {t c : Nat} (hS : Shp H) (hN : Sn H 30 32 st n) (hn : n ≤ 7) (h0 : fi H 65 0 = nI 3) (h3 : fi H 65 3 = nI t) (h2 : fi H 65 2 = nI c) (ht : t < 3) (hc : c ≤ 3) (hQ : ∀ H', Fg [67] [(65, 2), (65, 3)] H H' → fi H' 65 3 = nI ((t + 1) % 3) → fi H' 65 2 = nI (min (c + 1) 3) → Slot (ar H' 67) t st n → (∀ q, q < 10 * t ∨ 10 * t + 10 ≤ q → (ar H' 67).getD q 0 = (ar H 67).getD q 0) → Q none H') : Wp scr (d + 1) 57 0 [some (.ref 65), some (.ref 30), none, none] [] H Q := by
  have e10 : nI t * 10 = nI (10 * t) := by rw [show (10 : Int32) = nI 10 from rfl, pk_mul, Nat.mul_comm]
  simp (maxDischargeDepth := 12) only [w57_0, w57_1, w57_4, w57_6, w57_7, w57_8, w57_9, w57_11, w57_13, w57_16, w57_17, w57_20, w57_21, w57_22, w57_23, w57_24, w57_27, w57_28, w57_31, w57_34, w57_37, w57_40, w57_41, w57_44, w57_45, w57_47, w57_48, w57_49, w57_52, w57_55, w57_56, w57_59, w57_60, w57_62, w57_63, w57_64, w57_65, w57_66, w57_69, w57_72, w57_73, w57_76, w57_77, w57_79, w57_80, w57_81, w57_82, w57_83, w57_86, w57_89, w57_90, w57_91, w57_94, w57_95, w57_96, w57_97, w57_100, w57_103, w57_104, w57_107, w57_108, w57_111, w57_112, w57_113, w57_116, w57_117, w57_118, w57_121, w57_122, w57_123, w57_124, w57_127, w57_130, w57_133, oK_some, cont_int, cont_intS, cont_none, cont_noneS, cont_long, cont_longS, true_and, and_true, false_and, and_false, true_implies, false_implies, not_true_eq_false, not_false_eq_true, eq_self, or_true, true_or, Option.isSome_some, hpf_length, hpa_length, bI_eq0, fi_hpa, fl_hpa, ar_hpf, fi_hpf_ne, fl_hpf_ne, ar_hpa_ne, hpa_hpa, hpf_hpf, nI_1, two_ne, fokZ, implies_true, Nat.reduceEqDiff, g_62_3, sf_62_3, fe_62_3, g_65_3, sf_65_3, fe_65_3, g_62_1, rc_63, g_65_1, rc_66, g_30_0, rc_31, g_34_0, rc_35, g_45_0, rc_46, rc_1, rc_37, rc_39, rc_41, rc_48, rc_50, rc_53, rc_55, rc_57, rc_59, g_30_1, sf_30_1, fe_30_1, g_34_1, sf_34_1, fe_34_1, g_45_1, sf_45_1, fe_45_1, g_30_2, sf_30_2, fe_30_2, g_34_2, sf_34_2, fe_34_2, g_45_2, sf_45_2, fe_45_2, g_30_3, sf_30_3, fe_30_3, g_34_3, sf_34_3, fe_34_3, g_45_3, sf_45_3, fe_45_3, g_62_0, sf_62_0, fe_62_0, g_65_0, sf_65_0, fe_65_0, g_62_2, sf_62_2, fe_62_2, g_65_2, sf_65_2, fe_65_2, hS, h3, e10]
  have key := down (P := fun r => ∀ H2, Fg [67] [] H H2 → (∀ q, (ar H2 67).getD q 0 = if 10 * t ≤ q ∧ q < 10 * t + r then (ar H 32).getD (q - 10 * t) 0 else (ar H 67).getD q 0) → Wp scr (d + 1) 57 10 [some (.ref 65), some (.ref 30), some (.int (nI (10 * t))), some (.int (nI r))] [] H2 Q) 7 ?_ ?_
  · exact key H (Fg.rfl' hS) (fun q => by rw [if_neg (by omega)])
  · intro H2 hF2 a2
    have hs2 := hF2.shp
    have l2 : (ar H2 67).length = 30 := gn_67 hs2
    have k1 : fi H2 30 1 = st.getD 9 0 := by rw [hF2.int (by decide) (by decide), hN.2.1]
    have k2 : fi H2 30 2 = st.getD 7 0 := by rw [hF2.int (by decide) (by decide), hN.2.2.1]
    have k3 : fi H2 30 3 = st.getD 8 0 := by rw [hF2.int (by decide) (by decide), hN.2.2.2]
    have q0 : fi H2 65 0 = nI 3 := by rw [hF2.int (by decide) (by decide), h0]
    have q3 : fi H2 65 3 = nI t := by rw [hF2.int (by decide) (by decide), h3]
    have q2 : fi H2 65 2 = nI c := by rw [hF2.int (by decide) (by decide), h2]
    have cs0 : ∀ i x Q', Wp scr d 3 0 [some (.ref 66), some (.int i), some (.int x)] [] H2 Q' ↔ Q' none (hpa H2 67 (cSet (ar H2 67) i x)) := fun i x Q' => c_Cells_set (g_66_0 hs2) (ga_67 hs2) (by rw [l2]; decide)
    have cs : ∀ xs, xs.length = 30 → ∀ i x Q', Wp scr d 3 0 [some (.ref 66), some (.int i), some (.int x)] [] (hpa H2 67 xs) Q' ↔ Q' none (hpa H2 67 (cSet xs i x)) := fun xs hl i x Q' => by
      have hs3 := sa_67 hs2 hl
      have := c_Cells_set (scr := scr) (d := d) (Q := Q') (i := i) (x := x) (g_66_0 hs3) (ga_67 hs3) (by rw [ae_67 hs2, hl]; decide)
      rw [ae_67 hs2, hpa_hpa] at this
      exact this
    rw [w57_10]
    simp (maxDischargeDepth := 12) only [w57_0, w57_1, w57_4, w57_6, w57_7, w57_8, w57_9, w57_11, w57_13, w57_16, w57_17, w57_20, w57_21, w57_22, w57_23, w57_24, w57_27, w57_28, w57_31, w57_34, w57_37, w57_40, w57_41, w57_44, w57_45, w57_47, w57_48, w57_49, w57_52, w57_55, w57_56, w57_59, w57_60, w57_62, w57_63, w57_64, w57_65, w57_66, w57_69, w57_72, w57_73, w57_76, w57_77, w57_79, w57_80, w57_81, w57_82, w57_83, w57_86, w57_89, w57_90, w57_91, w57_94, w57_95, w57_96, w57_97, w57_100, w57_103, w57_104, w57_107, w57_108, w57_111, w57_112, w57_113, w57_116, w57_117, w57_118, w57_121, w57_122, w57_123, w57_124, w57_127, w57_130, w57_133, oK_some, cont_int, cont_intS, cont_none, cont_noneS, cont_long, cont_longS, true_and, and_true, false_and, and_false, true_implies, false_implies, not_true_eq_false, not_false_eq_true, eq_self, or_true, true_or, Option.isSome_some, hpf_length, hpa_length, bI_eq0, fi_hpa, fl_hpa, ar_hpf, fi_hpf_ne, fl_hpf_ne, ar_hpa_ne, hpa_hpa, hpf_hpf, nI_1, two_ne, fokZ, implies_true, Nat.reduceEqDiff, g_62_3, sf_62_3, fe_62_3, g_65_3, sf_65_3, fe_65_3, g_62_1, rc_63, g_65_1, rc_66, g_30_0, rc_31, g_34_0, rc_35, g_45_0, rc_46, rc_1, rc_37, rc_39, rc_41, rc_48, rc_50, rc_53, rc_55, rc_57, rc_59, g_30_1, sf_30_1, fe_30_1, g_34_1, sf_34_1, fe_34_1, g_45_1, sf_45_1, fe_45_1, g_30_2, sf_30_2, fe_30_2, g_34_2, sf_34_2, fe_34_2, g_45_2, sf_45_2, fe_45_2, g_30_3, sf_30_3, fe_30_3, g_34_3, sf_34_3, fe_34_3, g_45_3, sf_45_3, fe_45_3, g_62_0, sf_62_0, fe_62_0, g_65_0, sf_65_0, fe_65_0, g_62_2, sf_62_2, fe_62_2, g_65_2, sf_65_2, fe_65_2, hs2, sa_67, cSet_length, l2, cs0, cs, show ((7 : Int32) ≤ nI 7) = True from eq_true (by decide), k1, k2, k3, ixa (10 * t) 7 (v := 7) rfl, ixa (10 * t + 7) 2 (v := 2) rfl, q0, q2, q3, c_min, mn_nI (show c + 1 < 100000 by omega) (show 3 < 100000 by decide), nI_ltI (show t + 1 < 2 ^ 31 by omega) (show 3 < 2 ^ 31 by decide)]
    generalize hX : cSet (cSet (cSet (ar H2 67) (nI (10 * t + 7)) (st.getD 9 0)) (nI (10 * t + 7 + 1)) (st.getD 7 0)) (nI (10 * t + 7 + 2)) (st.getD 8 0) = X
    have hlX : X.length = 30 := by rw [← hX, cSet_length, cSet_length, cSet_length, l2]
    have hs3 : Shp (hpa H2 67 X) := sa_67 hs2 hlX
    have gX : ∀ q, X.getD q 0 = if q = 10 * t + 9 then st.getD 8 0 else if q = 10 * t + 8 then st.getD 7 0 else if q = 10 * t + 7 then st.getD 9 0 else (ar H2 67).getD q 0 := by
      intro q
      rw [← hX, cSet_getD (by omega), cSet_getD (by omega), cSet_getD (by omega), cSet_length, cSet_length, l2]
      by_cases e9 : q = 10 * t + 9
      · rw [if_pos ⟨by omega, by omega⟩, if_pos e9]
      · rw [if_neg (by omega), if_neg e9]
        by_cases e8 : q = 10 * t + 8
        · rw [if_pos ⟨by omega, by omega⟩, if_pos e8]
        · rw [if_neg (by omega), if_neg e8]
          by_cases e7 : q = 10 * t + 7
          · rw [if_pos ⟨by omega, by omega⟩, if_pos e7]
          · rw [if_neg (by omega), if_neg e7]
    have fin : ∀ v : Int32, v = nI ((t + 1) % 3) → Q none (hpf (hpf (hpa H2 67 X) 65 3 (.int v)) 65 2 (.int (nI (min (c + 1) 3)))) := by
      intro v hv
      have t3 := sf_65_3 (v := v) hs3
      refine hQ _ (((hF2.mono (by decide) (by decide)).trans (fg_hpa hs2 (by rw [hlX, l2]) (by decide))).trans (((fg_hpf (a := 65) (f := 3) (ci := 5) hs3 rfl (by decide))).trans (fg_hpf (a := 65) (f := 2) (ci := 5) t3 rfl (by decide)))) ?_ ?_ ⟨fun i hi => ?_, ?_, ?_, ?_⟩ (fun q hq => ?_)
      · rw [fi_hpf_ne (by decide), fe_65_3 hs3, hv]
      · rw [fe_65_2 t3]
      · rw [ar_hpf, ar_hpf, ae_67 hs2, gX, if_neg (by omega), if_neg (by omega), if_neg (by omega), a2, if_pos (by omega), show 10 * t + i - 10 * t = i by omega, hN.1 i hi]
      · rw [ar_hpf, ar_hpf, ae_67 hs2, gX, if_neg (by omega), if_neg (by omega), if_pos rfl]
      · rw [ar_hpf, ar_hpf, ae_67 hs2, gX, if_neg (by omega), if_pos rfl]
      · rw [ar_hpf, ar_hpf, ae_67 hs2, gX, if_pos rfl]
      · rw [ar_hpf, ar_hpf, ae_67 hs2, gX, if_neg (by omega), if_neg (by omega), if_neg (by omega), a2, if_neg (by omega)]
    have z3 := fun v => sf_65_3 (v := v) hs3
    by_cases hl : t + 1 < 3
    · simp (maxDischargeDepth := 12) only [w57_0, w57_1, w57_4, w57_6, w57_7, w57_8, w57_9, w57_11, w57_13, w57_16, w57_17, w57_20, w57_21, w57_22, w57_23, w57_24, w57_27, w57_28, w57_31, w57_34, w57_37, w57_40, w57_41, w57_44, w57_45, w57_47, w57_48, w57_49, w57_52, w57_55, w57_56, w57_59, w57_60, w57_62, w57_63, w57_64, w57_65, w57_66, w57_69, w57_72, w57_73, w57_76, w57_77, w57_79, w57_80, w57_81, w57_82, w57_83, w57_86, w57_89, w57_90, w57_91, w57_94, w57_95, w57_96, w57_97, w57_100, w57_103, w57_104, w57_107, w57_108, w57_111, w57_112, w57_113, w57_116, w57_117, w57_118, w57_121, w57_122, w57_123, w57_124, w57_127, w57_130, w57_133, oK_some, cont_int, cont_intS, cont_none, cont_noneS, cont_long, cont_longS, true_and, and_true, false_and, and_false, true_implies, false_implies, not_true_eq_false, not_false_eq_true, eq_self, or_true, true_or, Option.isSome_some, hpf_length, hpa_length, bI_eq0, fi_hpa, fl_hpa, ar_hpf, fi_hpf_ne, fl_hpf_ne, ar_hpa_ne, hpa_hpa, hpf_hpf, nI_1, two_ne, fokZ, implies_true, Nat.reduceEqDiff, g_62_3, sf_62_3, fe_62_3, g_65_3, sf_65_3, fe_65_3, g_62_1, rc_63, g_65_1, rc_66, g_30_0, rc_31, g_34_0, rc_35, g_45_0, rc_46, rc_1, rc_37, rc_39, rc_41, rc_48, rc_50, rc_53, rc_55, rc_57, rc_59, g_30_1, sf_30_1, fe_30_1, g_34_1, sf_34_1, fe_34_1, g_45_1, sf_45_1, fe_45_1, g_30_2, sf_30_2, fe_30_2, g_34_2, sf_34_2, fe_34_2, g_45_2, sf_45_2, fe_45_2, g_30_3, sf_30_3, fe_30_3, g_34_3, sf_34_3, fe_34_3, g_45_3, sf_45_3, fe_45_3, g_62_0, sf_62_0, fe_62_0, g_65_0, sf_65_0, fe_65_0, g_62_2, sf_62_2, fe_62_2, g_65_2, sf_65_2, fe_65_2, hl, hs3, q0, q2, q3, z3, c_min, mn_nI (show c + 1 < 100000 by omega) (show 3 < 100000 by decide)]
      exact fin _ (by rw [Nat.mod_eq_of_lt hl])
    · simp (maxDischargeDepth := 12) only [w57_0, w57_1, w57_4, w57_6, w57_7, w57_8, w57_9, w57_11, w57_13, w57_16, w57_17, w57_20, w57_21, w57_22, w57_23, w57_24, w57_27, w57_28, w57_31, w57_34, w57_37, w57_40, w57_41, w57_44, w57_45, w57_47, w57_48, w57_49, w57_52, w57_55, w57_56, w57_59, w57_60, w57_62, w57_63, w57_64, w57_65, w57_66, w57_69, w57_72, w57_73, w57_76, w57_77, w57_79, w57_80, w57_81, w57_82, w57_83, w57_86, w57_89, w57_90, w57_91, w57_94, w57_95, w57_96, w57_97, w57_100, w57_103, w57_104, w57_107, w57_108, w57_111, w57_112, w57_113, w57_116, w57_117, w57_118, w57_121, w57_122, w57_123, w57_124, w57_127, w57_130, w57_133, oK_some, cont_int, cont_intS, cont_none, cont_noneS, cont_long, cont_longS, true_and, and_true, false_and, and_false, true_implies, false_implies, not_true_eq_false, not_false_eq_true, eq_self, or_true, true_or, Option.isSome_some, hpf_length, hpa_length, bI_eq0, fi_hpa, fl_hpa, ar_hpf, fi_hpf_ne, fl_hpf_ne, ar_hpa_ne, hpa_hpa, hpf_hpf, nI_1, two_ne, fokZ, implies_true, Nat.reduceEqDiff, g_62_3, sf_62_3, fe_62_3, g_65_3, sf_65_3, fe_65_3, g_62_1, rc_63, g_65_1, rc_66, g_30_0, rc_31, g_34_0, rc_35, g_45_0, rc_46, rc_1, rc_37, rc_39, rc_41, rc_48, rc_50, rc_53, rc_55, rc_57, rc_59, g_30_1, sf_30_1, fe_30_1, g_34_1, sf_34_1, fe_34_1, g_45_1, sf_45_1, fe_45_1, g_30_2, sf_30_2, fe_30_2, g_34_2, sf_34_2, fe_34_2, g_45_2, sf_45_2, fe_45_2, g_30_3, sf_30_3, fe_30_3, g_34_3, sf_34_3, fe_34_3, g_45_3, sf_45_3, fe_45_3, g_62_0, sf_62_0, fe_62_0, g_65_0, sf_65_0, fe_65_0, g_62_2, sf_62_2, fe_62_2, g_65_2, sf_65_2, fe_65_2, hl, hs3, q0, q2, q3, z3, c_min, mn_nI (show c + 1 < 100000 by omega) (show 3 < 100000 by decide)]
      exact fin 0 (by rw [show t + 1 = 3 by omega, Nat.mod_self]; rfl)
  · intro r hr hw H2 hF2 a2
    have hs2 := hF2.shp
    have l2 : (ar H2 67).length = 30 := gn_67 hs2
    have hx32 : (ar H2 32).length < 2147483648 := by rw [gn_32 hs2]; decide
    rw [w57_10]
    simp (maxDischargeDepth := 12) only [w57_0, w57_1, w57_4, w57_6, w57_7, w57_8, w57_9, w57_11, w57_13, w57_16, w57_17, w57_20, w57_21, w57_22, w57_23, w57_24, w57_27, w57_28, w57_31, w57_34, w57_37, w57_40, w57_41, w57_44, w57_45, w57_47, w57_48, w57_49, w57_52, w57_55, w57_56, w57_59, w57_60, w57_62, w57_63, w57_64, w57_65, w57_66, w57_69, w57_72, w57_73, w57_76, w57_77, w57_79, w57_80, w57_81, w57_82, w57_83, w57_86, w57_89, w57_90, w57_91, w57_94, w57_95, w57_96, w57_97, w57_100, w57_103, w57_104, w57_107, w57_108, w57_111, w57_112, w57_113, w57_116, w57_117, w57_118, w57_121, w57_122, w57_123, w57_124, w57_127, w57_130, w57_133, oK_some, cont_int, cont_intS, cont_none, cont_noneS, cont_long, cont_longS, true_and, and_true, false_and, and_false, true_implies, false_implies, not_true_eq_false, not_false_eq_true, eq_self, or_true, true_or, Option.isSome_some, hpf_length, hpa_length, bI_eq0, fi_hpa, fl_hpa, ar_hpf, fi_hpf_ne, fl_hpf_ne, ar_hpa_ne, hpa_hpa, hpf_hpf, nI_1, two_ne, fokZ, implies_true, Nat.reduceEqDiff, g_62_3, sf_62_3, fe_62_3, g_65_3, sf_65_3, fe_65_3, g_62_1, rc_63, g_65_1, rc_66, g_30_0, rc_31, g_34_0, rc_35, g_45_0, rc_46, rc_1, rc_37, rc_39, rc_41, rc_48, rc_50, rc_53, rc_55, rc_57, rc_59, g_30_1, sf_30_1, fe_30_1, g_34_1, sf_34_1, fe_34_1, g_45_1, sf_45_1, fe_45_1, g_30_2, sf_30_2, fe_30_2, g_34_2, sf_34_2, fe_34_2, g_45_2, sf_45_2, fe_45_2, g_30_3, sf_30_3, fe_30_3, g_34_3, sf_34_3, fe_34_3, g_45_3, sf_45_3, fe_45_3, g_62_0, sf_62_0, fe_62_0, g_65_0, sf_65_0, fe_65_0, g_62_2, sf_62_2, fe_62_2, g_65_2, sf_65_2, fe_65_2, hs2, show ((7 : Int32) ≤ nI r) = False from eq_false (nI_ge (b := 7) hr (by decide)), nI_add, c_Cells_at (g_31_0 hs2) (ga_32 hs2) hx32, cAt_nI (show r < 2147483648 by omega), c_Cells_set (g_66_0 hs2) (ga_67 hs2) (by rw [l2]; decide)]
    refine hw _ (hF2.trans (fg_hpa hs2 (by rw [cSet_length]) (by decide))) (fun q => ?_)
    rw [ae_67 hs2, cSet_getD (by omega), l2, a2, hF2.arr (by decide)]
    by_cases e : 10 * t + r = q
    · rw [if_pos ⟨e, by omega⟩, if_pos (by omega), ← e, show 10 * t + r - 10 * t = r by omega]
    · rw [if_neg (fun z => e z.1)]
      by_cases c : 10 * t ≤ q ∧ q < 10 * t + r
      · rw [if_pos c, if_pos (by omega)]
      · rw [if_neg c, if_neg (by omega)]
theorem c_read65 {j : Nat} (hS : Shp H) (hj : j < 3) (hl : Slot (ar H 67) j ws n) (hn : n ≤ 7) (hQ : ∀ H', Fg [30, 32] [] H H' → Sn H' 30 32 ws n → Q none H') : Wp scr (d + 1) 58 0 [some (.ref 65), some (.int (nI j)), some (.ref 30), none, none] [] H Q := by
  have e10 : nI j * 10 = nI (10 * j) := by rw [show (10 : Int32) = nI 10 from rfl, pk_mul, Nat.mul_comm]
  simp (maxDischargeDepth := 12) only [w58_0, w58_1, w58_3, w58_4, w58_5, w58_6, w58_10, w58_12, w58_15, w58_16, w58_19, w58_21, w58_22, w58_25, w58_26, w58_28, w58_29, w58_32, w58_35, w58_38, w58_41, w58_42, w58_43, w58_46, w58_47, w58_49, w58_50, w58_53, w58_56, w58_57, w58_58, w58_61, w58_62, w58_64, w58_65, w58_66, w58_67, w58_70, w58_73, w58_74, w58_75, w58_78, w58_79, w58_81, w58_82, w58_83, w58_84, w58_87, w58_90, oK_some, cont_int, cont_intS, cont_none, cont_noneS, cont_long, cont_longS, true_and, and_true, false_and, and_false, true_implies, false_implies, not_true_eq_false, not_false_eq_true, eq_self, or_true, true_or, Option.isSome_some, hpf_length, hpa_length, bI_eq0, fi_hpa, fl_hpa, ar_hpf, fi_hpf_ne, fl_hpf_ne, ar_hpa_ne, hpa_hpa, hpf_hpf, nI_1, two_ne, fokZ, implies_true, Nat.reduceEqDiff, g_30_0, rc_31, g_34_0, rc_35, g_45_0, rc_46, g_62_1, rc_63, g_65_1, rc_66, rc_1, rc_37, rc_39, rc_41, rc_48, rc_50, rc_53, rc_55, rc_57, rc_59, g_30_1, sf_30_1, fe_30_1, g_34_1, sf_34_1, fe_34_1, g_45_1, sf_45_1, fe_45_1, g_30_2, sf_30_2, fe_30_2, g_34_2, sf_34_2, fe_34_2, g_45_2, sf_45_2, fe_45_2, g_30_3, sf_30_3, fe_30_3, g_34_3, sf_34_3, fe_34_3, g_45_3, sf_45_3, fe_45_3, e10]
  have key := down (P := fun r => ∀ H2, Fg [32] [] H H2 → (∀ i, i < r → (ar H2 32).getD i 0 = (ar H 67).getD (10 * j + i) 0) → Wp scr (d + 1) 58 8 [some (.ref 65), some (.int (nI j)), some (.ref 30), some (.int (nI (10 * j))), some (.int (nI r))] [] H2 Q) 7 ?_ ?_
  · exact key H (Fg.rfl' hS) (fun i hi => absurd hi (Nat.not_lt_zero _))
  · intro H2 hF2 a2
    have hs2 := hF2.shp
    have ea : ar H2 67 = ar H 67 := hF2.arr (by decide)
    have t1 := fun v => sf_30_1 (v := v) hs2
    have t2 := fun v v' => sf_30_2 (v := v) (t1 v')
    have ca : ∀ H3, Shp H3 → ar H3 67 = ar H 67 → ∀ i Q', Wp scr d 2 0 [some (.ref 66), some (.int i)] [] H3 Q' ↔ Q' (some (.int (cAt (ar H 67) i))) H3 := fun H3 h3 e3 i Q' => by
      have := c_Cells_at (scr := scr) (d := d) (Q := Q') (i := i) (g_66_0 h3) (ga_67 h3) (by rw [gn_67 h3]; decide)
      rw [e3] at this
      exact this
    rw [w58_8]
    simp (maxDischargeDepth := 12) only [w58_0, w58_1, w58_3, w58_4, w58_5, w58_6, w58_10, w58_12, w58_15, w58_16, w58_19, w58_21, w58_22, w58_25, w58_26, w58_28, w58_29, w58_32, w58_35, w58_38, w58_41, w58_42, w58_43, w58_46, w58_47, w58_49, w58_50, w58_53, w58_56, w58_57, w58_58, w58_61, w58_62, w58_64, w58_65, w58_66, w58_67, w58_70, w58_73, w58_74, w58_75, w58_78, w58_79, w58_81, w58_82, w58_83, w58_84, w58_87, w58_90, oK_some, cont_int, cont_intS, cont_none, cont_noneS, cont_long, cont_longS, true_and, and_true, false_and, and_false, true_implies, false_implies, not_true_eq_false, not_false_eq_true, eq_self, or_true, true_or, Option.isSome_some, hpf_length, hpa_length, bI_eq0, fi_hpa, fl_hpa, ar_hpf, fi_hpf_ne, fl_hpf_ne, ar_hpa_ne, hpa_hpa, hpf_hpf, nI_1, two_ne, fokZ, implies_true, Nat.reduceEqDiff, g_30_0, rc_31, g_34_0, rc_35, g_45_0, rc_46, g_62_1, rc_63, g_65_1, rc_66, rc_1, rc_37, rc_39, rc_41, rc_48, rc_50, rc_53, rc_55, rc_57, rc_59, g_30_1, sf_30_1, fe_30_1, g_34_1, sf_34_1, fe_34_1, g_45_1, sf_45_1, fe_45_1, g_30_2, sf_30_2, fe_30_2, g_34_2, sf_34_2, fe_34_2, g_45_2, sf_45_2, fe_45_2, g_30_3, sf_30_3, fe_30_3, g_34_3, sf_34_3, fe_34_3, g_45_3, sf_45_3, fe_45_3, hs2, t1, t2, ca, ea, show ((7 : Int32) ≤ nI 7) = True from eq_true (by decide), ixa (10 * j) 7 (v := 7) rfl, ixa (10 * j + 7) 2 (v := 2) rfl, cAt_nI (show 10 * j + 7 < 2147483648 by omega), cAt_nI (show 10 * j + 7 + 1 < 2147483648 by omega), cAt_nI (show 10 * j + 7 + 2 < 2147483648 by omega)]
    obtain ⟨l1, l2, l3, l4⟩ := hl
    rw [l2, show 10 * j + 7 + 1 = 10 * j + 8 by omega, l3, show 10 * j + 7 + 2 = 10 * j + 9 by omega, l4]
    refine hQ _ (((hF2.mono (by decide) (by decide)).trans (fr_hpf (S := [30, 32]) (ci := 8) hs2 rfl (by decide)).fg).trans ((fr_hpf (S := [30, 32]) (ci := 8) (t1 _) rfl (by decide)).fg.trans (fr_hpf (S := [30, 32]) (ci := 8) (t2 _ _) rfl (by decide)).fg)) ⟨fun i hi => ?_, ?_, ?_, ?_⟩
    · rw [ar_hpf, ar_hpf, ar_hpf, a2 i (by omega), l1 i hi]
    · rw [fi_hpf_ne (by decide), fi_hpf_ne (by decide), fe_30_1 hs2]
    · rw [fi_hpf_ne (by decide), fe_30_2 (t1 _)]
    · rw [fe_30_3 (t2 _ _)]
  · intro r hr hw H2 hF2 a2
    have hs2 := hF2.shp
    have ea : ar H2 67 = ar H 67 := hF2.arr (by decide)
    have hx : (ar H2 67).length < 2147483648 := by rw [gn_67 hs2]; decide
    have hx32 : (ar H2 32).length < 2147483648 := by rw [gn_32 hs2]; decide
    rw [w58_8]
    simp (maxDischargeDepth := 12) only [w58_0, w58_1, w58_3, w58_4, w58_5, w58_6, w58_10, w58_12, w58_15, w58_16, w58_19, w58_21, w58_22, w58_25, w58_26, w58_28, w58_29, w58_32, w58_35, w58_38, w58_41, w58_42, w58_43, w58_46, w58_47, w58_49, w58_50, w58_53, w58_56, w58_57, w58_58, w58_61, w58_62, w58_64, w58_65, w58_66, w58_67, w58_70, w58_73, w58_74, w58_75, w58_78, w58_79, w58_81, w58_82, w58_83, w58_84, w58_87, w58_90, oK_some, cont_int, cont_intS, cont_none, cont_noneS, cont_long, cont_longS, true_and, and_true, false_and, and_false, true_implies, false_implies, not_true_eq_false, not_false_eq_true, eq_self, or_true, true_or, Option.isSome_some, hpf_length, hpa_length, bI_eq0, fi_hpa, fl_hpa, ar_hpf, fi_hpf_ne, fl_hpf_ne, ar_hpa_ne, hpa_hpa, hpf_hpf, nI_1, two_ne, fokZ, implies_true, Nat.reduceEqDiff, g_30_0, rc_31, g_34_0, rc_35, g_45_0, rc_46, g_62_1, rc_63, g_65_1, rc_66, rc_1, rc_37, rc_39, rc_41, rc_48, rc_50, rc_53, rc_55, rc_57, rc_59, g_30_1, sf_30_1, fe_30_1, g_34_1, sf_34_1, fe_34_1, g_45_1, sf_45_1, fe_45_1, g_30_2, sf_30_2, fe_30_2, g_34_2, sf_34_2, fe_34_2, g_45_2, sf_45_2, fe_45_2, g_30_3, sf_30_3, fe_30_3, g_34_3, sf_34_3, fe_34_3, g_45_3, sf_45_3, fe_45_3, hs2, show ((7 : Int32) ≤ nI r) = False from eq_false (nI_ge (b := 7) hr (by decide)), nI_add, c_Cells_at (g_66_0 hs2) (ga_67 hs2) hx, cAt_nI (show 10 * j + r < 2147483648 by omega), ea, c_Cells_set (g_31_0 hs2) (ga_32 hs2) hx32]
    refine hw _ (hF2.trans (fg_hpa hs2 (by rw [cSet_length]) (by decide))) (fun i hi => ?_)
    rw [ae_32 hs2, cSet_getD (by omega), gn_32 hs2]
    by_cases e : r = i
    · subst e; rw [if_pos ⟨rfl, by omega⟩]
    · rw [if_neg (fun z => e z.1), a2 i (by omega)]
end CSHELF
