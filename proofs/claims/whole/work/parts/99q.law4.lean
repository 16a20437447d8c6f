/-! ===== the law: led, what is told, the tape, the slope ===== -/
section LED2
variable {scr : List Int32} {d n nS nW nG nU nN : Nat} {H : List AC} {R st : List Int32} {Q : Option Value → List AC → Prop}
theorem M_led2 {i : Int32} (hI : MIv H R st n nS nW nG nU nN) (hQ : Q (some (.int (nI ((ledO st n i).getD 0)))) (hpf H 68 0 (.int (if (ledO st n i).isSome = true then 0 else 1)))) : Wp scr (d + 1) 302 0 [some (.ref 68), some (.int i), none, none] [] H Q := by
  have hS := hI.shp
  have e71 := hI.2.1
  have e73 := hI.2.2.1
  have h14 := hI.2.2.2.2
  have l73 := hI.l
  have rgR : ∀ j, R.getD j 0 = rg R j := fun _ => rfl
  obtain ⟨c2, c3, c4, c5, c6, c7, b2, b3, b4, b5, b6, b7⟩ := hI.mn
  simp only [w302_0, w302_1, w302_2, w302_3]
  have key := down (P := fun k => (∀ j, j < ((List.range k).filter (fun k => decide (st.getD k 0 < 10))).length → ¬ i = nI j) → Wp scr (d + 1) 302 4 [some (.ref 68), some (.int i), some (.int (nI ((List.range k).filter (fun k => decide (st.getD k 0 < 10))).length)), some (.int (nI k))] [] H Q) n ?_ ?_
  · exact key (fun j hj => absurd hj (Nat.not_lt_zero _))
  · intro hno
    have eo : ledO st n i = none := by
      unfold ledO
      by_cases hi : i < 0
      · rw [if_pos hi]
      · rw [if_neg hi]
        rcases Nat.lt_or_ge i.toNatClampNeg ((List.range n).filter (fun k => decide (st.getD k 0 < 10))).length with q | q
        · have := hno _ q
          obtain ⟨j, hj, ej⟩ := nI_of hi
          exact absurd (by rw [ej, nI_clamp hj]) this
        · exact List.getElem?_eq_none q
    rw [eo] at hQ
    have fin : Q (some (.int (nI 0))) (hpf H 68 0 (.int 1)) := hQ
    rw [w302_4]
    simp (maxDischargeDepth := 12) only [w302_0, w302_1, w302_2, w302_3, w302_5, w302_8, w302_11, w302_12, w302_13, w302_16, w302_17, w302_18, w302_21, w302_22, w302_25, w302_26, w302_29, w302_32, w302_35, w302_36, w302_37, w302_40, w302_41, w302_42, w302_45, w302_46, w302_47, w302_50, w302_53, w302_56, w302_57, w302_58, w302_61, w302_62, oK_some, cont_int, cont_intS, cont_none, cont_noneS, cont_long, cont_longS, true_and, and_true, false_and, and_false, true_implies, false_implies, not_true_eq_false, not_false_eq_true, eq_self, or_true, true_or, Option.isSome_some, hpf_length, hpa_length, bI_eq0, fi_hpa, fl_hpa, ar_hpf, fi_hpf_ne, fl_hpf_ne, ar_hpa_ne, hpa_hpa, hpf_hpf, nI_1, two_ne, fokZ, implies_true, Nat.reduceEqDiff, g_68_14, sf_68_14, fe_68_14, g_68_15, ga_71, gn_71, sa_71, ae_71, g_68_17, ga_73, gn_73, sa_73, ae_73, g_68_0, sf_68_0, fe_68_0, kl_0, kl_1, kl_2, kl_3, kl_4, kl_5, kl_6, kl_7, kl_8, kl_9, kl_10, kl_11, kl_12, jb_0_10, jb_1_10, jb_2_10, jb_3_10, jb_4_10, jb_5_10, jb_6_10, jb_7_10, jb_8_10, jb_9_10, jb_0_211, jb_1_211, jb_2_211, jb_3_211, jb_4_211, jb_5_211, jb_6_211, jb_7_211, jb_8_211, jb_9_211, jb_10_211, jb_11_211, jb_12_211, hS, h14, e71, hI.lr, rgR, c2, nI_les, decide_eq_false_iff_not]
    by_cases hp : 0 < n
    · simp only [hp, oK_some, cont_int, cont_intS, cont_none, cont_noneS, cont_long, cont_longS, true_and, and_true, false_and, and_false, true_implies, false_implies, not_true_eq_false, not_false_eq_true, eq_self, or_true, true_or, Option.isSome_some, hpf_length, hpa_length, bI_eq0, fi_hpa, fl_hpa, ar_hpf, fi_hpf_ne, fl_hpf_ne, ar_hpa_ne, hpa_hpa, hpf_hpf, nI_1, two_ne, fokZ, implies_true, Nat.reduceEqDiff]
      exact fin
    · simp only [hp, oK_some, cont_int, cont_intS, cont_none, cont_noneS, cont_long, cont_longS, true_and, and_true, false_and, and_false, true_implies, false_implies, not_true_eq_false, not_false_eq_true, eq_self, or_true, true_or, Option.isSome_some, hpf_length, hpa_length, bI_eq0, fi_hpa, fl_hpa, ar_hpf, fi_hpf_ne, fl_hpf_ne, ar_hpa_ne, hpa_hpa, hpf_hpf, nI_1, two_ne, fokZ, implies_true, Nat.reduceEqDiff]
      exact fin
  · intro k hk hw hno
    have hp : 0 < n := by omega
    have hcl := fil_le (p := fun k => decide (st.getD k 0 < 10)) (k := k)
    rw [fil_succ] at hw
    rw [w302_4]
    simp (maxDischargeDepth := 12) only [w302_0, w302_1, w302_2, w302_3, w302_5, w302_8, w302_11, w302_12, w302_13, w302_16, w302_17, w302_18, w302_21, w302_22, w302_25, w302_26, w302_29, w302_32, w302_35, w302_36, w302_37, w302_40, w302_41, w302_42, w302_45, w302_46, w302_47, w302_50, w302_53, w302_56, w302_57, w302_58, w302_61, w302_62, oK_some, cont_int, cont_intS, cont_none, cont_noneS, cont_long, cont_longS, true_and, and_true, false_and, and_false, true_implies, false_implies, not_true_eq_false, not_false_eq_true, eq_self, or_true, true_or, Option.isSome_some, hpf_length, hpa_length, bI_eq0, fi_hpa, fl_hpa, ar_hpf, fi_hpf_ne, fl_hpf_ne, ar_hpa_ne, hpa_hpa, hpf_hpf, nI_1, two_ne, fokZ, implies_true, Nat.reduceEqDiff, g_68_14, sf_68_14, fe_68_14, g_68_15, ga_71, gn_71, sa_71, ae_71, g_68_17, ga_73, gn_73, sa_73, ae_73, g_68_0, sf_68_0, fe_68_0, kl_0, kl_1, kl_2, kl_3, kl_4, kl_5, kl_6, kl_7, kl_8, kl_9, kl_10, kl_11, kl_12, jb_0_10, jb_1_10, jb_2_10, jb_3_10, jb_4_10, jb_5_10, jb_6_10, jb_7_10, jb_8_10, jb_9_10, jb_0_211, jb_1_211, jb_2_211, jb_3_211, jb_4_211, jb_5_211, jb_6_211, jb_7_211, jb_8_211, jb_9_211, jb_10_211, jb_11_211, jb_12_211, hS, h14, hp, e71, e73, hI.lr, rgR, c2, nI_lef hk (by omega : n < 2147483648), m_doubts (ga_73 hS) (gn_73 hS) (by omega : k < 10), decide_eq_false_iff_not]
    by_cases hd : st.getD k 0 < 10
    · simp only [hd, decide_true, if_true] at hw
      simp only [hd, oK_some, cont_int, cont_intS, cont_none, cont_noneS, cont_long, cont_longS, true_and, and_true, false_and, and_false, true_implies, false_implies, not_true_eq_false, not_false_eq_true, eq_self, or_true, true_or, Option.isSome_some, hpf_length, hpa_length, bI_eq0, fi_hpa, fl_hpa, ar_hpf, fi_hpf_ne, fl_hpf_ne, ar_hpa_ne, hpa_hpa, hpf_hpf, nI_1, two_ne, fokZ, implies_true, Nat.reduceEqDiff, Bool.true_eq_false]
      by_cases he : nI ((List.range k).filter (fun k => decide (st.getD k 0 < 10))).length = i
      · have hat := fil_at (p := fun k => decide (st.getD k 0 < 10)) (k := k) (decide_eq_true hd) n hk
        have eo : ledO st n i = some k := by
          unfold ledO
          rw [← he, if_neg (nI_pos (by omega)), nI_clamp (by omega), hat]
        rw [eo] at hQ
        have fin : Q (some (.int (nI k))) (hpf H 68 0 (.int 0)) := hQ
        simp only [he, oK_some, cont_int, cont_intS, cont_none, cont_noneS, cont_long, cont_longS, true_and, and_true, false_and, and_false, true_implies, false_implies, not_true_eq_false, not_false_eq_true, eq_self, or_true, true_or, Option.isSome_some, hpf_length, hpa_length, bI_eq0, fi_hpa, fl_hpa, ar_hpf, fi_hpf_ne, fl_hpf_ne, ar_hpa_ne, hpa_hpa, hpf_hpf, nI_1, two_ne, fokZ, implies_true, Nat.reduceEqDiff]
        exact fin
      · simp only [he, oK_some, cont_int, cont_intS, cont_none, cont_noneS, cont_long, cont_longS, true_and, and_true, false_and, and_false, true_implies, false_implies, not_true_eq_false, not_false_eq_true, eq_self, or_true, true_or, Option.isSome_some, hpf_length, hpa_length, bI_eq0, fi_hpa, fl_hpa, ar_hpf, fi_hpf_ne, fl_hpf_ne, ar_hpa_ne, hpa_hpa, hpf_hpf, nI_1, two_ne, fokZ, implies_true, Nat.reduceEqDiff]
        refine hw (fun j hj => ?_)
        rcases Nat.lt_or_ge j ((List.range k).filter (fun k => decide (st.getD k 0 < 10))).length with q | q
        · exact hno j q
        · rw [show j = ((List.range k).filter (fun k => decide (st.getD k 0 < 10))).length by omega]
          exact fun z => he z.symm
    · simp only [hd, decide_false, Bool.false_eq_true, if_false, Nat.add_zero] at hw
      simp only [hd, oK_some, cont_int, cont_intS, cont_none, cont_noneS, cont_long, cont_longS, true_and, and_true, false_and, and_false, true_implies, false_implies, not_true_eq_false, not_false_eq_true, eq_self, or_true, true_or, Option.isSome_some, hpf_length, hpa_length, bI_eq0, fi_hpa, fl_hpa, ar_hpf, fi_hpf_ne, fl_hpf_ne, ar_hpa_ne, hpa_hpa, hpf_hpf, nI_1, two_ne, fokZ, implies_true, Nat.reduceEqDiff]
      exact hw hno
end LED2
theorem and255 {x : Int32} : ¬ x &&& 255 = -1 := fun h => by
  have h2 : (x &&& 255) &&& 256 = (-1 : Int32) &&& 256 := by rw [h]
  rw [Int32.and_assoc, show (255 : Int32) &&& 256 = 0 from rfl, Int32.and_zero, show (-1 : Int32) &&& 256 = 256 from rfl] at h2
  exact absurd h2 (by decide)
theorem fdT_ok {a b c e f : Int32} {t : Nat} {ys : List Int32} (h : ∀ q, ¬ ys.getD q 0 = -1) : ∀ m q, ¬ (fdT a b c e f t m ys).getD q 0 = -1
  | 0, q => h q
  | m + 1, q => by
    have e1 : fdT a b c e f t (m + 1) ys = (fdT a b c e f t m ys).set (t + m) (fdV a b c e f m) := rfl
    rw [e1, getD_set]
    split
    · unfold fdV; exact and255
    · exact fdT_ok h m q
section LAW4
variable {scr : List Int32} {d k n nS nW nG nU nN tp : Nat} {o5 o6 : Option Value} {H : List AC} {R st : List Int32} {Us Ks : List (List Int32)} {Q : Option Value → List AC → Prop}
theorem law_51 (hI : Ivv H R st Us Ks n nS nW nG nU nN tp) (hk : 6 * k + 6 ≤ scr.length) (hL : scr.length ≤ 3072) (h5 : Oi o5) (h6 : Oi o6) (hn : ∀ H', INV H' → H'.length ≤ H.length + 1 → ∀ o5 o6 : Option Value, Oi o5 → Oi o6 → Wp scr (d + 17) 0 1690 [some (.retAddr 1000), some (.ref 0), some (.ref 68), some (.ref 83), some (.int (nI (6 * k))), o5, o6] [] H' Q) : Wp scr (d + 17) 0 1677 [some (.retAddr 1000), some (.ref 0), some (.ref 68), some (.ref 83), some (.int (nI (6 * k))), o5, o6] [] H Q := by
  have hS := hI.1.shp
  obtain ⟨hVg, hVf, hVd, ⟨hl, hl1, ehl⟩, ⟨hFb, ⟨sh, hsh, esh⟩, ⟨up, hup, eup⟩, ⟨g, hg9, eg⟩⟩, hbU, hbK, hz0⟩ := hI.2.2.2.2.2.2.2.2.2
  have hgb : Gb st := ⟨g, by omega, eg⟩
  have b5' : nG ≤ 6 := hI.2.1.mn.2.2.2.2.2.2.2.2.2.1
  have h64 : sh < 64 := Nat.lt_of_lt_of_le hsh (Nat.pow_le_pow_right (by decide) b5')
  have hzG : n = 0 → nG = 0 := fun z => (hz0 z).1
  have hzW : n = 0 → nW = 0 := fun z => (hz0 z).2.1
  obtain ⟨hC, hM, hU, hK, mU, mK, ⟨t1, t2, t3, t4, t5⟩, ⟨r1, r2, r3⟩, hRm, hV⟩ := id hI
  have hG : Fg [] [(68, 0)] H (hpf H 68 0 (.int 0)) := (fg_hpf (a := 68) (f := 0) (ci := 12) hS rfl (by decide))
  have hs := hG.shp
  simp only [w0_1677, w0_1678, w0_1681, w0_1682, w0_1685, w0_1688, w0_1689, oK_some, cont_int, cont_intS, cont_none, cont_noneS, cont_long, cont_longS, true_and, and_true, false_and, and_false, true_implies, false_implies, not_true_eq_false, not_false_eq_true, eq_self, or_true, true_or, Option.isSome_some, hpf_length, hpa_length, bI_eq0, fi_hpa, fl_hpa, ar_hpf, fi_hpf_ne, fl_hpf_ne, ar_hpa_ne, hpa_hpa, hpf_hpf, nI_1, two_ne, fokZ, implies_true, Nat.reduceEqDiff, rc_0, rc_68, hS, C_trouble hS, M_trouble hS, r1]
  exact hn _ ⟨R, st, Us, Ks, n, nS, nW, nG, nU, nN, tp, inv_t hI hG⟩ (by rw [hG.len]; exact Nat.le_succ _) _ _ h5 h6
theorem law_2 (hI : Ivv H R st Us Ks n nS nW nG nU nN tp) (hk : 6 * k + 6 ≤ scr.length) (hL : scr.length ≤ 3072) (h5 : Oi o5) (h6 : Oi o6) (hn : ∀ H', INV H' → H'.length ≤ H.length + 1 → ∀ o5 o6 : Option Value, Oi o5 → Oi o6 → Wp scr (d + 17) 0 1690 [some (.retAddr 1000), some (.ref 0), some (.ref 68), some (.ref 83), some (.int (nI (6 * k))), o5, o6] [] H' Q) : Wp scr (d + 17) 0 362 [some (.retAddr 1000), some (.ref 0), some (.ref 68), some (.ref 83), some (.int (nI (6 * k))), o5, o6] [] H Q := by
  have hS := hI.1.shp
  obtain ⟨hVg, hVf, hVd, ⟨hl, hl1, ehl⟩, ⟨hFb, ⟨sh, hsh, esh⟩, ⟨up, hup, eup⟩, ⟨g, hg9, eg⟩⟩, hbU, hbK, hz0⟩ := hI.2.2.2.2.2.2.2.2.2
  have hgb : Gb st := ⟨g, by omega, eg⟩
  have b5' : nG ≤ 6 := hI.2.1.mn.2.2.2.2.2.2.2.2.2.1
  have h64 : sh < 64 := Nat.lt_of_lt_of_le hsh (Nat.pow_le_pow_right (by decide) b5')
  have hzG : n = 0 → nG = 0 := fun z => (hz0 z).1
  have hzW : n = 0 → nW = 0 := fun z => (hz0 z).2.1
  obtain ⟨hC, hM, hU, hK, mU, mK, ⟨t1, t2, t3, t4, t5⟩, ⟨r1, r2, r3⟩, hRm, hV⟩ := id hI
  have hG : Fg [] [(68, 0)] H (hpf H 68 0 (.int 0)) := (fg_hpf (a := 68) (f := 0) (ci := 12) hS rfl (by decide))
  have hs := hG.shp
  simp only [w0_362, w0_363, w0_366, w0_367, w0_370, w0_373, w0_374, oK_some, cont_int, cont_intS, cont_none, cont_noneS, cont_long, cont_longS, true_and, and_true, false_and, and_false, true_implies, false_implies, not_true_eq_false, not_false_eq_true, eq_self, or_true, true_or, Option.isSome_some, hpf_length, hpa_length, bI_eq0, fi_hpa, fl_hpa, ar_hpf, fi_hpf_ne, fl_hpf_ne, ar_hpa_ne, hpa_hpa, hpf_hpf, nI_1, two_ne, fokZ, implies_true, Nat.reduceEqDiff, rc_0, rc_68, hS, C_fault hS, M_fault hS, r2]
  exact hn _ ⟨R, st, Us, Ks, n, nS, nW, nG, nU, nN, tp, inv_t hI hG⟩ (by rw [hG.len]; exact Nat.le_succ _) _ _ h5 h6
theorem law_3 (hI : Ivv H R st Us Ks n nS nW nG nU nN tp) (hk : 6 * k + 6 ≤ scr.length) (hL : scr.length ≤ 3072) (h5 : Oi o5) (h6 : Oi o6) (hn : ∀ H', INV H' → H'.length ≤ H.length + 1 → ∀ o5 o6 : Option Value, Oi o5 → Oi o6 → Wp scr (d + 17) 0 1690 [some (.retAddr 1000), some (.ref 0), some (.ref 68), some (.ref 83), some (.int (nI (6 * k))), o5, o6] [] H' Q) : Wp scr (d + 17) 0 375 [some (.retAddr 1000), some (.ref 0), some (.ref 68), some (.ref 83), some (.int (nI (6 * k))), o5, o6] [] H Q := by
  have hS := hI.1.shp
  obtain ⟨hVg, hVf, hVd, ⟨hl, hl1, ehl⟩, ⟨hFb, ⟨sh, hsh, esh⟩, ⟨up, hup, eup⟩, ⟨g, hg9, eg⟩⟩, hbU, hbK, hz0⟩ := hI.2.2.2.2.2.2.2.2.2
  have hgb : Gb st := ⟨g, by omega, eg⟩
  have b5' : nG ≤ 6 := hI.2.1.mn.2.2.2.2.2.2.2.2.2.1
  have h64 : sh < 64 := Nat.lt_of_lt_of_le hsh (Nat.pow_le_pow_right (by decide) b5')
  have hzG : n = 0 → nG = 0 := fun z => (hz0 z).1
  have hzW : n = 0 → nW = 0 := fun z => (hz0 z).2.1
  obtain ⟨hC, hM, hU, hK, mU, mK, ⟨t1, t2, t3, t4, t5⟩, ⟨r1, r2, r3⟩, hRm, hV⟩ := id hI
  have hG : Fg [] [(68, 0)] H (hpf H 68 0 (.int 0)) := (fg_hpf (a := 68) (f := 0) (ci := 12) hS rfl (by decide))
  have hs := hG.shp
  have ew : (if fi H 0 13 = 4 then fi H 0 15 else -1) = (if fi H 68 11 = 4 then fi H 68 10 else -1) := by
    rw [← r1]
    by_cases z : fi H 0 13 = 4
    · rw [if_pos z, if_pos z, r3 z]
    · rw [if_neg z, if_neg z]
  simp only [w0_375, w0_376, w0_379, w0_380, w0_383, w0_386, w0_387, oK_some, cont_int, cont_intS, cont_none, cont_noneS, cont_long, cont_longS, true_and, and_true, false_and, and_false, true_implies, false_implies, not_true_eq_false, not_false_eq_true, eq_self, or_true, true_or, Option.isSome_some, hpf_length, hpa_length, bI_eq0, fi_hpa, fl_hpa, ar_hpf, fi_hpf_ne, fl_hpf_ne, ar_hpa_ne, hpa_hpa, hpf_hpf, nI_1, two_ne, fokZ, implies_true, Nat.reduceEqDiff, rc_0, rc_68, hS, C_where hS, M_where hS, ew]
  exact hn _ ⟨R, st, Us, Ks, n, nS, nW, nG, nU, nN, tp, inv_t hI hG⟩ (by rw [hG.len]; exact Nat.le_succ _) _ _ h5 h6
theorem law_50 (hI : Ivv H R st Us Ks n nS nW nG nU nN tp) (hk : 6 * k + 6 ≤ scr.length) (hL : scr.length ≤ 3072) (h5 : Oi o5) (h6 : Oi o6) (hn : ∀ H', INV H' → H'.length ≤ H.length + 1 → ∀ o5 o6 : Option Value, Oi o5 → Oi o6 → Wp scr (d + 17) 0 1690 [some (.retAddr 1000), some (.ref 0), some (.ref 68), some (.ref 83), some (.int (nI (6 * k))), o5, o6] [] H' Q) : Wp scr (d + 17) 0 1652 [some (.retAddr 1000), some (.ref 0), some (.ref 68), some (.ref 83), some (.int (nI (6 * k))), o5, o6] [] H Q := by
  have hS := hI.1.shp
  obtain ⟨hVg, hVf, hVd, ⟨hl, hl1, ehl⟩, ⟨hFb, ⟨sh, hsh, esh⟩, ⟨up, hup, eup⟩, ⟨g, hg9, eg⟩⟩, hbU, hbK, hz0⟩ := hI.2.2.2.2.2.2.2.2.2
  have hgb : Gb st := ⟨g, by omega, eg⟩
  have b5' : nG ≤ 6 := hI.2.1.mn.2.2.2.2.2.2.2.2.2.1
  have h64 : sh < 64 := Nat.lt_of_lt_of_le hsh (Nat.pow_le_pow_right (by decide) b5')
  have hzG : n = 0 → nG = 0 := fun z => (hz0 z).1
  have hzW : n = 0 → nW = 0 := fun z => (hz0 z).2.1
  obtain ⟨hC, hM, hU, hK, mU, mK, ⟨t1, t2, t3, t4, t5⟩, ⟨r1, r2, r3⟩, hRm, hV⟩ := id hI
  have q1 : nI (6 * k) + 1 = nI (6 * k + 1) := ixa (6 * k) 1 (v := 1) rfl
  have b1 : inb (nI (6 * k + 1)) scr.length = true := by rw [inb_nI (by omega)]; exact decide_eq_true (by omega)
  have c1 : (nI (6 * k + 1)).toNatClampNeg = 6 * k + 1 := nI_clamp (by omega)
  simp only [w0_1652, w0_1653, w0_1654, w0_1656, w0_1657, w0_1658, w0_1659, w0_1662, w0_1663, w0_1664, w0_1666, w0_1667, w0_1668, w0_1669, w0_1672, w0_1675, w0_1676, oK_some, cont_int, cont_intS, cont_none, cont_noneS, cont_long, cont_longS, true_and, and_true, false_and, and_false, true_implies, false_implies, not_true_eq_false, not_false_eq_true, eq_self, or_true, true_or, Option.isSome_some, hpf_length, hpa_length, bI_eq0, fi_hpa, fl_hpa, ar_hpf, fi_hpf_ne, fl_hpf_ne, ar_hpa_ne, hpa_hpa, hpf_hpf, nI_1, two_ne, fokZ, implies_true, Nat.reduceEqDiff, rc_0, rc_68, hS, q1, b1, c1]
  refine C_size hC hM.mn hU hK (fun z => (hz0 z).2.2) ?_
  simp only [w0_1652, w0_1653, w0_1654, w0_1656, w0_1657, w0_1658, w0_1659, w0_1662, w0_1663, w0_1664, w0_1666, w0_1667, w0_1668, w0_1669, w0_1672, w0_1675, w0_1676, oK_some, cont_int, cont_intS, cont_none, cont_noneS, cont_long, cont_longS, true_and, and_true, false_and, and_false, true_implies, false_implies, not_true_eq_false, not_false_eq_true, eq_self, or_true, true_or, Option.isSome_some, hpf_length, hpa_length, bI_eq0, fi_hpa, fl_hpa, ar_hpf, fi_hpf_ne, fl_hpf_ne, ar_hpa_ne, hpa_hpa, hpf_hpf, nI_1, two_ne, fokZ, implies_true, Nat.reduceEqDiff, rc_0, rc_68, hS, q1, b1, c1]
  refine M_size hM (fun H2 hF2 => ?_)
  have s2 := hF2.shp
  simp only [w0_1652, w0_1653, w0_1654, w0_1656, w0_1657, w0_1658, w0_1659, w0_1662, w0_1663, w0_1664, w0_1666, w0_1667, w0_1668, w0_1669, w0_1672, w0_1675, w0_1676, oK_some, cont_int, cont_intS, cont_none, cont_noneS, cont_long, cont_longS, true_and, and_true, false_and, and_false, true_implies, false_implies, not_true_eq_false, not_false_eq_true, eq_self, or_true, true_or, Option.isSome_some, hpf_length, hpa_length, bI_eq0, fi_hpa, fl_hpa, ar_hpf, fi_hpf_ne, fl_hpf_ne, ar_hpa_ne, hpa_hpa, hpf_hpf, nI_1, two_ne, fokZ, implies_true, Nat.reduceEqDiff, rc_0, rc_68, hF2.len, s2, t1, t2, mU.1, mK.1]
  exact hn _ ⟨R, st, Us, Ks, n, nS, nW, nG, nU, nN, tp, inv_t hI hF2⟩ (by rw [hF2.len]; exact Nat.le_succ _) _ _ h5 h6
theorem law_0 (hI : Ivv H R st Us Ks n nS nW nG nU nN tp) (hk : 6 * k + 6 ≤ scr.length) (hL : scr.length ≤ 3072) (h5 : Oi o5) (h6 : Oi o6) (hn : ∀ H', INV H' → H'.length ≤ H.length + 1 → ∀ o5 o6 : Option Value, Oi o5 → Oi o6 → Wp scr (d + 17) 0 1690 [some (.retAddr 1000), some (.ref 0), some (.ref 68), some (.ref 83), some (.int (nI (6 * k))), o5, o6] [] H' Q) : Wp scr (d + 17) 0 264 [some (.retAddr 1000), some (.ref 0), some (.ref 68), some (.ref 83), some (.int (nI (6 * k))), o5, o6] [] H Q := by
  have hS := hI.1.shp
  obtain ⟨hVg, hVf, hVd, ⟨hl, hl1, ehl⟩, ⟨hFb, ⟨sh, hsh, esh⟩, ⟨up, hup, eup⟩, ⟨g, hg9, eg⟩⟩, hbU, hbK, hz0⟩ := hI.2.2.2.2.2.2.2.2.2
  have hgb : Gb st := ⟨g, by omega, eg⟩
  have b5' : nG ≤ 6 := hI.2.1.mn.2.2.2.2.2.2.2.2.2.1
  have h64 : sh < 64 := Nat.lt_of_lt_of_le hsh (Nat.pow_le_pow_right (by decide) b5')
  have hzG : n = 0 → nG = 0 := fun z => (hz0 z).1
  have hzW : n = 0 → nW = 0 := fun z => (hz0 z).2.1
  obtain ⟨hC, hM, hU, hK, mU, mK, ⟨t1, t2, t3, t4, t5⟩, ⟨r1, r2, r3⟩, hRm, hV⟩ := id hI
  have q1 : nI (6 * k) + 1 = nI (6 * k + 1) := ixa (6 * k) 1 (v := 1) rfl
  have b1 : inb (nI (6 * k + 1)) scr.length = true := by rw [inb_nI (by omega)]; exact decide_eq_true (by omega)
  have c1 : (nI (6 * k + 1)).toNatClampNeg = 6 * k + 1 := nI_clamp (by omega)
  have q2 : nI (6 * k) + 2 = nI (6 * k + 2) := ixa (6 * k) 2 (v := 2) rfl
  have b2 : inb (nI (6 * k + 2)) scr.length = true := by rw [inb_nI (by omega)]; exact decide_eq_true (by omega)
  have c2 : (nI (6 * k + 2)).toNatClampNeg = 6 * k + 2 := nI_clamp (by omega)
  have q3 : nI (6 * k) + 3 = nI (6 * k + 3) := ixa (6 * k) 3 (v := 3) rfl
  have b3 : inb (nI (6 * k + 3)) scr.length = true := by rw [inb_nI (by omega)]; exact decide_eq_true (by omega)
  have c3 : (nI (6 * k + 3)).toNatClampNeg = 6 * k + 3 := nI_clamp (by omega)
  have q4 : nI (6 * k) + 4 = nI (6 * k + 4) := ixa (6 * k) 4 (v := 4) rfl
  have b4 : inb (nI (6 * k + 4)) scr.length = true := by rw [inb_nI (by omega)]; exact decide_eq_true (by omega)
  have c4 : (nI (6 * k + 4)).toNatClampNeg = 6 * k + 4 := nI_clamp (by omega)
  have q5 : nI (6 * k) + 5 = nI (6 * k + 5) := ixa (6 * k) 5 (v := 5) rfl
  have b5 : inb (nI (6 * k + 5)) scr.length = true := by rw [inb_nI (by omega)]; exact decide_eq_true (by omega)
  have c5 : (nI (6 * k + 5)).toNatClampNeg = 6 * k + 5 := nI_clamp (by omega)
  simp only [w0_264, w0_265, w0_266, w0_268, w0_269, w0_270, w0_271, w0_272, w0_274, w0_275, w0_276, w0_277, w0_278, w0_280, w0_281, w0_282, w0_283, w0_284, w0_286, w0_287, w0_288, w0_289, w0_290, w0_292, w0_293, w0_294, w0_295, w0_298, w0_299, w0_300, w0_302, w0_303, w0_304, w0_305, w0_306, w0_308, w0_309, w0_310, w0_311, w0_312, w0_314, w0_315, w0_316, w0_317, w0_318, w0_320, w0_321, w0_322, w0_323, w0_324, w0_326, w0_327, w0_328, w0_329, w0_332, w0_335, w0_336, oK_some, cont_int, cont_intS, cont_none, cont_noneS, cont_long, cont_longS, true_and, and_true, false_and, and_false, true_implies, false_implies, not_true_eq_false, not_false_eq_true, eq_self, or_true, true_or, Option.isSome_some, hpf_length, hpa_length, bI_eq0, fi_hpa, fl_hpa, ar_hpf, fi_hpf_ne, fl_hpf_ne, ar_hpa_ne, hpa_hpa, hpf_hpf, nI_1, two_ne, fokZ, implies_true, Nat.reduceEqDiff, rc_0, rc_68, hS, q1, b1, c1, q2, b2, c2, q3, b3, c3, q4, b4, c4, q5, b5, c5]
  refine C_feed hS t1 t3 (fun H1 hF1 y1 n1 => ?_)
  have s1 := hF1.shp
  have t2' : fi H1 68 2 = nI tp := (hF1.int (by decide) (by decide)).trans t2
  simp only [w0_264, w0_265, w0_266, w0_268, w0_269, w0_270, w0_271, w0_272, w0_274, w0_275, w0_276, w0_277, w0_278, w0_280, w0_281, w0_282, w0_283, w0_284, w0_286, w0_287, w0_288, w0_289, w0_290, w0_292, w0_293, w0_294, w0_295, w0_298, w0_299, w0_300, w0_302, w0_303, w0_304, w0_305, w0_306, w0_308, w0_309, w0_310, w0_311, w0_312, w0_314, w0_315, w0_316, w0_317, w0_318, w0_320, w0_321, w0_322, w0_323, w0_324, w0_326, w0_327, w0_328, w0_329, w0_332, w0_335, w0_336, oK_some, cont_int, cont_intS, cont_none, cont_noneS, cont_long, cont_longS, true_and, and_true, false_and, and_false, true_implies, false_implies, not_true_eq_false, not_false_eq_true, eq_self, or_true, true_or, Option.isSome_some, hpf_length, hpa_length, bI_eq0, fi_hpa, fl_hpa, ar_hpf, fi_hpf_ne, fl_hpf_ne, ar_hpa_ne, hpa_hpa, hpf_hpf, nI_1, two_ne, fokZ, implies_true, Nat.reduceEqDiff, rc_0, rc_68, hF1.len, s1, q1, b1, c1, q2, b2, c2, q3, b3, c3, q4, b4, c4, q5, b5, c5]
  refine M_feed s1 t2' t3 (fun H2 hF2 y2 n2 => ?_)
  have s2 := hF2.shp
  simp only [w0_264, w0_265, w0_266, w0_268, w0_269, w0_270, w0_271, w0_272, w0_274, w0_275, w0_276, w0_277, w0_278, w0_280, w0_281, w0_282, w0_283, w0_284, w0_286, w0_287, w0_288, w0_289, w0_290, w0_292, w0_293, w0_294, w0_295, w0_298, w0_299, w0_300, w0_302, w0_303, w0_304, w0_305, w0_306, w0_308, w0_309, w0_310, w0_311, w0_312, w0_314, w0_315, w0_316, w0_317, w0_318, w0_320, w0_321, w0_322, w0_323, w0_324, w0_326, w0_327, w0_328, w0_329, w0_332, w0_335, w0_336, oK_some, cont_int, cont_intS, cont_none, cont_noneS, cont_long, cont_longS, true_and, and_true, false_and, and_false, true_implies, false_implies, not_true_eq_false, not_false_eq_true, eq_self, or_true, true_or, Option.isSome_some, hpf_length, hpa_length, bI_eq0, fi_hpa, fl_hpa, ar_hpf, fi_hpf_ne, fl_hpf_ne, ar_hpa_ne, hpa_hpa, hpf_hpf, nI_1, two_ne, fokZ, implies_true, Nat.reduceEqDiff, rc_0, rc_68, hF2.len, s2]
  have a69 : ar H1 69 = ar H 69 := hF1.arr (by decide)
  have a2 : ar H2 2 = ar H1 2 := hF2.arr (by decide)
  have f01 : fi H2 0 1 = fi H1 0 1 := hF2.int (by decide) (by decide)
  have gen : ∀ tp', Tp H2 tp' → Ivv H2 R st Us Ks n nS nW nG nU nN tp' := fun tp' hT' => by
    refine ⟨(hC.of hF1 (by decide) (by decide)).of hF2 (by decide) (by decide), (hM.of hF1 (by decide) (by decide) (by decide) (by decide)).of hF2 (by decide) (by decide) (by decide) (by decide), (hU.of hF1 (by decide) (by decide) (by decide)).of hF2 (by decide) (by decide) (by decide), (hK.of hF1 (by decide) (by decide) (by decide)).of hF2 (by decide) (by decide) (by decide), (mU.of hF1 (by decide) (by decide) (by decide)).of hF2 (by decide) (by decide) (by decide), (mK.of hF1 (by decide) (by decide) (by decide)).of hF2 (by decide) (by decide) (by decide), hT', ⟨?_, ?_, ?_⟩, (hRm.of hF1 (by decide) (by decide)).of hF2 (by decide) (by decide), hV⟩
    · rw [hF2.int (a := 0) (by decide) (by decide), hF1.int (a := 0) (by decide) (by decide), hF2.int (a := 68) (by decide) (by decide), hF1.int (a := 68) (by decide) (by decide)]; exact r1
    · rw [hF2.int (a := 0) (by decide) (by decide), hF1.int (a := 0) (by decide) (by decide), hF2.int (a := 68) (by decide) (by decide), hF1.int (a := 68) (by decide) (by decide)]; exact r2
    · rw [hF2.int (a := 0) (f := 13) (by decide) (by decide), hF1.int (a := 0) (f := 13) (by decide) (by decide), hF2.int (a := 0) (f := 15) (by decide) (by decide), hF1.int (a := 0) (f := 15) (by decide) (by decide), hF2.int (a := 68) (by decide) (by decide), hF1.int (a := 68) (by decide) (by decide)]; exact r3
  by_cases hc : tp + 20 ≤ 900
  · obtain ⟨u1, u2⟩ := y1 hc
    obtain ⟨v1, v2⟩ := y2 hc
    refine hn _ ⟨R, st, Us, Ks, n, nS, nW, nG, nU, nN, tp + 20, gen (tp + 20) ⟨by rw [f01, u2], v2, hc, ?_, ?_⟩⟩ (by rw [hF2.len, hF1.len]; exact Nat.le_succ _) _ _ h5 h6
    · rw [a2, u1, v1, a69, t4]
    · rw [a2, u1]; exact fdT_ok t5 20
  · obtain ⟨u1, u2⟩ := n1 hc
    obtain ⟨v1, v2⟩ := n2 hc
    refine hn _ ⟨R, st, Us, Ks, n, nS, nW, nG, nU, nN, tp, gen tp ⟨by rw [f01, u2], v2, t3, ?_, ?_⟩⟩ (by rw [hF2.len, hF1.len]; exact Nat.le_succ _) _ _ h5 h6
    · rw [a2, u1, v1, a69, t4]
    · rw [a2, u1]; exact t5
theorem law_49 (hI : Ivv H R st Us Ks n nS nW nG nU nN tp) (hk : 6 * k + 6 ≤ scr.length) (hL : scr.length ≤ 3072) (h5 : Oi o5) (h6 : Oi o6) (hn : ∀ H', INV H' → H'.length ≤ H.length + 1 → ∀ o5 o6 : Option Value, Oi o5 → Oi o6 → Wp scr (d + 17) 0 1690 [some (.retAddr 1000), some (.ref 0), some (.ref 68), some (.ref 83), some (.int (nI (6 * k))), o5, o6] [] H' Q) : Wp scr (d + 17) 0 1596 [some (.retAddr 1000), some (.ref 0), some (.ref 68), some (.ref 83), some (.int (nI (6 * k))), o5, o6] [] H Q := by
  have hS := hI.1.shp
  obtain ⟨hVg, hVf, hVd, ⟨hl, hl1, ehl⟩, ⟨hFb, ⟨sh, hsh, esh⟩, ⟨up, hup, eup⟩, ⟨g, hg9, eg⟩⟩, hbU, hbK, hz0⟩ := hI.2.2.2.2.2.2.2.2.2
  have hgb : Gb st := ⟨g, by omega, eg⟩
  have b5' : nG ≤ 6 := hI.2.1.mn.2.2.2.2.2.2.2.2.2.1
  have h64 : sh < 64 := Nat.lt_of_lt_of_le hsh (Nat.pow_le_pow_right (by decide) b5')
  have hzG : n = 0 → nG = 0 := fun z => (hz0 z).1
  have hzW : n = 0 → nW = 0 := fun z => (hz0 z).2.1
  obtain ⟨hC, hM, hU, hK, mU, mK, ⟨t1, t2, t3, t4, t5⟩, ⟨r1, r2, r3⟩, hRm, hV⟩ := id hI
  have q1 : nI (6 * k) + 1 = nI (6 * k + 1) := ixa (6 * k) 1 (v := 1) rfl
  have b1 : inb (nI (6 * k + 1)) scr.length = true := by rw [inb_nI (by omega)]; exact decide_eq_true (by omega)
  have c1 : (nI (6 * k + 1)).toNatClampNeg = 6 * k + 1 := nI_clamp (by omega)
  have hlen := shp_len hS
  have hne : H ≠ [] := fun z => by rw [z] at hlen; exact absurd hlen (by decide)
  have pz : 0 < H.length := by omega
  have p68 : 68 < H.length := by omega
  have p83 : 83 < H.length := by omega
  have lgz : ∀ x : Int64, lg_cmp x x = 0 := fun x => by unfold lg_cmp; simp
  have n10 : ((1 : Int32) = 0) = False := eq_false (by decide)
  simp only [w0_1596, w0_1597, w0_1598, w0_1600, w0_1601, w0_1602, w0_1603, w0_1607, w0_1609, w0_1610, w0_1611, w0_1613, w0_1614, w0_1615, w0_1616, w0_1619, w0_1621, w0_1622, w0_1625, w0_1627, w0_1630, w0_1631, w0_1632, w0_1634, w0_1637, w0_1638, w0_1639, w0_1640, w0_1642, w0_1643, w0_1644, w0_1647, w0_1648, w0_1649, oK_some, cont_int, cont_intS, cont_none, cont_noneS, cont_long, cont_longS, true_and, and_true, false_and, and_false, true_implies, false_implies, not_true_eq_false, not_false_eq_true, eq_self, or_true, true_or, Option.isSome_some, hpf_length, hpa_length, bI_eq0, fi_hpa, fl_hpa, ar_hpf, fi_hpf_ne, fl_hpf_ne, ar_hpa_ne, hpa_hpa, hpf_hpf, nI_1, two_ne, fokZ, implies_true, Nat.reduceEqDiff, rc_0, rc_68, hS, q1, b1, c1]
  generalize hm : scr.getD (6 * k + 1) 0 = p0
  refine Wp_led (d := d + 15) a0_1604 ?_ ?_ ?_
  · rcases h5 with rfl | ⟨x5, rfl⟩ <;> rcases h6 with rfl | ⟨x6, rfl⟩ <;> (simp [lok, vok, hne, p68, p83]; exact pz)
  · simp [sok, vok, hne, p83]
    exact pz
  · have en : ent (mMax 180) [.ref 0, .int p0] = [some (.ref 0), some (.int p0), none, none] := rfl
    rw [en]
    refine C_led (d := d + 13) hC (hok_of hS hRm.2) (fun j ej => Or.inr ?_) (fun ej => Or.inl ⟨rfl, ?_⟩)
    · obtain ⟨u, hu⟩ := shp_arl hS
      obtain ⟨hx, hg, hll⟩ := ext_hpl (v := (nI j).toInt64) hS
      refine ⟨nI j, u, rfl, hu, ?_⟩
      have hI1 := inv_x hI hx
      generalize hpl H 83 [(nI j).toInt64] = X at hx hg hll hI1 ⊢
      have sx := hx.1.1
      have hG : Fg [] [(68, 0)] X (hpf X 68 0 (.int 0)) := (fg_hpf (a := 68) (f := 0) (ci := 12) sx rfl (by decide))
      have sg := hG.shp
      have g2 : garl (hpf X 68 0 (.int 0)) 83 = some [(nI j).toInt64] := by rw [garl_hpf]; exact hg
      have f0 : fi (hpf X 68 0 (.int 0)) 68 0 = 0 := fe_68_0 sx
      show Wp scr (d + 17) 0 1607 [some (.retAddr 1000), some (.ref 0), some (.ref 68), some (.ref 83), some (.int (nI (6 * k))), o5, o6] [.int 0] X Q
      simp only [w0_1596, w0_1597, w0_1598, w0_1600, w0_1601, w0_1602, w0_1603, w0_1607, w0_1609, w0_1610, w0_1611, w0_1613, w0_1614, w0_1615, w0_1616, w0_1619, w0_1621, w0_1622, w0_1625, w0_1627, w0_1630, w0_1631, w0_1632, w0_1634, w0_1637, w0_1638, w0_1639, w0_1640, w0_1642, w0_1643, w0_1644, w0_1647, w0_1648, w0_1649, oK_some, cont_int, cont_intS, cont_none, cont_noneS, cont_long, cont_longS, true_and, and_true, false_and, and_false, true_implies, false_implies, not_true_eq_false, not_false_eq_true, eq_self, or_true, true_or, Option.isSome_some, hpf_length, hpa_length, bI_eq0, fi_hpa, fl_hpa, ar_hpf, fi_hpf_ne, fl_hpf_ne, ar_hpa_ne, hpa_hpa, hpf_hpf, nI_1, two_ne, fokZ, implies_true, Nat.reduceEqDiff, rc_0, rc_68, sx, q1, b1, c1, hm]
      refine M_led2 hI1.2.1 ?_
      rw [ej]
      simp only [w0_1596, w0_1597, w0_1598, w0_1600, w0_1601, w0_1602, w0_1603, w0_1607, w0_1609, w0_1610, w0_1611, w0_1613, w0_1614, w0_1615, w0_1616, w0_1619, w0_1621, w0_1622, w0_1625, w0_1627, w0_1630, w0_1631, w0_1632, w0_1634, w0_1637, w0_1638, w0_1639, w0_1640, w0_1642, w0_1643, w0_1644, w0_1647, w0_1648, w0_1649, oK_some, cont_int, cont_intS, cont_none, cont_noneS, cont_long, cont_longS, true_and, and_true, false_and, and_false, true_implies, false_implies, not_true_eq_false, not_false_eq_true, eq_self, or_true, true_or, Option.isSome_some, hpf_length, hpa_length, bI_eq0, fi_hpa, fl_hpa, ar_hpf, fi_hpf_ne, fl_hpf_ne, ar_hpa_ne, hpa_hpa, hpf_hpf, nI_1, two_ne, fokZ, implies_true, Nat.reduceEqDiff, rc_0, rc_68, sx, sg, M_thrown sg, f0, hpf_length, Option.isSome_some, if_true, Option.getD_some, g2, oK_some, lgz, List.length_cons, List.length_nil, inb_nI (i := 0) (n := 1) (by decide)]
      exact ⟨by decide, fun _ => hn _ ⟨R, st, Us, Ks, n, nS, nW, nG, nU, nN, tp, inv_t hI1 hG⟩ (by rw [hG.len, hll]; exact Nat.le_succ _) _ _ (Or.inr ⟨_, rfl⟩) (Or.inr ⟨_, rfl⟩), fun z => absurd (lgz (nI j).toInt64) z⟩
    · have hx := ext_push hS
      have hI1 := inv_x hI hx
      have hll : (H ++ [(.inl (13, []) : AC)]).length = H.length + 1 := List.length_append
      generalize H ++ [.inl (13, [])] = X at hx hI1 hll ⊢
      have sx := hx.1.1
      have hG : Fg [] [(68, 0)] X (hpf X 68 0 (.int 1)) := (fg_hpf (a := 68) (f := 0) (ci := 12) sx rfl (by decide))
      have sg := hG.shp
      have f0 : fi (hpf X 68 0 (.int 1)) 68 0 = 1 := fe_68_0 sx
      show Wp scr (d + 17) 0 1607 [some (.retAddr 1000), some (.ref 0), some (.ref 68), some (.ref 83), some (.int (nI (6 * k))), o5, o6] [.int 1] X Q
      simp only [w0_1596, w0_1597, w0_1598, w0_1600, w0_1601, w0_1602, w0_1603, w0_1607, w0_1609, w0_1610, w0_1611, w0_1613, w0_1614, w0_1615, w0_1616, w0_1619, w0_1621, w0_1622, w0_1625, w0_1627, w0_1630, w0_1631, w0_1632, w0_1634, w0_1637, w0_1638, w0_1639, w0_1640, w0_1642, w0_1643, w0_1644, w0_1647, w0_1648, w0_1649, oK_some, cont_int, cont_intS, cont_none, cont_noneS, cont_long, cont_longS, true_and, and_true, false_and, and_false, true_implies, false_implies, not_true_eq_false, not_false_eq_true, eq_self, or_true, true_or, Option.isSome_some, hpf_length, hpa_length, bI_eq0, fi_hpa, fl_hpa, ar_hpf, fi_hpf_ne, fl_hpf_ne, ar_hpa_ne, hpa_hpa, hpf_hpf, nI_1, two_ne, fokZ, implies_true, Nat.reduceEqDiff, rc_0, rc_68, sx, q1, b1, c1, hm]
      refine M_led2 hI1.2.1 ?_
      rw [ej]
      simp only [w0_1596, w0_1597, w0_1598, w0_1600, w0_1601, w0_1602, w0_1603, w0_1607, w0_1609, w0_1610, w0_1611, w0_1613, w0_1614, w0_1615, w0_1616, w0_1619, w0_1621, w0_1622, w0_1625, w0_1627, w0_1630, w0_1631, w0_1632, w0_1634, w0_1637, w0_1638, w0_1639, w0_1640, w0_1642, w0_1643, w0_1644, w0_1647, w0_1648, w0_1649, oK_some, cont_int, cont_intS, cont_none, cont_noneS, cont_long, cont_longS, true_and, and_true, false_and, and_false, true_implies, false_implies, not_true_eq_false, not_false_eq_true, eq_self, or_true, true_or, Option.isSome_some, hpf_length, hpa_length, bI_eq0, fi_hpa, fl_hpa, ar_hpf, fi_hpf_ne, fl_hpf_ne, ar_hpa_ne, hpa_hpa, hpf_hpf, nI_1, two_ne, fokZ, implies_true, Nat.reduceEqDiff, rc_0, rc_68, sx, sg, M_thrown sg, f0, hpf_length, Option.isSome_none, Bool.false_eq_true, if_false, Option.getD_none, n10]
      exact hn _ ⟨R, st, Us, Ks, n, nS, nW, nG, nU, nN, tp, inv_t hI1 hG⟩ (by rw [hG.len, hll]; exact Nat.le_refl _) _ _ (Or.inr ⟨_, rfl⟩) (Or.inr ⟨_, rfl⟩)
theorem rng {m : Int32} {n tp : Nat} (hn : n ≤ tp) (h9 : tp ≤ 900) (e : m = nI n) : 0 ≤ m ∧ m ≤ nI tp := by
  rw [e]
  exact ⟨(nI_leI (a := 0) (by decide) (by omega)).mpr (by omega), (nI_leI (by omega) (by omega)).mpr hn⟩
theorem dv_vv {R' : List Int32} {c2 c3 c4 c5 c6 c7 : Nat} {sd : List Int32} (hV : DV R' c2) (hN : TbN sd R' c2 c7) (h7 : c2 ≤ 7) (hp : 0 < c2) : Vv R' (stN R' c2) [] [] c2 c4 c5 c7 := by
  obtain ⟨v0, v1, v2, v3, v4, v5⟩ := hV
  refine ⟨⟨v1, fun i hi => ?_⟩, fun i hi => ?_, fun k hk => ?_, v2, ⟨⟨stN_len, fun i hi => ?_⟩, ⟨0, Nat.two_pow_pos _, ?_⟩, ⟨0, Nat.two_pow_pos _, ?_⟩, ⟨0, by decide, ?_⟩⟩, fun s q => absurd q (by simp), fun s q => absurd q (by simp), fun z => by omega⟩
  · obtain ⟨_, _, g, _, _, hg, _, _, eg⟩ := v4 i hi
    exact ⟨g, hg, eg⟩
  · obtain ⟨_, x, _, _, hx, _, _, ex, _⟩ := v4 i hi
    exact ⟨x, hx, ex⟩
  · obtain ⟨r, dd, _, hd, _, _, _, e, _⟩ := hN k hk
    rw [e, nI_clamp (by omega)]
    exact ⟨rfl, by omega⟩
  · obtain ⟨_, x, _, _, hx, _, _, ex, _⟩ := v4 i hi
    exact ⟨x, hx, by rw [stN_get c2 (by omega), if_pos hi]; exact ex⟩
  · rw [stN_get c2 (by omega), if_neg (by omega)]; rfl
  · rw [stN_get c2 (by omega), if_neg (by omega)]; rfl
  · rw [stN_get c2 (by omega), if_neg (by omega)]; rfl
theorem law_1 (hI : Ivv H R st Us Ks n nS nW nG nU nN tp) (hk : 6 * k + 6 ≤ scr.length) (hL : scr.length ≤ 3072) (h5 : Oi o5) (h6 : Oi o6) (hn : ∀ H', INV H' → H'.length ≤ H.length + 1 → ∀ o5 o6 : Option Value, Oi o5 → Oi o6 → Wp scr (d + 17) 0 1690 [some (.retAddr 1000), some (.ref 0), some (.ref 68), some (.ref 83), some (.int (nI (6 * k))), o5, o6] [] H' Q) : Wp scr (d + 17) 0 337 [some (.retAddr 1000), some (.ref 0), some (.ref 68), some (.ref 83), some (.int (nI (6 * k))), o5, o6] [] H Q := by
  have hS := hI.1.shp
  obtain ⟨hVg, hVf, hVd, ⟨hl, hl1, ehl⟩, ⟨hFb, ⟨sh, hsh, esh⟩, ⟨up, hup, eup⟩, ⟨g, hg9, eg⟩⟩, hbU, hbK, hz0⟩ := hI.2.2.2.2.2.2.2.2.2
  have hgb : Gb st := ⟨g, by omega, eg⟩
  have b5' : nG ≤ 6 := hI.2.1.mn.2.2.2.2.2.2.2.2.2.1
  have h64 : sh < 64 := Nat.lt_of_lt_of_le hsh (Nat.pow_le_pow_right (by decide) b5')
  have hzG : n = 0 → nG = 0 := fun z => (hz0 z).1
  have hzW : n = 0 → nW = 0 := fun z => (hz0 z).2.1
  obtain ⟨hC, hM, hU, hK, mU, mK, ⟨t1, t2, t3, t4, t5⟩, ⟨r1, r2, r3⟩, hRm, hV⟩ := id hI
  have q1 : nI (6 * k) + 1 = nI (6 * k + 1) := ixa (6 * k) 1 (v := 1) rfl
  have b1 : inb (nI (6 * k + 1)) scr.length = true := by rw [inb_nI (by omega)]; exact decide_eq_true (by omega)
  have c1 : (nI (6 * k + 1)).toNatClampNeg = 6 * k + 1 := nI_clamp (by omega)
  simp only [w0_337, w0_338, w0_339, w0_341, w0_342, w0_343, w0_344, w0_347, w0_348, w0_349, w0_351, w0_352, w0_353, w0_354, w0_357, w0_360, w0_361, oK_some, cont_int, cont_intS, cont_none, cont_noneS, cont_long, cont_longS, true_and, and_true, false_and, and_false, true_implies, false_implies, not_true_eq_false, not_false_eq_true, eq_self, or_true, true_or, Option.isSome_some, hpf_length, hpa_length, bI_eq0, fi_hpa, fl_hpa, ar_hpf, fi_hpf_ne, fl_hpf_ne, ar_hpa_ne, hpa_hpa, hpf_hpf, nI_1, two_ne, fokZ, implies_true, Nat.reduceEqDiff, rc_0, rc_68, hS, q1, b1, c1]
  generalize hm : scr.getD (6 * k + 1) 0 = m
  have q62 : fi H 62 0 = nI 16 := by obtain ⟨_, _, z, _⟩ := hU; exact z
  have q65 : fi H 65 0 = nI 3 := hK.1
  have inj : ∀ a b : Nat, a ≤ tp → b ≤ tp → m = nI a → m = nI b → a = b := fun a b ha hb e1 e2 => (nI_eqI (by omega) (by omega)).mp (e1.symm.trans e2)
  refine C_slope hS t1 t3 rfl hRm.1 (fun hb H1 hF1 y13 => ?_) (fun n1 hn1 em c p eP H1 hF1 y1 y13 y14 y15 => ?_) (fun n1 hn1 em R' c2 c3 c4 c5 c6 c7 eP H1 hF1 y1 y13 y14 hC1 hMn hDV hpos hSn u2 u3 w2 w3 => ?_)
  · have s1 := hF1.shp
    simp only [w0_337, w0_338, w0_339, w0_341, w0_342, w0_343, w0_344, w0_347, w0_348, w0_349, w0_351, w0_352, w0_353, w0_354, w0_357, w0_360, w0_361, oK_some, cont_int, cont_intS, cont_none, cont_noneS, cont_long, cont_longS, true_and, and_true, false_and, and_false, true_implies, false_implies, not_true_eq_false, not_false_eq_true, eq_self, or_true, true_or, Option.isSome_some, hpf_length, hpa_length, bI_eq0, fi_hpa, fl_hpa, ar_hpf, fi_hpf_ne, fl_hpf_ne, ar_hpa_ne, hpa_hpa, hpf_hpf, nI_1, two_ne, fokZ, implies_true, Nat.reduceEqDiff, rc_0, rc_68, hF1.len, s1, q1, b1, c1, hm]
    refine M_slope (xs := ar H 2) s1 ((hF1.int (by decide) (by decide)).trans t2) t3 (by rw [hF1.arr (by decide)]; exact t4.symm) t5 (fun _ H2 hF2 z11 => ?_) (fun n2 hn2 em2 => absurd (rng hn2 t3 em2) hb) (fun n2 hn2 em2 => absurd (rng hn2 t3 em2) hb)
    have s2 := hF2.shp
    simp only [w0_337, w0_338, w0_339, w0_341, w0_342, w0_343, w0_344, w0_347, w0_348, w0_349, w0_351, w0_352, w0_353, w0_354, w0_357, w0_360, w0_361, oK_some, cont_int, cont_intS, cont_none, cont_noneS, cont_long, cont_longS, true_and, and_true, false_and, and_false, true_implies, false_implies, not_true_eq_false, not_false_eq_true, eq_self, or_true, true_or, Option.isSome_some, hpf_length, hpa_length, bI_eq0, fi_hpa, fl_hpa, ar_hpf, fi_hpf_ne, fl_hpf_ne, ar_hpa_ne, hpa_hpa, hpf_hpf, nI_1, two_ne, fokZ, implies_true, Nat.reduceEqDiff, rc_0, rc_68, hF2.len, s2]
    exact hn _ ⟨R, st, Us, Ks, n, nS, nW, nG, nU, nN, tp, inv_q hI (hF1.mono (by decide) (by decide)) y13 (hF2.mono (by decide) (by decide)) z11 (by decide)⟩ (by rw [hF2.len, hF1.len]; exact Nat.le_succ _) _ _ h5 h6
  · have s1 := hF1.shp
    simp only [w0_337, w0_338, w0_339, w0_341, w0_342, w0_343, w0_344, w0_347, w0_348, w0_349, w0_351, w0_352, w0_353, w0_354, w0_357, w0_360, w0_361, oK_some, cont_int, cont_intS, cont_none, cont_noneS, cont_long, cont_longS, true_and, and_true, false_and, and_false, true_implies, false_implies, not_true_eq_false, not_false_eq_true, eq_self, or_true, true_or, Option.isSome_some, hpf_length, hpa_length, bI_eq0, fi_hpa, fl_hpa, ar_hpf, fi_hpf_ne, fl_hpf_ne, ar_hpa_ne, hpa_hpa, hpf_hpf, nI_1, two_ne, fokZ, implies_true, Nat.reduceEqDiff, rc_0, rc_68, hF1.len, s1, q1, b1, c1, hm]
    refine M_slope (xs := ar H 2) s1 ((hF1.int (by decide) (by decide)).trans t2) t3 (by rw [hF1.arr (by decide)]; exact t4.symm) t5 (fun hb => absurd (rng hn1 t3 em) hb) (fun n2 hn2 em2 c' p' eP2 H2 hF2 z2 z9 z10 z11 => ?_) (fun n2 hn2 em2 R2 eP2 => ?_)
    · have en := inj n1 n2 hn1 hn2 em em2
      subst en
      rw [eP] at eP2
      injection eP2 with eP2
      injection eP2 with ec ep
      subst ec; subst ep
      have s2 := hF2.shp
      simp only [w0_337, w0_338, w0_339, w0_341, w0_342, w0_343, w0_344, w0_347, w0_348, w0_349, w0_351, w0_352, w0_353, w0_354, w0_357, w0_360, w0_361, oK_some, cont_int, cont_intS, cont_none, cont_noneS, cont_long, cont_longS, true_and, and_true, false_and, and_false, true_implies, false_implies, not_true_eq_false, not_false_eq_true, eq_self, or_true, true_or, Option.isSome_some, hpf_length, hpa_length, bI_eq0, fi_hpa, fl_hpa, ar_hpf, fi_hpf_ne, fl_hpf_ne, ar_hpa_ne, hpa_hpa, hpf_hpf, nI_1, two_ne, fokZ, implies_true, Nat.reduceEqDiff, rc_0, rc_68, hF2.len, s2]
      refine hn _ ⟨R, st, Us, Ks, n, nS, nW, nG, nU, nN, 0, (hC.of hF1 (by decide) (by decide)).of hF2 (by decide) (by decide), (hM.of hF1 (by decide) (by decide) (by decide) (by decide)).of hF2 (by decide) (by decide) (by decide) (by decide), (hU.of hF1 (by decide) (by decide) (by decide)).of hF2 (by decide) (by decide) (by decide), (hK.of hF1 (by decide) (by decide) (by decide)).of hF2 (by decide) (by decide) (by decide), (mU.of hF1 (by decide) (by decide) (by decide)).of hF2 (by decide) (by decide) (by decide), (mK.of hF1 (by decide) (by decide) (by decide)).of hF2 (by decide) (by decide) (by decide), ⟨?_, z2, by decide, ?_, ?_⟩, ⟨?_, ?_, fun _ => ?_⟩, (hRm.og hF1 (by decide) (by decide)).of hF2 (by decide) (by decide), hV⟩ (by rw [hF2.len, hF1.len]; exact Nat.le_succ _) _ _ h5 h6
      · rw [hF2.int (by decide) (by decide)]; exact y1
      · rw [hF2.arr (a := 2) (by decide), hF1.arr (a := 2) (by decide), hF2.arr (a := 69) (by decide), hF1.arr (a := 69) (by decide)]; exact t4
      · rw [hF2.arr (a := 2) (by decide), hF1.arr (a := 2) (by decide)]; exact t5
      · rw [hF2.int (a := 0) (by decide) (by decide), y13, z11]
      · rw [hF2.int (a := 0) (by decide) (by decide), y14, z9]
      · rw [hF2.int (a := 0) (by decide) (by decide), y15, z10]
    · have en := inj n1 n2 hn1 hn2 em em2
      subst en
      rw [eP] at eP2
      exact absurd eP2 (by simp)
  · have s1 := hF1.shp
    simp only [w0_337, w0_338, w0_339, w0_341, w0_342, w0_343, w0_344, w0_347, w0_348, w0_349, w0_351, w0_352, w0_353, w0_354, w0_357, w0_360, w0_361, oK_some, cont_int, cont_intS, cont_none, cont_noneS, cont_long, cont_longS, true_and, and_true, false_and, and_false, true_implies, false_implies, not_true_eq_false, not_false_eq_true, eq_self, or_true, true_or, Option.isSome_some, hpf_length, hpa_length, bI_eq0, fi_hpa, fl_hpa, ar_hpf, fi_hpf_ne, fl_hpf_ne, ar_hpa_ne, hpa_hpa, hpf_hpf, nI_1, two_ne, fokZ, implies_true, Nat.reduceEqDiff, rc_0, rc_68, hF1.len, s1, q1, b1, c1, hm]
    refine M_slope (xs := ar H 2) s1 ((hF1.int (by decide) (by decide)).trans t2) t3 (by rw [hF1.arr (by decide)]; exact t4.symm) t5 (fun hb => absurd (rng hn1 t3 em) hb) (fun n2 hn2 em2 c' p' eP2 => ?_) (fun n2 hn2 em2 R2 eP2 H2 hF2 z2 z9 z11 z14 z20 z21 z71 z73 => ?_)
    · have en := inj n1 n2 hn1 hn2 em em2
      subst en
      rw [eP] at eP2
      exact absurd eP2 (by simp)
    · have en := inj n1 n2 hn1 hn2 em em2
      subst en
      rw [eP] at eP2
      injection eP2 with eR
      subst eR
      have s2 := hF2.shp
      have b2 : c2 ≤ 7 := hMn.2.2.2.2.2.2.1
      have ecn : cn R' 2 = c2 := cn_eq hMn.1 (by omega)
      rw [ecn] at z73
      have eg2 : rg R' 2 = nI c2 := hMn.1
      simp only [w0_337, w0_338, w0_339, w0_341, w0_342, w0_343, w0_344, w0_347, w0_348, w0_349, w0_351, w0_352, w0_353, w0_354, w0_357, w0_360, w0_361, oK_some, cont_int, cont_intS, cont_none, cont_noneS, cont_long, cont_longS, true_and, and_true, false_and, and_false, true_implies, false_implies, not_true_eq_false, not_false_eq_true, eq_self, or_true, true_or, Option.isSome_some, hpf_length, hpa_length, bI_eq0, fi_hpa, fl_hpa, ar_hpf, fi_hpf_ne, fl_hpf_ne, ar_hpa_ne, hpa_hpa, hpf_hpf, nI_1, two_ne, fokZ, implies_true, Nat.reduceEqDiff, rc_0, rc_68, hF2.len, s2, eg2]
      have hC1' : CIv H1 R' (stN R' c2) c2 c3 c4 c5 c6 c7 := ⟨hC1, hSn, (dv_vv (c3 := c3) (c4 := c4) (c5 := c5) (c6 := c6) hDV hC1.2.2.2.2.2.2.2.1 b2 hpos).2.2.2.2.1.1⟩
      have hC2 := hC1'.of hF2 (by decide) (by decide)
      refine hn _ ⟨R', stN R' c2, [], [], c2, c3, c4, c5, c6, c7, 0, hC2, ⟨s2, z71, z73, hMn, ?_⟩, ⟨0, by decide, ?_, ?_, ?_, by decide, fun i hi => absurd hi (Nat.not_lt_zero _)⟩, ⟨?_, ?_, ?_, by decide, fun i hi => absurd hi (Nat.not_lt_zero _)⟩, ⟨z20, by decide, fun i hi => absurd hi (Nat.not_lt_zero _)⟩, ⟨z21, by decide, fun i hi => absurd hi (Nat.not_lt_zero _)⟩, ⟨?_, z2, by decide, ?_, ?_⟩, ⟨?_, ?_, fun z => ?_⟩, (hRm.og hF1 (by decide) (by decide)).of hF2 (by decide) (by decide), dv_vv (c3 := c3) (c6 := c6) hDV hC1.2.2.2.2.2.2.2.1 b2 hpos⟩ (by rw [hF2.len, hF1.len]; exact Nat.le_succ _) _ _ h5 h6
      · rw [z14, decide_eq_true hpos]; rfl
      · rw [hF2.int (by decide) (by decide), hF1.int (by decide) (by decide)]; exact q62
      · rw [hF2.int (by decide) (by decide)]; exact u3
      · rw [hF2.int (by decide) (by decide)]; exact u2
      · rw [hF2.int (by decide) (by decide), hF1.int (by decide) (by decide)]; exact q65
      · rw [hF2.int (by decide) (by decide)]; exact w3
      · rw [hF2.int (by decide) (by decide)]; exact w2
      · rw [hF2.int (by decide) (by decide)]; exact y1
      · rw [hF2.arr (a := 2) (by decide), hF1.arr (a := 2) (by decide), hF2.arr (a := 69) (by decide), hF1.arr (a := 69) (by decide)]; exact t4
      · rw [hF2.arr (a := 2) (by decide), hF1.arr (a := 2) (by decide)]; exact t5
      · rw [hF2.int (a := 0) (by decide) (by decide), y13, z11]
      · rw [hF2.int (a := 0) (by decide) (by decide), y14, z9]
      · rw [hF2.int (a := 0) (by decide) (by decide), y13] at z
        exact absurd z (by decide)
end LAW4
