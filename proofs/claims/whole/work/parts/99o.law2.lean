/-! ===== the law: more questions ===== -/
section LAW2
variable {scr : List Int32} {d k n nS nW nG nU nN tp : Nat} {o5 o6 : Option Value} {H : List AC} {R st : List Int32} {Us Ks : List (List Int32)} {Q : Option Value → List AC → Prop}
theorem law_22 (hI : Ivv H R st Us Ks n nS nW nG nU nN tp) (hk : 6 * k + 6 ≤ scr.length) (hL : scr.length ≤ 3072) (h5 : Oi o5) (h6 : Oi o6) (hn : ∀ H', INV H' → H'.length ≤ H.length + 1 → ∀ o5 o6 : Option Value, Oi o5 → Oi o6 → Wp scr (d + 17) 0 1690 [some (.retAddr 1000), some (.ref 0), some (.ref 68), some (.ref 83), some (.int (nI (6 * k))), o5, o6] [] H' Q) : Wp scr (d + 17) 0 814 [some (.retAddr 1000), some (.ref 0), some (.ref 68), some (.ref 83), some (.int (nI (6 * k))), o5, o6] [] H Q := by
  have hS := hI.1.shp
  obtain ⟨hVg, hVf, hVd, ⟨hl, hl1, ehl⟩, ⟨hFb, ⟨sh, hsh, esh⟩, ⟨up, hup, eup⟩, ⟨g, hg9, eg⟩⟩, hbU, hbK, hz0⟩ := hI.2.2.2.2.2.2.2.2.2
  have hgb : Gb st := ⟨g, by omega, eg⟩
  have b5' : nG ≤ 6 := hI.2.1.mn.2.2.2.2.2.2.2.2.2.1
  have h64 : sh < 64 := Nat.lt_of_lt_of_le hsh (Nat.pow_le_pow_right (by decide) b5')
  have hzG : n = 0 → nG = 0 := fun z => (hz0 z).1
  have hzW : n = 0 → nW = 0 := fun z => (hz0 z).2.1
  have q1 : nI (6 * k) + 1 = nI (6 * k + 1) := ixa (6 * k) 1 (v := 1) rfl
  have b1 : inb (nI (6 * k + 1)) scr.length = true := by rw [inb_nI (by omega)]; exact decide_eq_true (by omega)
  have c1 : (nI (6 * k + 1)).toNatClampNeg = 6 * k + 1 := nI_clamp (by omega)
  simp only [w0_814, w0_815, w0_816, w0_818, w0_819, w0_820, w0_821, w0_824, w0_825, w0_826, w0_828, w0_829, w0_830, w0_831, w0_834, w0_837, w0_838, oK_some, cont_int, cont_intS, cont_none, cont_noneS, cont_long, cont_longS, true_and, and_true, false_and, and_false, true_implies, false_implies, not_true_eq_false, not_false_eq_true, eq_self, or_true, true_or, Option.isSome_some, hpf_length, hpa_length, bI_eq0, fi_hpa, fl_hpa, ar_hpf, fi_hpf_ne, fl_hpf_ne, ar_hpa_ne, hpa_hpa, hpf_hpf, nI_1, two_ne, fokZ, implies_true, Nat.reduceEqDiff, rc_0, rc_68, hS, q1, b1, c1]
  refine C_bestSign hI.1 hVg (fun H1 hF1 e1 => ?_)
  have s1 := hF1.shp
  simp only [w0_814, w0_815, w0_816, w0_818, w0_819, w0_820, w0_821, w0_824, w0_825, w0_826, w0_828, w0_829, w0_830, w0_831, w0_834, w0_837, w0_838, oK_some, cont_int, cont_intS, cont_none, cont_noneS, cont_long, cont_longS, true_and, and_true, false_and, and_false, true_implies, false_implies, not_true_eq_false, not_false_eq_true, eq_self, or_true, true_or, Option.isSome_some, hpf_length, hpa_length, bI_eq0, fi_hpa, fl_hpa, ar_hpf, fi_hpf_ne, fl_hpf_ne, ar_hpa_ne, hpa_hpa, hpf_hpf, nI_1, two_ne, fokZ, implies_true, Nat.reduceEqDiff, rc_0, rc_68, hF1.len, s1, q1, b1, c1]
  refine M_bestSign (hI.2.1.of hF1 (by decide) (by decide) (by decide) (by decide)) (fun H2 hF2 e0 e2 => ?_)
  have s2 := hF2.shp
  simp only [w0_814, w0_815, w0_816, w0_818, w0_819, w0_820, w0_821, w0_824, w0_825, w0_826, w0_828, w0_829, w0_830, w0_831, w0_834, w0_837, w0_838, oK_some, cont_int, cont_intS, cont_none, cont_noneS, cont_long, cont_longS, true_and, and_true, false_and, and_false, true_implies, false_implies, not_true_eq_false, not_false_eq_true, eq_self, or_true, true_or, Option.isSome_some, hpf_length, hpa_length, bI_eq0, fi_hpa, fl_hpa, ar_hpf, fi_hpf_ne, fl_hpf_ne, ar_hpa_ne, hpa_hpa, hpf_hpf, nI_1, two_ne, fokZ, implies_true, Nat.reduceEqDiff, rc_0, rc_68, hF2.len, s2]
  exact hn H2 ⟨R, st, Us, Ks, n, nS, nW, nG, nU, nN, tp, inv_q hI hF1 e1 hF2 e2 (whyF_4 _ _ _)⟩ (by rw [hF2.len, hF1.len]; exact Nat.le_succ _) _ _ h5 h6
theorem law_23 (hI : Ivv H R st Us Ks n nS nW nG nU nN tp) (hk : 6 * k + 6 ≤ scr.length) (hL : scr.length ≤ 3072) (h5 : Oi o5) (h6 : Oi o6) (hn : ∀ H', INV H' → H'.length ≤ H.length + 1 → ∀ o5 o6 : Option Value, Oi o5 → Oi o6 → Wp scr (d + 17) 0 1690 [some (.retAddr 1000), some (.ref 0), some (.ref 68), some (.ref 83), some (.int (nI (6 * k))), o5, o6] [] H' Q) : Wp scr (d + 17) 0 839 [some (.retAddr 1000), some (.ref 0), some (.ref 68), some (.ref 83), some (.int (nI (6 * k))), o5, o6] [] H Q := by
  have hS := hI.1.shp
  obtain ⟨hVg, hVf, hVd, ⟨hl, hl1, ehl⟩, ⟨hFb, ⟨sh, hsh, esh⟩, ⟨up, hup, eup⟩, ⟨g, hg9, eg⟩⟩, hbU, hbK, hz0⟩ := hI.2.2.2.2.2.2.2.2.2
  have hgb : Gb st := ⟨g, by omega, eg⟩
  have b5' : nG ≤ 6 := hI.2.1.mn.2.2.2.2.2.2.2.2.2.1
  have h64 : sh < 64 := Nat.lt_of_lt_of_le hsh (Nat.pow_le_pow_right (by decide) b5')
  have hzG : n = 0 → nG = 0 := fun z => (hz0 z).1
  have hzW : n = 0 → nW = 0 := fun z => (hz0 z).2.1
  have q1 : nI (6 * k) + 1 = nI (6 * k + 1) := ixa (6 * k) 1 (v := 1) rfl
  have b1 : inb (nI (6 * k + 1)) scr.length = true := by rw [inb_nI (by omega)]; exact decide_eq_true (by omega)
  have c1 : (nI (6 * k + 1)).toNatClampNeg = 6 * k + 1 := nI_clamp (by omega)
  simp only [w0_839, w0_840, w0_841, w0_843, w0_844, w0_845, w0_846, w0_849, w0_850, w0_851, w0_853, w0_854, w0_855, w0_856, w0_859, w0_862, w0_863, oK_some, cont_int, cont_intS, cont_none, cont_noneS, cont_long, cont_longS, true_and, and_true, false_and, and_false, true_implies, false_implies, not_true_eq_false, not_false_eq_true, eq_self, or_true, true_or, Option.isSome_some, hpf_length, hpa_length, bI_eq0, fi_hpa, fl_hpa, ar_hpf, fi_hpf_ne, fl_hpf_ne, ar_hpa_ne, hpa_hpa, hpf_hpf, nI_1, two_ne, fokZ, implies_true, Nat.reduceEqDiff, rc_0, rc_68, hS, q1, b1, c1]
  refine C_walls goC hI.1 hgb eup hup (fun H1 hF1 e1 => ?_)
  have s1 := hF1.shp
  simp only [w0_839, w0_840, w0_841, w0_843, w0_844, w0_845, w0_846, w0_849, w0_850, w0_851, w0_853, w0_854, w0_855, w0_856, w0_859, w0_862, w0_863, oK_some, cont_int, cont_intS, cont_none, cont_noneS, cont_long, cont_longS, true_and, and_true, false_and, and_false, true_implies, false_implies, not_true_eq_false, not_false_eq_true, eq_self, or_true, true_or, Option.isSome_some, hpf_length, hpa_length, bI_eq0, fi_hpa, fl_hpa, ar_hpf, fi_hpf_ne, fl_hpf_ne, ar_hpa_ne, hpa_hpa, hpf_hpf, nI_1, two_ne, fokZ, implies_true, Nat.reduceEqDiff, rc_0, rc_68, hF1.len, s1, q1, b1, c1]
  refine M_walls (hI.2.1.of hF1 (by decide) (by decide) (by decide) (by decide)) (fun H2 hF2 e0 e2 => ?_)
  have s2 := hF2.shp
  simp only [w0_839, w0_840, w0_841, w0_843, w0_844, w0_845, w0_846, w0_849, w0_850, w0_851, w0_853, w0_854, w0_855, w0_856, w0_859, w0_862, w0_863, oK_some, cont_int, cont_intS, cont_none, cont_noneS, cont_long, cont_longS, true_and, and_true, false_and, and_false, true_implies, false_implies, not_true_eq_false, not_false_eq_true, eq_self, or_true, true_or, Option.isSome_some, hpf_length, hpa_length, bI_eq0, fi_hpa, fl_hpa, ar_hpf, fi_hpf_ne, fl_hpf_ne, ar_hpa_ne, hpa_hpa, hpf_hpf, nI_1, two_ne, fokZ, implies_true, Nat.reduceEqDiff, rc_0, rc_68, hF2.len, s2]
  exact hn H2 ⟨R, st, Us, Ks, n, nS, nW, nG, nU, nN, tp, inv_q hI hF1 e1 hF2 e2 (whyF_4 _ _ _)⟩ (by rw [hF2.len, hF1.len]; exact Nat.le_succ _) _ _ h5 h6
theorem law_24 (hI : Ivv H R st Us Ks n nS nW nG nU nN tp) (hk : 6 * k + 6 ≤ scr.length) (hL : scr.length ≤ 3072) (h5 : Oi o5) (h6 : Oi o6) (hn : ∀ H', INV H' → H'.length ≤ H.length + 1 → ∀ o5 o6 : Option Value, Oi o5 → Oi o6 → Wp scr (d + 17) 0 1690 [some (.retAddr 1000), some (.ref 0), some (.ref 68), some (.ref 83), some (.int (nI (6 * k))), o5, o6] [] H' Q) : Wp scr (d + 17) 0 864 [some (.retAddr 1000), some (.ref 0), some (.ref 68), some (.ref 83), some (.int (nI (6 * k))), o5, o6] [] H Q := by
  have hS := hI.1.shp
  obtain ⟨hVg, hVf, hVd, ⟨hl, hl1, ehl⟩, ⟨hFb, ⟨sh, hsh, esh⟩, ⟨up, hup, eup⟩, ⟨g, hg9, eg⟩⟩, hbU, hbK, hz0⟩ := hI.2.2.2.2.2.2.2.2.2
  have hgb : Gb st := ⟨g, by omega, eg⟩
  have b5' : nG ≤ 6 := hI.2.1.mn.2.2.2.2.2.2.2.2.2.1
  have h64 : sh < 64 := Nat.lt_of_lt_of_le hsh (Nat.pow_le_pow_right (by decide) b5')
  have hzG : n = 0 → nG = 0 := fun z => (hz0 z).1
  have hzW : n = 0 → nW = 0 := fun z => (hz0 z).2.1
  have q1 : nI (6 * k) + 1 = nI (6 * k + 1) := ixa (6 * k) 1 (v := 1) rfl
  have b1 : inb (nI (6 * k + 1)) scr.length = true := by rw [inb_nI (by omega)]; exact decide_eq_true (by omega)
  have c1 : (nI (6 * k + 1)).toNatClampNeg = 6 * k + 1 := nI_clamp (by omega)
  simp only [w0_864, w0_865, w0_866, w0_868, w0_869, w0_870, w0_871, w0_874, w0_875, w0_876, w0_878, w0_879, w0_880, w0_881, w0_884, w0_887, w0_888, oK_some, cont_int, cont_intS, cont_none, cont_noneS, cont_long, cont_longS, true_and, and_true, false_and, and_false, true_implies, false_implies, not_true_eq_false, not_false_eq_true, eq_self, or_true, true_or, Option.isSome_some, hpf_length, hpa_length, bI_eq0, fi_hpa, fl_hpa, ar_hpf, fi_hpf_ne, fl_hpf_ne, ar_hpa_ne, hpa_hpa, hpf_hpf, nI_1, two_ne, fokZ, implies_true, Nat.reduceEqDiff, rc_0, rc_68, hS, q1, b1, c1]
  refine C_wallsUp goC hI.1 hgb eup hup (fun H1 hF1 e1 => ?_)
  have s1 := hF1.shp
  simp only [w0_864, w0_865, w0_866, w0_868, w0_869, w0_870, w0_871, w0_874, w0_875, w0_876, w0_878, w0_879, w0_880, w0_881, w0_884, w0_887, w0_888, oK_some, cont_int, cont_intS, cont_none, cont_noneS, cont_long, cont_longS, true_and, and_true, false_and, and_false, true_implies, false_implies, not_true_eq_false, not_false_eq_true, eq_self, or_true, true_or, Option.isSome_some, hpf_length, hpa_length, bI_eq0, fi_hpa, fl_hpa, ar_hpf, fi_hpf_ne, fl_hpf_ne, ar_hpa_ne, hpa_hpa, hpf_hpf, nI_1, two_ne, fokZ, implies_true, Nat.reduceEqDiff, rc_0, rc_68, hF1.len, s1, q1, b1, c1]
  refine M_wallsUp (hI.2.1.of hF1 (by decide) (by decide) (by decide) (by decide)) (fun H2 hF2 e0 e2 => ?_)
  have s2 := hF2.shp
  simp only [w0_864, w0_865, w0_866, w0_868, w0_869, w0_870, w0_871, w0_874, w0_875, w0_876, w0_878, w0_879, w0_880, w0_881, w0_884, w0_887, w0_888, oK_some, cont_int, cont_intS, cont_none, cont_noneS, cont_long, cont_longS, true_and, and_true, false_and, and_false, true_implies, false_implies, not_true_eq_false, not_false_eq_true, eq_self, or_true, true_or, Option.isSome_some, hpf_length, hpa_length, bI_eq0, fi_hpa, fl_hpa, ar_hpf, fi_hpf_ne, fl_hpf_ne, ar_hpa_ne, hpa_hpa, hpf_hpf, nI_1, two_ne, fokZ, implies_true, Nat.reduceEqDiff, rc_0, rc_68, hF2.len, s2]
  exact hn H2 ⟨R, st, Us, Ks, n, nS, nW, nG, nU, nN, tp, inv_q hI hF1 e1 hF2 e2 (whyF_4 _ _ _)⟩ (by rw [hF2.len, hF1.len]; exact Nat.le_succ _) _ _ h5 h6
theorem law_25 (hI : Ivv H R st Us Ks n nS nW nG nU nN tp) (hk : 6 * k + 6 ≤ scr.length) (hL : scr.length ≤ 3072) (h5 : Oi o5) (h6 : Oi o6) (hn : ∀ H', INV H' → H'.length ≤ H.length + 1 → ∀ o5 o6 : Option Value, Oi o5 → Oi o6 → Wp scr (d + 17) 0 1690 [some (.retAddr 1000), some (.ref 0), some (.ref 68), some (.ref 83), some (.int (nI (6 * k))), o5, o6] [] H' Q) : Wp scr (d + 17) 0 889 [some (.retAddr 1000), some (.ref 0), some (.ref 68), some (.ref 83), some (.int (nI (6 * k))), o5, o6] [] H Q := by
  have hS := hI.1.shp
  obtain ⟨hVg, hVf, hVd, ⟨hl, hl1, ehl⟩, ⟨hFb, ⟨sh, hsh, esh⟩, ⟨up, hup, eup⟩, ⟨g, hg9, eg⟩⟩, hbU, hbK, hz0⟩ := hI.2.2.2.2.2.2.2.2.2
  have hgb : Gb st := ⟨g, by omega, eg⟩
  have b5' : nG ≤ 6 := hI.2.1.mn.2.2.2.2.2.2.2.2.2.1
  have h64 : sh < 64 := Nat.lt_of_lt_of_le hsh (Nat.pow_le_pow_right (by decide) b5')
  have hzG : n = 0 → nG = 0 := fun z => (hz0 z).1
  have hzW : n = 0 → nW = 0 := fun z => (hz0 z).2.1
  have q1 : nI (6 * k) + 1 = nI (6 * k + 1) := ixa (6 * k) 1 (v := 1) rfl
  have b1 : inb (nI (6 * k + 1)) scr.length = true := by rw [inb_nI (by omega)]; exact decide_eq_true (by omega)
  have c1 : (nI (6 * k + 1)).toNatClampNeg = 6 * k + 1 := nI_clamp (by omega)
  simp only [w0_889, w0_890, w0_891, w0_893, w0_894, w0_895, w0_896, w0_899, w0_900, w0_901, w0_903, w0_904, w0_905, w0_906, w0_909, w0_912, w0_913, oK_some, cont_int, cont_intS, cont_none, cont_noneS, cont_long, cont_longS, true_and, and_true, false_and, and_false, true_implies, false_implies, not_true_eq_false, not_false_eq_true, eq_self, or_true, true_or, Option.isSome_some, hpf_length, hpa_length, bI_eq0, fi_hpa, fl_hpa, ar_hpf, fi_hpf_ne, fl_hpf_ne, ar_hpa_ne, hpa_hpa, hpf_hpf, nI_1, two_ne, fokZ, implies_true, Nat.reduceEqDiff, rc_0, rc_68, hS, q1, b1, c1]
  refine C_cut hI.1 eup (fun H1 hF1 e1 => ?_)
  have s1 := hF1.shp
  simp only [w0_889, w0_890, w0_891, w0_893, w0_894, w0_895, w0_896, w0_899, w0_900, w0_901, w0_903, w0_904, w0_905, w0_906, w0_909, w0_912, w0_913, oK_some, cont_int, cont_intS, cont_none, cont_noneS, cont_long, cont_longS, true_and, and_true, false_and, and_false, true_implies, false_implies, not_true_eq_false, not_false_eq_true, eq_self, or_true, true_or, Option.isSome_some, hpf_length, hpa_length, bI_eq0, fi_hpa, fl_hpa, ar_hpf, fi_hpf_ne, fl_hpf_ne, ar_hpa_ne, hpa_hpa, hpf_hpf, nI_1, two_ne, fokZ, implies_true, Nat.reduceEqDiff, rc_0, rc_68, hF1.len, s1, q1, b1, c1]
  refine M_cut (hI.2.1.of hF1 (by decide) (by decide) (by decide) (by decide)) (fun H2 hF2 e0 e2 => ?_)
  have s2 := hF2.shp
  simp only [w0_889, w0_890, w0_891, w0_893, w0_894, w0_895, w0_896, w0_899, w0_900, w0_901, w0_903, w0_904, w0_905, w0_906, w0_909, w0_912, w0_913, oK_some, cont_int, cont_intS, cont_none, cont_noneS, cont_long, cont_longS, true_and, and_true, false_and, and_false, true_implies, false_implies, not_true_eq_false, not_false_eq_true, eq_self, or_true, true_or, Option.isSome_some, hpf_length, hpa_length, bI_eq0, fi_hpa, fl_hpa, ar_hpf, fi_hpf_ne, fl_hpf_ne, ar_hpa_ne, hpa_hpa, hpf_hpf, nI_1, two_ne, fokZ, implies_true, Nat.reduceEqDiff, rc_0, rc_68, hF2.len, s2]
  exact hn H2 ⟨R, st, Us, Ks, n, nS, nW, nG, nU, nN, tp, inv_q hI hF1 e1 hF2 e2 (by split <;> decide)⟩ (by rw [hF2.len, hF1.len]; exact Nat.le_succ _) _ _ h5 h6
theorem law_26 (hI : Ivv H R st Us Ks n nS nW nG nU nN tp) (hk : 6 * k + 6 ≤ scr.length) (hL : scr.length ≤ 3072) (h5 : Oi o5) (h6 : Oi o6) (hn : ∀ H', INV H' → H'.length ≤ H.length + 1 → ∀ o5 o6 : Option Value, Oi o5 → Oi o6 → Wp scr (d + 17) 0 1690 [some (.retAddr 1000), some (.ref 0), some (.ref 68), some (.ref 83), some (.int (nI (6 * k))), o5, o6] [] H' Q) : Wp scr (d + 17) 0 914 [some (.retAddr 1000), some (.ref 0), some (.ref 68), some (.ref 83), some (.int (nI (6 * k))), o5, o6] [] H Q := by
  have hS := hI.1.shp
  obtain ⟨hVg, hVf, hVd, ⟨hl, hl1, ehl⟩, ⟨hFb, ⟨sh, hsh, esh⟩, ⟨up, hup, eup⟩, ⟨g, hg9, eg⟩⟩, hbU, hbK, hz0⟩ := hI.2.2.2.2.2.2.2.2.2
  have hgb : Gb st := ⟨g, by omega, eg⟩
  have b5' : nG ≤ 6 := hI.2.1.mn.2.2.2.2.2.2.2.2.2.1
  have h64 : sh < 64 := Nat.lt_of_lt_of_le hsh (Nat.pow_le_pow_right (by decide) b5')
  have hzG : n = 0 → nG = 0 := fun z => (hz0 z).1
  have hzW : n = 0 → nW = 0 := fun z => (hz0 z).2.1
  simp only [w0_914, w0_915, w0_918, w0_919, w0_922, w0_925, w0_926, oK_some, cont_int, cont_intS, cont_none, cont_noneS, cont_long, cont_longS, true_and, and_true, false_and, and_false, true_implies, false_implies, not_true_eq_false, not_false_eq_true, eq_self, or_true, true_or, Option.isSome_some, hpf_length, hpa_length, bI_eq0, fi_hpa, fl_hpa, ar_hpf, fi_hpf_ne, fl_hpf_ne, ar_hpa_ne, hpa_hpa, hpf_hpf, nI_1, two_ne, fokZ, implies_true, Nat.reduceEqDiff, rc_0, rc_68, hS]
  refine C_sets hI.1 hVf (fun H1 hF1 e1 => ?_)
  have s1 := hF1.shp
  simp only [w0_914, w0_915, w0_918, w0_919, w0_922, w0_925, w0_926, oK_some, cont_int, cont_intS, cont_none, cont_noneS, cont_long, cont_longS, true_and, and_true, false_and, and_false, true_implies, false_implies, not_true_eq_false, not_false_eq_true, eq_self, or_true, true_or, Option.isSome_some, hpf_length, hpa_length, bI_eq0, fi_hpa, fl_hpa, ar_hpf, fi_hpf_ne, fl_hpf_ne, ar_hpa_ne, hpa_hpa, hpf_hpf, nI_1, two_ne, fokZ, implies_true, Nat.reduceEqDiff, rc_0, rc_68, hF1.len, s1]
  refine M_sets (hI.2.1.of hF1 (by decide) (by decide) (by decide) (by decide)) hVd (fun H2 hF2 e0 e2 => ?_)
  have s2 := hF2.shp
  simp only [w0_914, w0_915, w0_918, w0_919, w0_922, w0_925, w0_926, oK_some, cont_int, cont_intS, cont_none, cont_noneS, cont_long, cont_longS, true_and, and_true, false_and, and_false, true_implies, false_implies, not_true_eq_false, not_false_eq_true, eq_self, or_true, true_or, Option.isSome_some, hpf_length, hpa_length, bI_eq0, fi_hpa, fl_hpa, ar_hpf, fi_hpf_ne, fl_hpf_ne, ar_hpa_ne, hpa_hpa, hpf_hpf, nI_1, two_ne, fokZ, implies_true, Nat.reduceEqDiff, rc_0, rc_68, hF2.len, s2]
  exact hn H2 ⟨R, st, Us, Ks, n, nS, nW, nG, nU, nN, tp, inv_q hI hF1 e1 hF2 e2 (by split <;> decide)⟩ (by rw [hF2.len, hF1.len]; exact Nat.le_succ _) _ _ h5 h6
theorem law_27 (hI : Ivv H R st Us Ks n nS nW nG nU nN tp) (hk : 6 * k + 6 ≤ scr.length) (hL : scr.length ≤ 3072) (h5 : Oi o5) (h6 : Oi o6) (hn : ∀ H', INV H' → H'.length ≤ H.length + 1 → ∀ o5 o6 : Option Value, Oi o5 → Oi o6 → Wp scr (d + 17) 0 1690 [some (.retAddr 1000), some (.ref 0), some (.ref 68), some (.ref 83), some (.int (nI (6 * k))), o5, o6] [] H' Q) : Wp scr (d + 17) 0 927 [some (.retAddr 1000), some (.ref 0), some (.ref 68), some (.ref 83), some (.int (nI (6 * k))), o5, o6] [] H Q := by
  have hS := hI.1.shp
  obtain ⟨hVg, hVf, hVd, ⟨hl, hl1, ehl⟩, ⟨hFb, ⟨sh, hsh, esh⟩, ⟨up, hup, eup⟩, ⟨g, hg9, eg⟩⟩, hbU, hbK, hz0⟩ := hI.2.2.2.2.2.2.2.2.2
  have hgb : Gb st := ⟨g, by omega, eg⟩
  have b5' : nG ≤ 6 := hI.2.1.mn.2.2.2.2.2.2.2.2.2.1
  have h64 : sh < 64 := Nat.lt_of_lt_of_le hsh (Nat.pow_le_pow_right (by decide) b5')
  have hzG : n = 0 → nG = 0 := fun z => (hz0 z).1
  have hzW : n = 0 → nW = 0 := fun z => (hz0 z).2.1
  have q1 : nI (6 * k) + 1 = nI (6 * k + 1) := ixa (6 * k) 1 (v := 1) rfl
  have b1 : inb (nI (6 * k + 1)) scr.length = true := by rw [inb_nI (by omega)]; exact decide_eq_true (by omega)
  have c1 : (nI (6 * k + 1)).toNatClampNeg = 6 * k + 1 := nI_clamp (by omega)
  simp only [w0_927, w0_928, w0_929, w0_931, w0_932, w0_933, w0_934, w0_937, w0_938, w0_939, w0_941, w0_942, w0_943, w0_944, w0_947, w0_950, w0_951, oK_some, cont_int, cont_intS, cont_none, cont_noneS, cont_long, cont_longS, true_and, and_true, false_and, and_false, true_implies, false_implies, not_true_eq_false, not_false_eq_true, eq_self, or_true, true_or, Option.isSome_some, hpf_length, hpa_length, bI_eq0, fi_hpa, fl_hpa, ar_hpf, fi_hpf_ne, fl_hpf_ne, ar_hpa_ne, hpa_hpa, hpf_hpf, nI_1, two_ne, fokZ, implies_true, Nat.reduceEqDiff, rc_0, rc_68, hS, q1, b1, c1]
  refine C_setAt hI.1 hVf (fun H1 hF1 e1 => ?_)
  have s1 := hF1.shp
  simp only [w0_927, w0_928, w0_929, w0_931, w0_932, w0_933, w0_934, w0_937, w0_938, w0_939, w0_941, w0_942, w0_943, w0_944, w0_947, w0_950, w0_951, oK_some, cont_int, cont_intS, cont_none, cont_noneS, cont_long, cont_longS, true_and, and_true, false_and, and_false, true_implies, false_implies, not_true_eq_false, not_false_eq_true, eq_self, or_true, true_or, Option.isSome_some, hpf_length, hpa_length, bI_eq0, fi_hpa, fl_hpa, ar_hpf, fi_hpf_ne, fl_hpf_ne, ar_hpa_ne, hpa_hpa, hpf_hpf, nI_1, two_ne, fokZ, implies_true, Nat.reduceEqDiff, rc_0, rc_68, hF1.len, s1, q1, b1, c1]
  refine M_setAt (hI.2.1.of hF1 (by decide) (by decide) (by decide) (by decide)) hVd (fun H2 hF2 e0 e2 => ?_)
  have s2 := hF2.shp
  simp only [w0_927, w0_928, w0_929, w0_931, w0_932, w0_933, w0_934, w0_937, w0_938, w0_939, w0_941, w0_942, w0_943, w0_944, w0_947, w0_950, w0_951, oK_some, cont_int, cont_intS, cont_none, cont_noneS, cont_long, cont_longS, true_and, and_true, false_and, and_false, true_implies, false_implies, not_true_eq_false, not_false_eq_true, eq_self, or_true, true_or, Option.isSome_some, hpf_length, hpa_length, bI_eq0, fi_hpa, fl_hpa, ar_hpf, fi_hpf_ne, fl_hpf_ne, ar_hpa_ne, hpa_hpa, hpf_hpf, nI_1, two_ne, fokZ, implies_true, Nat.reduceEqDiff, rc_0, rc_68, hF2.len, s2]
  exact hn H2 ⟨R, st, Us, Ks, n, nS, nW, nG, nU, nN, tp, inv_q hI hF1 e1 hF2 e2 (by split <;> decide)⟩ (by rw [hF2.len, hF1.len]; exact Nat.le_succ _) _ _ h5 h6
theorem law_28 (hI : Ivv H R st Us Ks n nS nW nG nU nN tp) (hk : 6 * k + 6 ≤ scr.length) (hL : scr.length ≤ 3072) (h5 : Oi o5) (h6 : Oi o6) (hn : ∀ H', INV H' → H'.length ≤ H.length + 1 → ∀ o5 o6 : Option Value, Oi o5 → Oi o6 → Wp scr (d + 17) 0 1690 [some (.retAddr 1000), some (.ref 0), some (.ref 68), some (.ref 83), some (.int (nI (6 * k))), o5, o6] [] H' Q) : Wp scr (d + 17) 0 952 [some (.retAddr 1000), some (.ref 0), some (.ref 68), some (.ref 83), some (.int (nI (6 * k))), o5, o6] [] H Q := by
  have hS := hI.1.shp
  obtain ⟨hVg, hVf, hVd, ⟨hl, hl1, ehl⟩, ⟨hFb, ⟨sh, hsh, esh⟩, ⟨up, hup, eup⟩, ⟨g, hg9, eg⟩⟩, hbU, hbK, hz0⟩ := hI.2.2.2.2.2.2.2.2.2
  have hgb : Gb st := ⟨g, by omega, eg⟩
  have b5' : nG ≤ 6 := hI.2.1.mn.2.2.2.2.2.2.2.2.2.1
  have h64 : sh < 64 := Nat.lt_of_lt_of_le hsh (Nat.pow_le_pow_right (by decide) b5')
  have hzG : n = 0 → nG = 0 := fun z => (hz0 z).1
  have hzW : n = 0 → nW = 0 := fun z => (hz0 z).2.1
  simp only [w0_952, w0_953, w0_956, w0_957, w0_960, w0_963, w0_964, oK_some, cont_int, cont_intS, cont_none, cont_noneS, cont_long, cont_longS, true_and, and_true, false_and, and_false, true_implies, false_implies, not_true_eq_false, not_false_eq_true, eq_self, or_true, true_or, Option.isSome_some, hpf_length, hpa_length, bI_eq0, fi_hpa, fl_hpa, ar_hpf, fi_hpf_ne, fl_hpf_ne, ar_hpa_ne, hpa_hpa, hpf_hpf, nI_1, two_ne, fokZ, implies_true, Nat.reduceEqDiff, rc_0, rc_68, hS]
  refine C_could hI.1 hVf (fun H1 hF1 e1 => ?_)
  have s1 := hF1.shp
  simp only [w0_952, w0_953, w0_956, w0_957, w0_960, w0_963, w0_964, oK_some, cont_int, cont_intS, cont_none, cont_noneS, cont_long, cont_longS, true_and, and_true, false_and, and_false, true_implies, false_implies, not_true_eq_false, not_false_eq_true, eq_self, or_true, true_or, Option.isSome_some, hpf_length, hpa_length, bI_eq0, fi_hpa, fl_hpa, ar_hpf, fi_hpf_ne, fl_hpf_ne, ar_hpa_ne, hpa_hpa, hpf_hpf, nI_1, two_ne, fokZ, implies_true, Nat.reduceEqDiff, rc_0, rc_68, hF1.len, s1]
  refine M_could (hI.2.1.of hF1 (by decide) (by decide) (by decide) (by decide)) hVd (fun H2 hF2 e0 e2 => ?_)
  have s2 := hF2.shp
  simp only [w0_952, w0_953, w0_956, w0_957, w0_960, w0_963, w0_964, oK_some, cont_int, cont_intS, cont_none, cont_noneS, cont_long, cont_longS, true_and, and_true, false_and, and_false, true_implies, false_implies, not_true_eq_false, not_false_eq_true, eq_self, or_true, true_or, Option.isSome_some, hpf_length, hpa_length, bI_eq0, fi_hpa, fl_hpa, ar_hpf, fi_hpf_ne, fl_hpf_ne, ar_hpa_ne, hpa_hpa, hpf_hpf, nI_1, two_ne, fokZ, implies_true, Nat.reduceEqDiff, rc_0, rc_68, hF2.len, s2]
  exact hn H2 ⟨R, st, Us, Ks, n, nS, nW, nG, nU, nN, tp, inv_q hI hF1 e1 hF2 e2 (by split <;> decide)⟩ (by rw [hF2.len, hF1.len]; exact Nat.le_succ _) _ _ h5 h6
theorem law_29 (hI : Ivv H R st Us Ks n nS nW nG nU nN tp) (hk : 6 * k + 6 ≤ scr.length) (hL : scr.length ≤ 3072) (h5 : Oi o5) (h6 : Oi o6) (hn : ∀ H', INV H' → H'.length ≤ H.length + 1 → ∀ o5 o6 : Option Value, Oi o5 → Oi o6 → Wp scr (d + 17) 0 1690 [some (.retAddr 1000), some (.ref 0), some (.ref 68), some (.ref 83), some (.int (nI (6 * k))), o5, o6] [] H' Q) : Wp scr (d + 17) 0 965 [some (.retAddr 1000), some (.ref 0), some (.ref 68), some (.ref 83), some (.int (nI (6 * k))), o5, o6] [] H Q := by
  have hS := hI.1.shp
  obtain ⟨hVg, hVf, hVd, ⟨hl, hl1, ehl⟩, ⟨hFb, ⟨sh, hsh, esh⟩, ⟨up, hup, eup⟩, ⟨g, hg9, eg⟩⟩, hbU, hbK, hz0⟩ := hI.2.2.2.2.2.2.2.2.2
  have hgb : Gb st := ⟨g, by omega, eg⟩
  have b5' : nG ≤ 6 := hI.2.1.mn.2.2.2.2.2.2.2.2.2.1
  have h64 : sh < 64 := Nat.lt_of_lt_of_le hsh (Nat.pow_le_pow_right (by decide) b5')
  have hzG : n = 0 → nG = 0 := fun z => (hz0 z).1
  have hzW : n = 0 → nW = 0 := fun z => (hz0 z).2.1
  simp only [w0_965, w0_966, w0_969, w0_970, w0_973, w0_976, w0_977, oK_some, cont_int, cont_intS, cont_none, cont_noneS, cont_long, cont_longS, true_and, and_true, false_and, and_false, true_implies, false_implies, not_true_eq_false, not_false_eq_true, eq_self, or_true, true_or, Option.isSome_some, hpf_length, hpa_length, bI_eq0, fi_hpa, fl_hpa, ar_hpf, fi_hpf_ne, fl_hpf_ne, ar_hpa_ne, hpa_hpa, hpf_hpf, nI_1, two_ne, fokZ, implies_true, Nat.reduceEqDiff, rc_0, rc_68, hS]
  refine C_surely hI.1 hVf (fun H1 hF1 e1 => ?_)
  have s1 := hF1.shp
  simp only [w0_965, w0_966, w0_969, w0_970, w0_973, w0_976, w0_977, oK_some, cont_int, cont_intS, cont_none, cont_noneS, cont_long, cont_longS, true_and, and_true, false_and, and_false, true_implies, false_implies, not_true_eq_false, not_false_eq_true, eq_self, or_true, true_or, Option.isSome_some, hpf_length, hpa_length, bI_eq0, fi_hpa, fl_hpa, ar_hpf, fi_hpf_ne, fl_hpf_ne, ar_hpa_ne, hpa_hpa, hpf_hpf, nI_1, two_ne, fokZ, implies_true, Nat.reduceEqDiff, rc_0, rc_68, hF1.len, s1]
  refine M_surely (hI.2.1.of hF1 (by decide) (by decide) (by decide) (by decide)) hVd (fun H2 hF2 e0 e2 => ?_)
  have s2 := hF2.shp
  simp only [w0_965, w0_966, w0_969, w0_970, w0_973, w0_976, w0_977, oK_some, cont_int, cont_intS, cont_none, cont_noneS, cont_long, cont_longS, true_and, and_true, false_and, and_false, true_implies, false_implies, not_true_eq_false, not_false_eq_true, eq_self, or_true, true_or, Option.isSome_some, hpf_length, hpa_length, bI_eq0, fi_hpa, fl_hpa, ar_hpf, fi_hpf_ne, fl_hpf_ne, ar_hpa_ne, hpa_hpa, hpf_hpf, nI_1, two_ne, fokZ, implies_true, Nat.reduceEqDiff, rc_0, rc_68, hF2.len, s2]
  exact hn H2 ⟨R, st, Us, Ks, n, nS, nW, nG, nU, nN, tp, inv_q hI hF1 e1 hF2 e2 (by split <;> decide)⟩ (by rw [hF2.len, hF1.len]; exact Nat.le_succ _) _ _ h5 h6
theorem law_30 (hI : Ivv H R st Us Ks n nS nW nG nU nN tp) (hk : 6 * k + 6 ≤ scr.length) (hL : scr.length ≤ 3072) (h5 : Oi o5) (h6 : Oi o6) (hn : ∀ H', INV H' → H'.length ≤ H.length + 1 → ∀ o5 o6 : Option Value, Oi o5 → Oi o6 → Wp scr (d + 17) 0 1690 [some (.retAddr 1000), some (.ref 0), some (.ref 68), some (.ref 83), some (.int (nI (6 * k))), o5, o6] [] H' Q) : Wp scr (d + 17) 0 978 [some (.retAddr 1000), some (.ref 0), some (.ref 68), some (.ref 83), some (.int (nI (6 * k))), o5, o6] [] H Q := by
  have hS := hI.1.shp
  obtain ⟨hVg, hVf, hVd, ⟨hl, hl1, ehl⟩, ⟨hFb, ⟨sh, hsh, esh⟩, ⟨up, hup, eup⟩, ⟨g, hg9, eg⟩⟩, hbU, hbK, hz0⟩ := hI.2.2.2.2.2.2.2.2.2
  have hgb : Gb st := ⟨g, by omega, eg⟩
  have b5' : nG ≤ 6 := hI.2.1.mn.2.2.2.2.2.2.2.2.2.1
  have h64 : sh < 64 := Nat.lt_of_lt_of_le hsh (Nat.pow_le_pow_right (by decide) b5')
  have hzG : n = 0 → nG = 0 := fun z => (hz0 z).1
  have hzW : n = 0 → nW = 0 := fun z => (hz0 z).2.1
  simp only [w0_978, w0_979, w0_982, w0_983, w0_986, w0_989, w0_990, oK_some, cont_int, cont_intS, cont_none, cont_noneS, cont_long, cont_longS, true_and, and_true, false_and, and_false, true_implies, false_implies, not_true_eq_false, not_false_eq_true, eq_self, or_true, true_or, Option.isSome_some, hpf_length, hpa_length, bI_eq0, fi_hpa, fl_hpa, ar_hpf, fi_hpf_ne, fl_hpf_ne, ar_hpa_ne, hpa_hpa, hpf_hpf, nI_1, two_ne, fokZ, implies_true, Nat.reduceEqDiff, rc_0, rc_68, hS]
  refine C_look hI.1 hVf (fun H1 hF1 e1 => ?_)
  have s1 := hF1.shp
  simp only [w0_978, w0_979, w0_982, w0_983, w0_986, w0_989, w0_990, oK_some, cont_int, cont_intS, cont_none, cont_noneS, cont_long, cont_longS, true_and, and_true, false_and, and_false, true_implies, false_implies, not_true_eq_false, not_false_eq_true, eq_self, or_true, true_or, Option.isSome_some, hpf_length, hpa_length, bI_eq0, fi_hpa, fl_hpa, ar_hpf, fi_hpf_ne, fl_hpf_ne, ar_hpa_ne, hpa_hpa, hpf_hpf, nI_1, two_ne, fokZ, implies_true, Nat.reduceEqDiff, rc_0, rc_68, hF1.len, s1]
  refine M_look (hI.2.1.of hF1 (by decide) (by decide) (by decide) (by decide)) hVd (fun H2 hF2 e0 e2 => ?_)
  have s2 := hF2.shp
  simp only [w0_978, w0_979, w0_982, w0_983, w0_986, w0_989, w0_990, oK_some, cont_int, cont_intS, cont_none, cont_noneS, cont_long, cont_longS, true_and, and_true, false_and, and_false, true_implies, false_implies, not_true_eq_false, not_false_eq_true, eq_self, or_true, true_or, Option.isSome_some, hpf_length, hpa_length, bI_eq0, fi_hpa, fl_hpa, ar_hpf, fi_hpf_ne, fl_hpf_ne, ar_hpa_ne, hpa_hpa, hpf_hpf, nI_1, two_ne, fokZ, implies_true, Nat.reduceEqDiff, rc_0, rc_68, hF2.len, s2]
  exact hn H2 ⟨R, st, Us, Ks, n, nS, nW, nG, nU, nN, tp, inv_q hI hF1 e1 hF2 e2 (by split <;> decide)⟩ (by rw [hF2.len, hF1.len]; exact Nat.le_succ _) _ _ h5 h6
theorem law_31 (hI : Ivv H R st Us Ks n nS nW nG nU nN tp) (hk : 6 * k + 6 ≤ scr.length) (hL : scr.length ≤ 3072) (h5 : Oi o5) (h6 : Oi o6) (hn : ∀ H', INV H' → H'.length ≤ H.length + 1 → ∀ o5 o6 : Option Value, Oi o5 → Oi o6 → Wp scr (d + 17) 0 1690 [some (.retAddr 1000), some (.ref 0), some (.ref 68), some (.ref 83), some (.int (nI (6 * k))), o5, o6] [] H' Q) : Wp scr (d + 17) 0 991 [some (.retAddr 1000), some (.ref 0), some (.ref 68), some (.ref 83), some (.int (nI (6 * k))), o5, o6] [] H Q := by
  have hS := hI.1.shp
  obtain ⟨hVg, hVf, hVd, ⟨hl, hl1, ehl⟩, ⟨hFb, ⟨sh, hsh, esh⟩, ⟨up, hup, eup⟩, ⟨g, hg9, eg⟩⟩, hbU, hbK, hz0⟩ := hI.2.2.2.2.2.2.2.2.2
  have hgb : Gb st := ⟨g, by omega, eg⟩
  have b5' : nG ≤ 6 := hI.2.1.mn.2.2.2.2.2.2.2.2.2.1
  have h64 : sh < 64 := Nat.lt_of_lt_of_le hsh (Nat.pow_le_pow_right (by decide) b5')
  have hzG : n = 0 → nG = 0 := fun z => (hz0 z).1
  have hzW : n = 0 → nW = 0 := fun z => (hz0 z).2.1
  simp only [w0_991, w0_992, w0_995, w0_996, w0_999, w0_1002, w0_1003, oK_some, cont_int, cont_intS, cont_none, cont_noneS, cont_long, cont_longS, true_and, and_true, false_and, and_false, true_implies, false_implies, not_true_eq_false, not_false_eq_true, eq_self, or_true, true_or, Option.isSome_some, hpf_length, hpa_length, bI_eq0, fi_hpa, fl_hpa, ar_hpf, fi_hpf_ne, fl_hpf_ne, ar_hpa_ne, hpa_hpa, hpf_hpf, nI_1, two_ne, fokZ, implies_true, Nat.reduceEqDiff, rc_0, rc_68, hS]
  refine C_lookLeaves hI.1 hVf (fun H1 hF1 e1 => ?_)
  have s1 := hF1.shp
  simp only [w0_991, w0_992, w0_995, w0_996, w0_999, w0_1002, w0_1003, oK_some, cont_int, cont_intS, cont_none, cont_noneS, cont_long, cont_longS, true_and, and_true, false_and, and_false, true_implies, false_implies, not_true_eq_false, not_false_eq_true, eq_self, or_true, true_or, Option.isSome_some, hpf_length, hpa_length, bI_eq0, fi_hpa, fl_hpa, ar_hpf, fi_hpf_ne, fl_hpf_ne, ar_hpa_ne, hpa_hpa, hpf_hpf, nI_1, two_ne, fokZ, implies_true, Nat.reduceEqDiff, rc_0, rc_68, hF1.len, s1]
  refine M_lookLeaves (hI.2.1.of hF1 (by decide) (by decide) (by decide) (by decide)) hVd (fun H2 hF2 e0 e2 => ?_)
  have s2 := hF2.shp
  simp only [w0_991, w0_992, w0_995, w0_996, w0_999, w0_1002, w0_1003, oK_some, cont_int, cont_intS, cont_none, cont_noneS, cont_long, cont_longS, true_and, and_true, false_and, and_false, true_implies, false_implies, not_true_eq_false, not_false_eq_true, eq_self, or_true, true_or, Option.isSome_some, hpf_length, hpa_length, bI_eq0, fi_hpa, fl_hpa, ar_hpf, fi_hpf_ne, fl_hpf_ne, ar_hpa_ne, hpa_hpa, hpf_hpf, nI_1, two_ne, fokZ, implies_true, Nat.reduceEqDiff, rc_0, rc_68, hF2.len, s2]
  exact hn H2 ⟨R, st, Us, Ks, n, nS, nW, nG, nU, nN, tp, inv_q hI hF1 e1 hF2 e2 (by split <;> decide)⟩ (by rw [hF2.len, hF1.len]; exact Nat.le_succ _) _ _ h5 h6
theorem law_32 (hI : Ivv H R st Us Ks n nS nW nG nU nN tp) (hk : 6 * k + 6 ≤ scr.length) (hL : scr.length ≤ 3072) (h5 : Oi o5) (h6 : Oi o6) (hn : ∀ H', INV H' → H'.length ≤ H.length + 1 → ∀ o5 o6 : Option Value, Oi o5 → Oi o6 → Wp scr (d + 17) 0 1690 [some (.retAddr 1000), some (.ref 0), some (.ref 68), some (.ref 83), some (.int (nI (6 * k))), o5, o6] [] H' Q) : Wp scr (d + 17) 0 1004 [some (.retAddr 1000), some (.ref 0), some (.ref 68), some (.ref 83), some (.int (nI (6 * k))), o5, o6] [] H Q := by
  have hS := hI.1.shp
  obtain ⟨hVg, hVf, hVd, ⟨hl, hl1, ehl⟩, ⟨hFb, ⟨sh, hsh, esh⟩, ⟨up, hup, eup⟩, ⟨g, hg9, eg⟩⟩, hbU, hbK, hz0⟩ := hI.2.2.2.2.2.2.2.2.2
  have hgb : Gb st := ⟨g, by omega, eg⟩
  have b5' : nG ≤ 6 := hI.2.1.mn.2.2.2.2.2.2.2.2.2.1
  have h64 : sh < 64 := Nat.lt_of_lt_of_le hsh (Nat.pow_le_pow_right (by decide) b5')
  have hzG : n = 0 → nG = 0 := fun z => (hz0 z).1
  have hzW : n = 0 → nW = 0 := fun z => (hz0 z).2.1
  simp only [w0_1004, w0_1005, w0_1008, w0_1009, w0_1012, w0_1015, w0_1016, oK_some, cont_int, cont_intS, cont_none, cont_noneS, cont_long, cont_longS, true_and, and_true, false_and, and_false, true_implies, false_implies, not_true_eq_false, not_false_eq_true, eq_self, or_true, true_or, Option.isSome_some, hpf_length, hpa_length, bI_eq0, fi_hpa, fl_hpa, ar_hpf, fi_hpf_ne, fl_hpf_ne, ar_hpa_ne, hpa_hpa, hpf_hpf, nI_1, two_ne, fokZ, implies_true, Nat.reduceEqDiff, rc_0, rc_68, hS]
  refine C_judge hI.1 hVf (fun H1 hF1 e1 => ?_)
  have s1 := hF1.shp
  simp only [w0_1004, w0_1005, w0_1008, w0_1009, w0_1012, w0_1015, w0_1016, oK_some, cont_int, cont_intS, cont_none, cont_noneS, cont_long, cont_longS, true_and, and_true, false_and, and_false, true_implies, false_implies, not_true_eq_false, not_false_eq_true, eq_self, or_true, true_or, Option.isSome_some, hpf_length, hpa_length, bI_eq0, fi_hpa, fl_hpa, ar_hpf, fi_hpf_ne, fl_hpf_ne, ar_hpa_ne, hpa_hpa, hpf_hpf, nI_1, two_ne, fokZ, implies_true, Nat.reduceEqDiff, rc_0, rc_68, hF1.len, s1]
  refine M_judge (hI.2.1.of hF1 (by decide) (by decide) (by decide) (by decide)) hVd (fun H2 hF2 e0 e2 => ?_)
  have s2 := hF2.shp
  simp only [w0_1004, w0_1005, w0_1008, w0_1009, w0_1012, w0_1015, w0_1016, oK_some, cont_int, cont_intS, cont_none, cont_noneS, cont_long, cont_longS, true_and, and_true, false_and, and_false, true_implies, false_implies, not_true_eq_false, not_false_eq_true, eq_self, or_true, true_or, Option.isSome_some, hpf_length, hpa_length, bI_eq0, fi_hpa, fl_hpa, ar_hpf, fi_hpf_ne, fl_hpf_ne, ar_hpa_ne, hpa_hpa, hpf_hpf, nI_1, two_ne, fokZ, implies_true, Nat.reduceEqDiff, rc_0, rc_68, hF2.len, s2]
  exact hn H2 ⟨R, st, Us, Ks, n, nS, nW, nG, nU, nN, tp, inv_q hI hF1 e1 hF2 e2 (by split <;> decide)⟩ (by rw [hF2.len, hF1.len]; exact Nat.le_succ _) _ _ h5 h6
theorem law_33 (hI : Ivv H R st Us Ks n nS nW nG nU nN tp) (hk : 6 * k + 6 ≤ scr.length) (hL : scr.length ≤ 3072) (h5 : Oi o5) (h6 : Oi o6) (hn : ∀ H', INV H' → H'.length ≤ H.length + 1 → ∀ o5 o6 : Option Value, Oi o5 → Oi o6 → Wp scr (d + 17) 0 1690 [some (.retAddr 1000), some (.ref 0), some (.ref 68), some (.ref 83), some (.int (nI (6 * k))), o5, o6] [] H' Q) : Wp scr (d + 17) 0 1017 [some (.retAddr 1000), some (.ref 0), some (.ref 68), some (.ref 83), some (.int (nI (6 * k))), o5, o6] [] H Q := by
  have hS := hI.1.shp
  obtain ⟨hVg, hVf, hVd, ⟨hl, hl1, ehl⟩, ⟨hFb, ⟨sh, hsh, esh⟩, ⟨up, hup, eup⟩, ⟨g, hg9, eg⟩⟩, hbU, hbK, hz0⟩ := hI.2.2.2.2.2.2.2.2.2
  have hgb : Gb st := ⟨g, by omega, eg⟩
  have b5' : nG ≤ 6 := hI.2.1.mn.2.2.2.2.2.2.2.2.2.1
  have h64 : sh < 64 := Nat.lt_of_lt_of_le hsh (Nat.pow_le_pow_right (by decide) b5')
  have hzG : n = 0 → nG = 0 := fun z => (hz0 z).1
  have hzW : n = 0 → nW = 0 := fun z => (hz0 z).2.1
  have q1 : nI (6 * k) + 1 = nI (6 * k + 1) := ixa (6 * k) 1 (v := 1) rfl
  have b1 : inb (nI (6 * k + 1)) scr.length = true := by rw [inb_nI (by omega)]; exact decide_eq_true (by omega)
  have c1 : (nI (6 * k + 1)).toNatClampNeg = 6 * k + 1 := nI_clamp (by omega)
  simp only [w0_1017, w0_1018, w0_1019, w0_1021, w0_1022, w0_1023, w0_1024, w0_1027, w0_1028, w0_1029, w0_1031, w0_1032, w0_1033, w0_1034, w0_1037, w0_1040, w0_1041, oK_some, cont_int, cont_intS, cont_none, cont_noneS, cont_long, cont_longS, true_and, and_true, false_and, and_false, true_implies, false_implies, not_true_eq_false, not_false_eq_true, eq_self, or_true, true_or, Option.isSome_some, hpf_length, hpa_length, bI_eq0, fi_hpa, fl_hpa, ar_hpf, fi_hpf_ne, fl_hpf_ne, ar_hpa_ne, hpa_hpa, hpf_hpf, nI_1, two_ne, fokZ, implies_true, Nat.reduceEqDiff, rc_0, rc_68, hS, q1, b1, c1]
  refine C_tell goC hI.1 hgb (fun H1 hF1 e1 => ?_)
  have s1 := hF1.shp
  simp only [w0_1017, w0_1018, w0_1019, w0_1021, w0_1022, w0_1023, w0_1024, w0_1027, w0_1028, w0_1029, w0_1031, w0_1032, w0_1033, w0_1034, w0_1037, w0_1040, w0_1041, oK_some, cont_int, cont_intS, cont_none, cont_noneS, cont_long, cont_longS, true_and, and_true, false_and, and_false, true_implies, false_implies, not_true_eq_false, not_false_eq_true, eq_self, or_true, true_or, Option.isSome_some, hpf_length, hpa_length, bI_eq0, fi_hpa, fl_hpa, ar_hpf, fi_hpf_ne, fl_hpf_ne, ar_hpa_ne, hpa_hpa, hpf_hpf, nI_1, two_ne, fokZ, implies_true, Nat.reduceEqDiff, rc_0, rc_68, hF1.len, s1, q1, b1, c1]
  refine M_tell (hI.2.1.of hF1 (by decide) (by decide) (by decide) (by decide)) (fun H2 hF2 e0 e2 => ?_)
  have s2 := hF2.shp
  simp only [w0_1017, w0_1018, w0_1019, w0_1021, w0_1022, w0_1023, w0_1024, w0_1027, w0_1028, w0_1029, w0_1031, w0_1032, w0_1033, w0_1034, w0_1037, w0_1040, w0_1041, oK_some, cont_int, cont_intS, cont_none, cont_noneS, cont_long, cont_longS, true_and, and_true, false_and, and_false, true_implies, false_implies, not_true_eq_false, not_false_eq_true, eq_self, or_true, true_or, Option.isSome_some, hpf_length, hpa_length, bI_eq0, fi_hpa, fl_hpa, ar_hpf, fi_hpf_ne, fl_hpf_ne, ar_hpa_ne, hpa_hpa, hpf_hpf, nI_1, two_ne, fokZ, implies_true, Nat.reduceEqDiff, rc_0, rc_68, hF2.len, s2]
  exact hn H2 ⟨R, st, Us, Ks, n, nS, nW, nG, nU, nN, tp, inv_q hI hF1 e1 hF2 e2 (whyF_4 _ _ _)⟩ (by rw [hF2.len, hF1.len]; exact Nat.le_succ _) _ _ h5 h6
theorem law_34 (hI : Ivv H R st Us Ks n nS nW nG nU nN tp) (hk : 6 * k + 6 ≤ scr.length) (hL : scr.length ≤ 3072) (h5 : Oi o5) (h6 : Oi o6) (hn : ∀ H', INV H' → H'.length ≤ H.length + 1 → ∀ o5 o6 : Option Value, Oi o5 → Oi o6 → Wp scr (d + 17) 0 1690 [some (.retAddr 1000), some (.ref 0), some (.ref 68), some (.ref 83), some (.int (nI (6 * k))), o5, o6] [] H' Q) : Wp scr (d + 17) 0 1042 [some (.retAddr 1000), some (.ref 0), some (.ref 68), some (.ref 83), some (.int (nI (6 * k))), o5, o6] [] H Q := by
  have hS := hI.1.shp
  obtain ⟨hVg, hVf, hVd, ⟨hl, hl1, ehl⟩, ⟨hFb, ⟨sh, hsh, esh⟩, ⟨up, hup, eup⟩, ⟨g, hg9, eg⟩⟩, hbU, hbK, hz0⟩ := hI.2.2.2.2.2.2.2.2.2
  have hgb : Gb st := ⟨g, by omega, eg⟩
  have b5' : nG ≤ 6 := hI.2.1.mn.2.2.2.2.2.2.2.2.2.1
  have h64 : sh < 64 := Nat.lt_of_lt_of_le hsh (Nat.pow_le_pow_right (by decide) b5')
  have hzG : n = 0 → nG = 0 := fun z => (hz0 z).1
  have hzW : n = 0 → nW = 0 := fun z => (hz0 z).2.1
  have q1 : nI (6 * k) + 1 = nI (6 * k + 1) := ixa (6 * k) 1 (v := 1) rfl
  have b1 : inb (nI (6 * k + 1)) scr.length = true := by rw [inb_nI (by omega)]; exact decide_eq_true (by omega)
  have c1 : (nI (6 * k + 1)).toNatClampNeg = 6 * k + 1 := nI_clamp (by omega)
  simp only [w0_1042, w0_1043, w0_1044, w0_1046, w0_1047, w0_1048, w0_1049, w0_1052, w0_1053, w0_1054, w0_1056, w0_1057, w0_1058, w0_1059, w0_1062, w0_1065, w0_1066, oK_some, cont_int, cont_intS, cont_none, cont_noneS, cont_long, cont_longS, true_and, and_true, false_and, and_false, true_implies, false_implies, not_true_eq_false, not_false_eq_true, eq_self, or_true, true_or, Option.isSome_some, hpf_length, hpa_length, bI_eq0, fi_hpa, fl_hpa, ar_hpf, fi_hpf_ne, fl_hpf_ne, ar_hpa_ne, hpa_hpa, hpf_hpf, nI_1, two_ne, fokZ, implies_true, Nat.reduceEqDiff, rc_0, rc_68, hS, q1, b1, c1]
  refine C_tellMost goC hI.1 hgb (fun H1 hF1 e1 => ?_)
  have s1 := hF1.shp
  simp only [w0_1042, w0_1043, w0_1044, w0_1046, w0_1047, w0_1048, w0_1049, w0_1052, w0_1053, w0_1054, w0_1056, w0_1057, w0_1058, w0_1059, w0_1062, w0_1065, w0_1066, oK_some, cont_int, cont_intS, cont_none, cont_noneS, cont_long, cont_longS, true_and, and_true, false_and, and_false, true_implies, false_implies, not_true_eq_false, not_false_eq_true, eq_self, or_true, true_or, Option.isSome_some, hpf_length, hpa_length, bI_eq0, fi_hpa, fl_hpa, ar_hpf, fi_hpf_ne, fl_hpf_ne, ar_hpa_ne, hpa_hpa, hpf_hpf, nI_1, two_ne, fokZ, implies_true, Nat.reduceEqDiff, rc_0, rc_68, hF1.len, s1, q1, b1, c1]
  refine M_tellMost (hI.2.1.of hF1 (by decide) (by decide) (by decide) (by decide)) (fun H2 hF2 e0 e2 => ?_)
  have s2 := hF2.shp
  simp only [w0_1042, w0_1043, w0_1044, w0_1046, w0_1047, w0_1048, w0_1049, w0_1052, w0_1053, w0_1054, w0_1056, w0_1057, w0_1058, w0_1059, w0_1062, w0_1065, w0_1066, oK_some, cont_int, cont_intS, cont_none, cont_noneS, cont_long, cont_longS, true_and, and_true, false_and, and_false, true_implies, false_implies, not_true_eq_false, not_false_eq_true, eq_self, or_true, true_or, Option.isSome_some, hpf_length, hpa_length, bI_eq0, fi_hpa, fl_hpa, ar_hpf, fi_hpf_ne, fl_hpf_ne, ar_hpa_ne, hpa_hpa, hpf_hpf, nI_1, two_ne, fokZ, implies_true, Nat.reduceEqDiff, rc_0, rc_68, hF2.len, s2]
  exact hn H2 ⟨R, st, Us, Ks, n, nS, nW, nG, nU, nN, tp, inv_q hI hF1 e1 hF2 e2 (whyF_4 _ _ _)⟩ (by rw [hF2.len, hF1.len]; exact Nat.le_succ _) _ _ h5 h6
theorem law_35 (hI : Ivv H R st Us Ks n nS nW nG nU nN tp) (hk : 6 * k + 6 ≤ scr.length) (hL : scr.length ≤ 3072) (h5 : Oi o5) (h6 : Oi o6) (hn : ∀ H', INV H' → H'.length ≤ H.length + 1 → ∀ o5 o6 : Option Value, Oi o5 → Oi o6 → Wp scr (d + 17) 0 1690 [some (.retAddr 1000), some (.ref 0), some (.ref 68), some (.ref 83), some (.int (nI (6 * k))), o5, o6] [] H' Q) : Wp scr (d + 17) 0 1067 [some (.retAddr 1000), some (.ref 0), some (.ref 68), some (.ref 83), some (.int (nI (6 * k))), o5, o6] [] H Q := by
  have hS := hI.1.shp
  obtain ⟨hVg, hVf, hVd, ⟨hl, hl1, ehl⟩, ⟨hFb, ⟨sh, hsh, esh⟩, ⟨up, hup, eup⟩, ⟨g, hg9, eg⟩⟩, hbU, hbK, hz0⟩ := hI.2.2.2.2.2.2.2.2.2
  have hgb : Gb st := ⟨g, by omega, eg⟩
  have b5' : nG ≤ 6 := hI.2.1.mn.2.2.2.2.2.2.2.2.2.1
  have h64 : sh < 64 := Nat.lt_of_lt_of_le hsh (Nat.pow_le_pow_right (by decide) b5')
  have hzG : n = 0 → nG = 0 := fun z => (hz0 z).1
  have hzW : n = 0 → nW = 0 := fun z => (hz0 z).2.1
  have q1 : nI (6 * k) + 1 = nI (6 * k + 1) := ixa (6 * k) 1 (v := 1) rfl
  have b1 : inb (nI (6 * k + 1)) scr.length = true := by rw [inb_nI (by omega)]; exact decide_eq_true (by omega)
  have c1 : (nI (6 * k + 1)).toNatClampNeg = 6 * k + 1 := nI_clamp (by omega)
  simp only [w0_1067, w0_1068, w0_1069, w0_1071, w0_1072, w0_1073, w0_1074, w0_1077, w0_1078, w0_1079, w0_1081, w0_1082, w0_1083, w0_1084, w0_1087, w0_1090, w0_1091, oK_some, cont_int, cont_intS, cont_none, cont_noneS, cont_long, cont_longS, true_and, and_true, false_and, and_false, true_implies, false_implies, not_true_eq_false, not_false_eq_true, eq_self, or_true, true_or, Option.isSome_some, hpf_length, hpa_length, bI_eq0, fi_hpa, fl_hpa, ar_hpf, fi_hpf_ne, fl_hpf_ne, ar_hpa_ne, hpa_hpa, hpf_hpf, nI_1, two_ne, fokZ, implies_true, Nat.reduceEqDiff, rc_0, rc_68, hS, q1, b1, c1]
  refine C_value goC hI.1 hgb esh h64 (fun H1 hF1 e1 => ?_)
  have s1 := hF1.shp
  simp only [w0_1067, w0_1068, w0_1069, w0_1071, w0_1072, w0_1073, w0_1074, w0_1077, w0_1078, w0_1079, w0_1081, w0_1082, w0_1083, w0_1084, w0_1087, w0_1090, w0_1091, oK_some, cont_int, cont_intS, cont_none, cont_noneS, cont_long, cont_longS, true_and, and_true, false_and, and_false, true_implies, false_implies, not_true_eq_false, not_false_eq_true, eq_self, or_true, true_or, Option.isSome_some, hpf_length, hpa_length, bI_eq0, fi_hpa, fl_hpa, ar_hpf, fi_hpf_ne, fl_hpf_ne, ar_hpa_ne, hpa_hpa, hpf_hpf, nI_1, two_ne, fokZ, implies_true, Nat.reduceEqDiff, rc_0, rc_68, hF1.len, s1, q1, b1, c1]
  refine M_value (hI.2.1.of hF1 (by decide) (by decide) (by decide) (by decide)) esh h64 (fun H2 hF2 e0 e2 => ?_)
  have s2 := hF2.shp
  simp only [w0_1067, w0_1068, w0_1069, w0_1071, w0_1072, w0_1073, w0_1074, w0_1077, w0_1078, w0_1079, w0_1081, w0_1082, w0_1083, w0_1084, w0_1087, w0_1090, w0_1091, oK_some, cont_int, cont_intS, cont_none, cont_noneS, cont_long, cont_longS, true_and, and_true, false_and, and_false, true_implies, false_implies, not_true_eq_false, not_false_eq_true, eq_self, or_true, true_or, Option.isSome_some, hpf_length, hpa_length, bI_eq0, fi_hpa, fl_hpa, ar_hpf, fi_hpf_ne, fl_hpf_ne, ar_hpa_ne, hpa_hpa, hpf_hpf, nI_1, two_ne, fokZ, implies_true, Nat.reduceEqDiff, rc_0, rc_68, hF2.len, s2]
  exact hn H2 ⟨R, st, Us, Ks, n, nS, nW, nG, nU, nN, tp, inv_q hI hF1 e1 hF2 e2 (whyF_4 _ _ _)⟩ (by rw [hF2.len, hF1.len]; exact Nat.le_succ _) _ _ h5 h6
theorem law_36 (hI : Ivv H R st Us Ks n nS nW nG nU nN tp) (hk : 6 * k + 6 ≤ scr.length) (hL : scr.length ≤ 3072) (h5 : Oi o5) (h6 : Oi o6) (hn : ∀ H', INV H' → H'.length ≤ H.length + 1 → ∀ o5 o6 : Option Value, Oi o5 → Oi o6 → Wp scr (d + 17) 0 1690 [some (.retAddr 1000), some (.ref 0), some (.ref 68), some (.ref 83), some (.int (nI (6 * k))), o5, o6] [] H' Q) : Wp scr (d + 17) 0 1092 [some (.retAddr 1000), some (.ref 0), some (.ref 68), some (.ref 83), some (.int (nI (6 * k))), o5, o6] [] H Q := by
  have hS := hI.1.shp
  obtain ⟨hVg, hVf, hVd, ⟨hl, hl1, ehl⟩, ⟨hFb, ⟨sh, hsh, esh⟩, ⟨up, hup, eup⟩, ⟨g, hg9, eg⟩⟩, hbU, hbK, hz0⟩ := hI.2.2.2.2.2.2.2.2.2
  have hgb : Gb st := ⟨g, by omega, eg⟩
  have b5' : nG ≤ 6 := hI.2.1.mn.2.2.2.2.2.2.2.2.2.1
  have h64 : sh < 64 := Nat.lt_of_lt_of_le hsh (Nat.pow_le_pow_right (by decide) b5')
  have hzG : n = 0 → nG = 0 := fun z => (hz0 z).1
  have hzW : n = 0 → nW = 0 := fun z => (hz0 z).2.1
  have q1 : nI (6 * k) + 1 = nI (6 * k + 1) := ixa (6 * k) 1 (v := 1) rfl
  have b1 : inb (nI (6 * k + 1)) scr.length = true := by rw [inb_nI (by omega)]; exact decide_eq_true (by omega)
  have c1 : (nI (6 * k + 1)).toNatClampNeg = 6 * k + 1 := nI_clamp (by omega)
  simp only [w0_1092, w0_1093, w0_1094, w0_1096, w0_1097, w0_1098, w0_1099, w0_1102, w0_1103, w0_1104, w0_1106, w0_1107, w0_1108, w0_1109, w0_1112, w0_1115, w0_1116, oK_some, cont_int, cont_intS, cont_none, cont_noneS, cont_long, cont_longS, true_and, and_true, false_and, and_false, true_implies, false_implies, not_true_eq_false, not_false_eq_true, eq_self, or_true, true_or, Option.isSome_some, hpf_length, hpa_length, bI_eq0, fi_hpa, fl_hpa, ar_hpf, fi_hpf_ne, fl_hpf_ne, ar_hpa_ne, hpa_hpa, hpf_hpf, nI_1, two_ne, fokZ, implies_true, Nat.reduceEqDiff, rc_0, rc_68, hS, q1, b1, c1]
  refine C_take goC hI.1 hgb esh h64 (fun H1 hF1 e1 => ?_)
  have s1 := hF1.shp
  simp only [w0_1092, w0_1093, w0_1094, w0_1096, w0_1097, w0_1098, w0_1099, w0_1102, w0_1103, w0_1104, w0_1106, w0_1107, w0_1108, w0_1109, w0_1112, w0_1115, w0_1116, oK_some, cont_int, cont_intS, cont_none, cont_noneS, cont_long, cont_longS, true_and, and_true, false_and, and_false, true_implies, false_implies, not_true_eq_false, not_false_eq_true, eq_self, or_true, true_or, Option.isSome_some, hpf_length, hpa_length, bI_eq0, fi_hpa, fl_hpa, ar_hpf, fi_hpf_ne, fl_hpf_ne, ar_hpa_ne, hpa_hpa, hpf_hpf, nI_1, two_ne, fokZ, implies_true, Nat.reduceEqDiff, rc_0, rc_68, hF1.len, s1, q1, b1, c1]
  refine M_take (hI.2.1.of hF1 (by decide) (by decide) (by decide) (by decide)) esh h64 (fun H2 hF2 e0 e2 => ?_)
  have s2 := hF2.shp
  simp only [w0_1092, w0_1093, w0_1094, w0_1096, w0_1097, w0_1098, w0_1099, w0_1102, w0_1103, w0_1104, w0_1106, w0_1107, w0_1108, w0_1109, w0_1112, w0_1115, w0_1116, oK_some, cont_int, cont_intS, cont_none, cont_noneS, cont_long, cont_longS, true_and, and_true, false_and, and_false, true_implies, false_implies, not_true_eq_false, not_false_eq_true, eq_self, or_true, true_or, Option.isSome_some, hpf_length, hpa_length, bI_eq0, fi_hpa, fl_hpa, ar_hpf, fi_hpf_ne, fl_hpf_ne, ar_hpa_ne, hpa_hpa, hpf_hpf, nI_1, two_ne, fokZ, implies_true, Nat.reduceEqDiff, rc_0, rc_68, hF2.len, s2]
  exact hn H2 ⟨R, st, Us, Ks, n, nS, nW, nG, nU, nN, tp, inv_q hI hF1 e1 hF2 e2 (whyF_4 _ _ _)⟩ (by rw [hF2.len, hF1.len]; exact Nat.le_succ _) _ _ h5 h6
theorem law_40 (hI : Ivv H R st Us Ks n nS nW nG nU nN tp) (hk : 6 * k + 6 ≤ scr.length) (hL : scr.length ≤ 3072) (h5 : Oi o5) (h6 : Oi o6) (hn : ∀ H', INV H' → H'.length ≤ H.length + 1 → ∀ o5 o6 : Option Value, Oi o5 → Oi o6 → Wp scr (d + 17) 0 1690 [some (.retAddr 1000), some (.ref 0), some (.ref 68), some (.ref 83), some (.int (nI (6 * k))), o5, o6] [] H' Q) : Wp scr (d + 17) 0 1291 [some (.retAddr 1000), some (.ref 0), some (.ref 68), some (.ref 83), some (.int (nI (6 * k))), o5, o6] [] H Q := by
  have hS := hI.1.shp
  obtain ⟨hVg, hVf, hVd, ⟨hl, hl1, ehl⟩, ⟨hFb, ⟨sh, hsh, esh⟩, ⟨up, hup, eup⟩, ⟨g, hg9, eg⟩⟩, hbU, hbK, hz0⟩ := hI.2.2.2.2.2.2.2.2.2
  have hgb : Gb st := ⟨g, by omega, eg⟩
  have b5' : nG ≤ 6 := hI.2.1.mn.2.2.2.2.2.2.2.2.2.1
  have h64 : sh < 64 := Nat.lt_of_lt_of_le hsh (Nat.pow_le_pow_right (by decide) b5')
  have hzG : n = 0 → nG = 0 := fun z => (hz0 z).1
  have hzW : n = 0 → nW = 0 := fun z => (hz0 z).2.1
  have q1 : nI (6 * k) + 1 = nI (6 * k + 1) := ixa (6 * k) 1 (v := 1) rfl
  have b1 : inb (nI (6 * k + 1)) scr.length = true := by rw [inb_nI (by omega)]; exact decide_eq_true (by omega)
  have c1 : (nI (6 * k + 1)).toNatClampNeg = 6 * k + 1 := nI_clamp (by omega)
  have q2 : nI (6 * k) + 2 = nI (6 * k + 2) := ixa (6 * k) 2 (v := 2) rfl
  have b2 : inb (nI (6 * k + 2)) scr.length = true := by rw [inb_nI (by omega)]; exact decide_eq_true (by omega)
  have c2 : (nI (6 * k + 2)).toNatClampNeg = 6 * k + 2 := nI_clamp (by omega)
  have q3 : nI (6 * k) + 3 = nI (6 * k + 3) := ixa (6 * k) 3 (v := 3) rfl
  have b3 : inb (nI (6 * k + 3)) scr.length = true := by rw [inb_nI (by omega)]; exact decide_eq_true (by omega)
  have c3 : (nI (6 * k + 3)).toNatClampNeg = 6 * k + 3 := nI_clamp (by omega)
  simp only [w0_1291, w0_1292, w0_1293, w0_1295, w0_1296, w0_1297, w0_1298, w0_1299, w0_1301, w0_1302, w0_1303, w0_1304, w0_1305, w0_1307, w0_1308, w0_1309, w0_1310, w0_1313, w0_1314, w0_1315, w0_1317, w0_1318, w0_1319, w0_1320, w0_1321, w0_1323, w0_1324, w0_1325, w0_1326, w0_1327, w0_1329, w0_1330, w0_1331, w0_1332, w0_1335, w0_1338, w0_1339, oK_some, cont_int, cont_intS, cont_none, cont_noneS, cont_long, cont_longS, true_and, and_true, false_and, and_false, true_implies, false_implies, not_true_eq_false, not_false_eq_true, eq_self, or_true, true_or, Option.isSome_some, hpf_length, hpa_length, bI_eq0, fi_hpa, fl_hpa, ar_hpf, fi_hpf_ne, fl_hpf_ne, ar_hpa_ne, hpa_hpa, hpf_hpf, nI_1, two_ne, fokZ, implies_true, Nat.reduceEqDiff, rc_0, rc_68, hS, q1, b1, c1, q2, b2, c2, q3, b3, c3]
  refine C_grafted hI.1 (fun H1 hF1 e1 => ?_)
  have s1 := hF1.shp
  simp only [w0_1291, w0_1292, w0_1293, w0_1295, w0_1296, w0_1297, w0_1298, w0_1299, w0_1301, w0_1302, w0_1303, w0_1304, w0_1305, w0_1307, w0_1308, w0_1309, w0_1310, w0_1313, w0_1314, w0_1315, w0_1317, w0_1318, w0_1319, w0_1320, w0_1321, w0_1323, w0_1324, w0_1325, w0_1326, w0_1327, w0_1329, w0_1330, w0_1331, w0_1332, w0_1335, w0_1338, w0_1339, oK_some, cont_int, cont_intS, cont_none, cont_noneS, cont_long, cont_longS, true_and, and_true, false_and, and_false, true_implies, false_implies, not_true_eq_false, not_false_eq_true, eq_self, or_true, true_or, Option.isSome_some, hpf_length, hpa_length, bI_eq0, fi_hpa, fl_hpa, ar_hpf, fi_hpf_ne, fl_hpf_ne, ar_hpa_ne, hpa_hpa, hpf_hpf, nI_1, two_ne, fokZ, implies_true, Nat.reduceEqDiff, rc_0, rc_68, hF1.len, s1, q1, b1, c1, q2, b2, c2, q3, b3, c3]
  refine M_grafted (hI.2.1.of hF1 (by decide) (by decide) (by decide) (by decide)) (fun H2 hF2 e0 e2 => ?_)
  have s2 := hF2.shp
  simp only [w0_1291, w0_1292, w0_1293, w0_1295, w0_1296, w0_1297, w0_1298, w0_1299, w0_1301, w0_1302, w0_1303, w0_1304, w0_1305, w0_1307, w0_1308, w0_1309, w0_1310, w0_1313, w0_1314, w0_1315, w0_1317, w0_1318, w0_1319, w0_1320, w0_1321, w0_1323, w0_1324, w0_1325, w0_1326, w0_1327, w0_1329, w0_1330, w0_1331, w0_1332, w0_1335, w0_1338, w0_1339, oK_some, cont_int, cont_intS, cont_none, cont_noneS, cont_long, cont_longS, true_and, and_true, false_and, and_false, true_implies, false_implies, not_true_eq_false, not_false_eq_true, eq_self, or_true, true_or, Option.isSome_some, hpf_length, hpa_length, bI_eq0, fi_hpa, fl_hpa, ar_hpf, fi_hpf_ne, fl_hpf_ne, ar_hpa_ne, hpa_hpa, hpf_hpf, nI_1, two_ne, fokZ, implies_true, Nat.reduceEqDiff, rc_0, rc_68, hF2.len, s2]
  exact hn H2 ⟨R, st, Us, Ks, n, nS, nW, nG, nU, nN, tp, inv_q hI hF1 e1 hF2 e2 (gwF_4 _ _ _)⟩ (by rw [hF2.len, hF1.len]; exact Nat.le_succ _) _ _ h5 h6
theorem law_41 (hI : Ivv H R st Us Ks n nS nW nG nU nN tp) (hk : 6 * k + 6 ≤ scr.length) (hL : scr.length ≤ 3072) (h5 : Oi o5) (h6 : Oi o6) (hn : ∀ H', INV H' → H'.length ≤ H.length + 1 → ∀ o5 o6 : Option Value, Oi o5 → Oi o6 → Wp scr (d + 17) 0 1690 [some (.retAddr 1000), some (.ref 0), some (.ref 68), some (.ref 83), some (.int (nI (6 * k))), o5, o6] [] H' Q) : Wp scr (d + 17) 0 1340 [some (.retAddr 1000), some (.ref 0), some (.ref 68), some (.ref 83), some (.int (nI (6 * k))), o5, o6] [] H Q := by
  have hS := hI.1.shp
  obtain ⟨hVg, hVf, hVd, ⟨hl, hl1, ehl⟩, ⟨hFb, ⟨sh, hsh, esh⟩, ⟨up, hup, eup⟩, ⟨g, hg9, eg⟩⟩, hbU, hbK, hz0⟩ := hI.2.2.2.2.2.2.2.2.2
  have hgb : Gb st := ⟨g, by omega, eg⟩
  have b5' : nG ≤ 6 := hI.2.1.mn.2.2.2.2.2.2.2.2.2.1
  have h64 : sh < 64 := Nat.lt_of_lt_of_le hsh (Nat.pow_le_pow_right (by decide) b5')
  have hzG : n = 0 → nG = 0 := fun z => (hz0 z).1
  have hzW : n = 0 → nW = 0 := fun z => (hz0 z).2.1
  have q1 : nI (6 * k) + 1 = nI (6 * k + 1) := ixa (6 * k) 1 (v := 1) rfl
  have b1 : inb (nI (6 * k + 1)) scr.length = true := by rw [inb_nI (by omega)]; exact decide_eq_true (by omega)
  have c1 : (nI (6 * k + 1)).toNatClampNeg = 6 * k + 1 := nI_clamp (by omega)
  have q2 : nI (6 * k) + 2 = nI (6 * k + 2) := ixa (6 * k) 2 (v := 2) rfl
  have b2 : inb (nI (6 * k + 2)) scr.length = true := by rw [inb_nI (by omega)]; exact decide_eq_true (by omega)
  have c2 : (nI (6 * k + 2)).toNatClampNeg = 6 * k + 2 := nI_clamp (by omega)
  simp only [w0_1340, w0_1341, w0_1342, w0_1344, w0_1345, w0_1346, w0_1347, w0_1348, w0_1350, w0_1351, w0_1352, w0_1353, w0_1356, w0_1357, w0_1358, w0_1360, w0_1361, w0_1362, w0_1363, w0_1364, w0_1366, w0_1367, w0_1368, w0_1369, w0_1372, w0_1375, w0_1376, oK_some, cont_int, cont_intS, cont_none, cont_noneS, cont_long, cont_longS, true_and, and_true, false_and, and_false, true_implies, false_implies, not_true_eq_false, not_false_eq_true, eq_self, or_true, true_or, Option.isSome_some, hpf_length, hpa_length, bI_eq0, fi_hpa, fl_hpa, ar_hpf, fi_hpf_ne, fl_hpf_ne, ar_hpa_ne, hpa_hpa, hpf_hpf, nI_1, two_ne, fokZ, implies_true, Nat.reduceEqDiff, rc_0, rc_68, hS, q1, b1, c1, q2, b2, c2]
  refine C_graftDoubters hI.1 (fun H1 hF1 e1 => ?_)
  have s1 := hF1.shp
  simp only [w0_1340, w0_1341, w0_1342, w0_1344, w0_1345, w0_1346, w0_1347, w0_1348, w0_1350, w0_1351, w0_1352, w0_1353, w0_1356, w0_1357, w0_1358, w0_1360, w0_1361, w0_1362, w0_1363, w0_1364, w0_1366, w0_1367, w0_1368, w0_1369, w0_1372, w0_1375, w0_1376, oK_some, cont_int, cont_intS, cont_none, cont_noneS, cont_long, cont_longS, true_and, and_true, false_and, and_false, true_implies, false_implies, not_true_eq_false, not_false_eq_true, eq_self, or_true, true_or, Option.isSome_some, hpf_length, hpa_length, bI_eq0, fi_hpa, fl_hpa, ar_hpf, fi_hpf_ne, fl_hpf_ne, ar_hpa_ne, hpa_hpa, hpf_hpf, nI_1, two_ne, fokZ, implies_true, Nat.reduceEqDiff, rc_0, rc_68, hF1.len, s1, q1, b1, c1, q2, b2, c2]
  refine M_graftDoubters (hI.2.1.of hF1 (by decide) (by decide) (by decide) (by decide)) (fun H2 hF2 e0 e2 => ?_)
  have s2 := hF2.shp
  simp only [w0_1340, w0_1341, w0_1342, w0_1344, w0_1345, w0_1346, w0_1347, w0_1348, w0_1350, w0_1351, w0_1352, w0_1353, w0_1356, w0_1357, w0_1358, w0_1360, w0_1361, w0_1362, w0_1363, w0_1364, w0_1366, w0_1367, w0_1368, w0_1369, w0_1372, w0_1375, w0_1376, oK_some, cont_int, cont_intS, cont_none, cont_noneS, cont_long, cont_longS, true_and, and_true, false_and, and_false, true_implies, false_implies, not_true_eq_false, not_false_eq_true, eq_self, or_true, true_or, Option.isSome_some, hpf_length, hpa_length, bI_eq0, fi_hpa, fl_hpa, ar_hpf, fi_hpf_ne, fl_hpf_ne, ar_hpa_ne, hpa_hpa, hpf_hpf, nI_1, two_ne, fokZ, implies_true, Nat.reduceEqDiff, rc_0, rc_68, hF2.len, s2]
  exact hn H2 ⟨R, st, Us, Ks, n, nS, nW, nG, nU, nN, tp, inv_q hI hF1 e1 hF2 e2 (gwF_4 _ _ _)⟩ (by rw [hF2.len, hF1.len]; exact Nat.le_succ _) _ _ h5 h6
theorem law_42 (hI : Ivv H R st Us Ks n nS nW nG nU nN tp) (hk : 6 * k + 6 ≤ scr.length) (hL : scr.length ≤ 3072) (h5 : Oi o5) (h6 : Oi o6) (hn : ∀ H', INV H' → H'.length ≤ H.length + 1 → ∀ o5 o6 : Option Value, Oi o5 → Oi o6 → Wp scr (d + 17) 0 1690 [some (.retAddr 1000), some (.ref 0), some (.ref 68), some (.ref 83), some (.int (nI (6 * k))), o5, o6] [] H' Q) : Wp scr (d + 17) 0 1377 [some (.retAddr 1000), some (.ref 0), some (.ref 68), some (.ref 83), some (.int (nI (6 * k))), o5, o6] [] H Q := by
  have hS := hI.1.shp
  obtain ⟨hVg, hVf, hVd, ⟨hl, hl1, ehl⟩, ⟨hFb, ⟨sh, hsh, esh⟩, ⟨up, hup, eup⟩, ⟨g, hg9, eg⟩⟩, hbU, hbK, hz0⟩ := hI.2.2.2.2.2.2.2.2.2
  have hgb : Gb st := ⟨g, by omega, eg⟩
  have b5' : nG ≤ 6 := hI.2.1.mn.2.2.2.2.2.2.2.2.2.1
  have h64 : sh < 64 := Nat.lt_of_lt_of_le hsh (Nat.pow_le_pow_right (by decide) b5')
  have hzG : n = 0 → nG = 0 := fun z => (hz0 z).1
  have hzW : n = 0 → nW = 0 := fun z => (hz0 z).2.1
  have q1 : nI (6 * k) + 1 = nI (6 * k + 1) := ixa (6 * k) 1 (v := 1) rfl
  have b1 : inb (nI (6 * k + 1)) scr.length = true := by rw [inb_nI (by omega)]; exact decide_eq_true (by omega)
  have c1 : (nI (6 * k + 1)).toNatClampNeg = 6 * k + 1 := nI_clamp (by omega)
  have q2 : nI (6 * k) + 2 = nI (6 * k + 2) := ixa (6 * k) 2 (v := 2) rfl
  have b2 : inb (nI (6 * k + 2)) scr.length = true := by rw [inb_nI (by omega)]; exact decide_eq_true (by omega)
  have c2 : (nI (6 * k + 2)).toNatClampNeg = 6 * k + 2 := nI_clamp (by omega)
  have q3 : nI (6 * k) + 3 = nI (6 * k + 3) := ixa (6 * k) 3 (v := 3) rfl
  have b3 : inb (nI (6 * k + 3)) scr.length = true := by rw [inb_nI (by omega)]; exact decide_eq_true (by omega)
  have c3 : (nI (6 * k + 3)).toNatClampNeg = 6 * k + 3 := nI_clamp (by omega)
  simp only [w0_1377, w0_1378, w0_1379, w0_1381, w0_1382, w0_1383, w0_1384, w0_1385, w0_1387, w0_1388, w0_1389, w0_1390, w0_1391, w0_1393, w0_1394, w0_1395, w0_1396, w0_1399, w0_1400, w0_1401, w0_1403, w0_1404, w0_1405, w0_1406, w0_1407, w0_1409, w0_1410, w0_1411, w0_1412, w0_1413, w0_1415, w0_1416, w0_1417, w0_1418, w0_1421, w0_1424, w0_1425, oK_some, cont_int, cont_intS, cont_none, cont_noneS, cont_long, cont_longS, true_and, and_true, false_and, and_false, true_implies, false_implies, not_true_eq_false, not_false_eq_true, eq_self, or_true, true_or, Option.isSome_some, hpf_length, hpa_length, bI_eq0, fi_hpa, fl_hpa, ar_hpf, fi_hpf_ne, fl_hpf_ne, ar_hpa_ne, hpa_hpa, hpf_hpf, nI_1, two_ne, fokZ, implies_true, Nat.reduceEqDiff, rc_0, rc_68, hS, q1, b1, c1, q2, b2, c2, q3, b3, c3]
  refine C_graftWhen hI.1 (fun H1 hF1 e1 => ?_)
  have s1 := hF1.shp
  simp only [w0_1377, w0_1378, w0_1379, w0_1381, w0_1382, w0_1383, w0_1384, w0_1385, w0_1387, w0_1388, w0_1389, w0_1390, w0_1391, w0_1393, w0_1394, w0_1395, w0_1396, w0_1399, w0_1400, w0_1401, w0_1403, w0_1404, w0_1405, w0_1406, w0_1407, w0_1409, w0_1410, w0_1411, w0_1412, w0_1413, w0_1415, w0_1416, w0_1417, w0_1418, w0_1421, w0_1424, w0_1425, oK_some, cont_int, cont_intS, cont_none, cont_noneS, cont_long, cont_longS, true_and, and_true, false_and, and_false, true_implies, false_implies, not_true_eq_false, not_false_eq_true, eq_self, or_true, true_or, Option.isSome_some, hpf_length, hpa_length, bI_eq0, fi_hpa, fl_hpa, ar_hpf, fi_hpf_ne, fl_hpf_ne, ar_hpa_ne, hpa_hpa, hpf_hpf, nI_1, two_ne, fokZ, implies_true, Nat.reduceEqDiff, rc_0, rc_68, hF1.len, s1, q1, b1, c1, q2, b2, c2, q3, b3, c3]
  refine M_graftWhen (hI.2.1.of hF1 (by decide) (by decide) (by decide) (by decide)) (fun H2 hF2 e0 e2 => ?_)
  have s2 := hF2.shp
  simp only [w0_1377, w0_1378, w0_1379, w0_1381, w0_1382, w0_1383, w0_1384, w0_1385, w0_1387, w0_1388, w0_1389, w0_1390, w0_1391, w0_1393, w0_1394, w0_1395, w0_1396, w0_1399, w0_1400, w0_1401, w0_1403, w0_1404, w0_1405, w0_1406, w0_1407, w0_1409, w0_1410, w0_1411, w0_1412, w0_1413, w0_1415, w0_1416, w0_1417, w0_1418, w0_1421, w0_1424, w0_1425, oK_some, cont_int, cont_intS, cont_none, cont_noneS, cont_long, cont_longS, true_and, and_true, false_and, and_false, true_implies, false_implies, not_true_eq_false, not_false_eq_true, eq_self, or_true, true_or, Option.isSome_some, hpf_length, hpa_length, bI_eq0, fi_hpa, fl_hpa, ar_hpf, fi_hpf_ne, fl_hpf_ne, ar_hpa_ne, hpa_hpa, hpf_hpf, nI_1, two_ne, fokZ, implies_true, Nat.reduceEqDiff, rc_0, rc_68, hF2.len, s2]
  exact hn H2 ⟨R, st, Us, Ks, n, nS, nW, nG, nU, nN, tp, inv_q hI hF1 e1 hF2 e2 (gwF_4 _ _ _)⟩ (by rw [hF2.len, hF1.len]; exact Nat.le_succ _) _ _ h5 h6
theorem law_37 (hI : Ivv H R st Us Ks n nS nW nG nU nN tp) (hk : 6 * k + 6 ≤ scr.length) (hL : scr.length ≤ 3072) (h5 : Oi o5) (h6 : Oi o6) (hn : ∀ H', INV H' → H'.length ≤ H.length + 1 → ∀ o5 o6 : Option Value, Oi o5 → Oi o6 → Wp scr (d + 17) 0 1690 [some (.retAddr 1000), some (.ref 0), some (.ref 68), some (.ref 83), some (.int (nI (6 * k))), o5, o6] [] H' Q) : Wp scr (d + 17) 0 1117 [some (.retAddr 1000), some (.ref 0), some (.ref 68), some (.ref 83), some (.int (nI (6 * k))), o5, o6] [] H Q := by
  have hS := hI.1.shp
  obtain ⟨hVg, hVf, hVd, ⟨hl, hl1, ehl⟩, ⟨hFb, ⟨sh, hsh, esh⟩, ⟨up, hup, eup⟩, ⟨g, hg9, eg⟩⟩, hbU, hbK, hz0⟩ := hI.2.2.2.2.2.2.2.2.2
  have hgb : Gb st := ⟨g, by omega, eg⟩
  have b5' : nG ≤ 6 := hI.2.1.mn.2.2.2.2.2.2.2.2.2.1
  have h64 : sh < 64 := Nat.lt_of_lt_of_le hsh (Nat.pow_le_pow_right (by decide) b5')
  have hzG : n = 0 → nG = 0 := fun z => (hz0 z).1
  have hzW : n = 0 → nW = 0 := fun z => (hz0 z).2.1
  have q1 : nI (6 * k) + 1 = nI (6 * k + 1) := ixa (6 * k) 1 (v := 1) rfl
  have b1 : inb (nI (6 * k + 1)) scr.length = true := by rw [inb_nI (by omega)]; exact decide_eq_true (by omega)
  have c1 : (nI (6 * k + 1)).toNatClampNeg = 6 * k + 1 := nI_clamp (by omega)
  have q2 : nI (6 * k) + 2 = nI (6 * k + 2) := ixa (6 * k) 2 (v := 2) rfl
  have b2 : inb (nI (6 * k + 2)) scr.length = true := by rw [inb_nI (by omega)]; exact decide_eq_true (by omega)
  have c2 : (nI (6 * k + 2)).toNatClampNeg = 6 * k + 2 := nI_clamp (by omega)
  have lgz : ∀ x : Int64, lg_cmp x x = 0 := fun x => by unfold lg_cmp; simp
  by_cases hb : scr.getD (6 * k + 2) 0 = 0
  · simp only [w0_1117, w0_1118, w0_1119, w0_1121, w0_1122, w0_1123, w0_1124, w0_1125, w0_1127, w0_1128, w0_1129, w0_1130, w0_1133, w0_1134, w0_1137, w0_1138, w0_1141, w0_1142, w0_1143, w0_1145, w0_1146, w0_1147, w0_1148, w0_1149, w0_1151, w0_1152, w0_1153, w0_1154, w0_1157, w0_1158, w0_1161, w0_1162, w0_1165, w0_1166, w0_1169, w0_1170, oK_some, cont_int, cont_intS, cont_none, cont_noneS, cont_long, cont_longS, true_and, and_true, false_and, and_false, true_implies, false_implies, not_true_eq_false, not_false_eq_true, eq_self, or_true, true_or, Option.isSome_some, hpf_length, hpa_length, bI_eq0, fi_hpa, fl_hpa, ar_hpf, fi_hpf_ne, fl_hpf_ne, ar_hpa_ne, hpa_hpa, hpf_hpf, nI_1, two_ne, fokZ, implies_true, Nat.reduceEqDiff, rc_0, rc_68, hS, q1, b1, c1, q2, b2, c2, hb]
    refine C_mean (lw := false) hI.1 ehl hl1 (fun H1 hF1 e1 => ?_)
    have s1 := hF1.shp
    simp only [w0_1117, w0_1118, w0_1119, w0_1121, w0_1122, w0_1123, w0_1124, w0_1125, w0_1127, w0_1128, w0_1129, w0_1130, w0_1133, w0_1134, w0_1137, w0_1138, w0_1141, w0_1142, w0_1143, w0_1145, w0_1146, w0_1147, w0_1148, w0_1149, w0_1151, w0_1152, w0_1153, w0_1154, w0_1157, w0_1158, w0_1161, w0_1162, w0_1165, w0_1166, w0_1169, w0_1170, oK_some, cont_int, cont_intS, cont_none, cont_noneS, cont_long, cont_longS, true_and, and_true, false_and, and_false, true_implies, false_implies, not_true_eq_false, not_false_eq_true, eq_self, or_true, true_or, Option.isSome_some, hpf_length, hpa_length, bI_eq0, fi_hpa, fl_hpa, ar_hpf, fi_hpf_ne, fl_hpf_ne, ar_hpa_ne, hpa_hpa, hpf_hpf, nI_1, two_ne, fokZ, implies_true, Nat.reduceEqDiff, rc_0, rc_68, hF1.len, s1, q1, b1, c1, q2, b2, c2, hb]
    refine M_mean (lw := false) (hI.2.1.of hF1 (by decide) (by decide) (by decide) (by decide)) ehl hl1 (fun H2 hF2 e0 e2 => ?_)
    have s2 := hF2.shp
    simp only [w0_1117, w0_1118, w0_1119, w0_1121, w0_1122, w0_1123, w0_1124, w0_1125, w0_1127, w0_1128, w0_1129, w0_1130, w0_1133, w0_1134, w0_1137, w0_1138, w0_1141, w0_1142, w0_1143, w0_1145, w0_1146, w0_1147, w0_1148, w0_1149, w0_1151, w0_1152, w0_1153, w0_1154, w0_1157, w0_1158, w0_1161, w0_1162, w0_1165, w0_1166, w0_1169, w0_1170, oK_some, cont_int, cont_intS, cont_none, cont_noneS, cont_long, cont_longS, true_and, and_true, false_and, and_false, true_implies, false_implies, not_true_eq_false, not_false_eq_true, eq_self, or_true, true_or, Option.isSome_some, hpf_length, hpa_length, bI_eq0, fi_hpa, fl_hpa, ar_hpf, fi_hpf_ne, fl_hpf_ne, ar_hpa_ne, hpa_hpa, hpf_hpf, nI_1, two_ne, fokZ, implies_true, Nat.reduceEqDiff, rc_0, rc_68, hF2.len, s2, lgz]
    exact hn H2 ⟨R, st, Us, Ks, n, nS, nW, nG, nU, nN, tp, inv_q hI hF1 e1 hF2 e2 (whyF_4 _ _ _)⟩ (by rw [hF2.len, hF1.len]; exact Nat.le_succ _) _ _ h5 h6
  · simp only [w0_1117, w0_1118, w0_1119, w0_1121, w0_1122, w0_1123, w0_1124, w0_1125, w0_1127, w0_1128, w0_1129, w0_1130, w0_1133, w0_1134, w0_1137, w0_1138, w0_1141, w0_1142, w0_1143, w0_1145, w0_1146, w0_1147, w0_1148, w0_1149, w0_1151, w0_1152, w0_1153, w0_1154, w0_1157, w0_1158, w0_1161, w0_1162, w0_1165, w0_1166, w0_1169, w0_1170, oK_some, cont_int, cont_intS, cont_none, cont_noneS, cont_long, cont_longS, true_and, and_true, false_and, and_false, true_implies, false_implies, not_true_eq_false, not_false_eq_true, eq_self, or_true, true_or, Option.isSome_some, hpf_length, hpa_length, bI_eq0, fi_hpa, fl_hpa, ar_hpf, fi_hpf_ne, fl_hpf_ne, ar_hpa_ne, hpa_hpa, hpf_hpf, nI_1, two_ne, fokZ, implies_true, Nat.reduceEqDiff, rc_0, rc_68, hS, q1, b1, c1, q2, b2, c2, hb]
    refine C_mean (lw := true) hI.1 ehl hl1 (fun H1 hF1 e1 => ?_)
    have s1 := hF1.shp
    simp only [w0_1117, w0_1118, w0_1119, w0_1121, w0_1122, w0_1123, w0_1124, w0_1125, w0_1127, w0_1128, w0_1129, w0_1130, w0_1133, w0_1134, w0_1137, w0_1138, w0_1141, w0_1142, w0_1143, w0_1145, w0_1146, w0_1147, w0_1148, w0_1149, w0_1151, w0_1152, w0_1153, w0_1154, w0_1157, w0_1158, w0_1161, w0_1162, w0_1165, w0_1166, w0_1169, w0_1170, oK_some, cont_int, cont_intS, cont_none, cont_noneS, cont_long, cont_longS, true_and, and_true, false_and, and_false, true_implies, false_implies, not_true_eq_false, not_false_eq_true, eq_self, or_true, true_or, Option.isSome_some, hpf_length, hpa_length, bI_eq0, fi_hpa, fl_hpa, ar_hpf, fi_hpf_ne, fl_hpf_ne, ar_hpa_ne, hpa_hpa, hpf_hpf, nI_1, two_ne, fokZ, implies_true, Nat.reduceEqDiff, rc_0, rc_68, hF1.len, s1, q1, b1, c1, q2, b2, c2, hb]
    refine M_mean (lw := true) (hI.2.1.of hF1 (by decide) (by decide) (by decide) (by decide)) ehl hl1 (fun H2 hF2 e0 e2 => ?_)
    have s2 := hF2.shp
    simp only [w0_1117, w0_1118, w0_1119, w0_1121, w0_1122, w0_1123, w0_1124, w0_1125, w0_1127, w0_1128, w0_1129, w0_1130, w0_1133, w0_1134, w0_1137, w0_1138, w0_1141, w0_1142, w0_1143, w0_1145, w0_1146, w0_1147, w0_1148, w0_1149, w0_1151, w0_1152, w0_1153, w0_1154, w0_1157, w0_1158, w0_1161, w0_1162, w0_1165, w0_1166, w0_1169, w0_1170, oK_some, cont_int, cont_intS, cont_none, cont_noneS, cont_long, cont_longS, true_and, and_true, false_and, and_false, true_implies, false_implies, not_true_eq_false, not_false_eq_true, eq_self, or_true, true_or, Option.isSome_some, hpf_length, hpa_length, bI_eq0, fi_hpa, fl_hpa, ar_hpf, fi_hpf_ne, fl_hpf_ne, ar_hpa_ne, hpa_hpa, hpf_hpf, nI_1, two_ne, fokZ, implies_true, Nat.reduceEqDiff, rc_0, rc_68, hF2.len, s2, lgz]
    exact hn H2 ⟨R, st, Us, Ks, n, nS, nW, nG, nU, nN, tp, inv_q hI hF1 e1 hF2 e2 (whyF_4 _ _ _)⟩ (by rw [hF2.len, hF1.len]; exact Nat.le_succ _) _ _ h5 h6
theorem law_38 (hI : Ivv H R st Us Ks n nS nW nG nU nN tp) (hk : 6 * k + 6 ≤ scr.length) (hL : scr.length ≤ 3072) (h5 : Oi o5) (h6 : Oi o6) (hn : ∀ H', INV H' → H'.length ≤ H.length + 1 → ∀ o5 o6 : Option Value, Oi o5 → Oi o6 → Wp scr (d + 17) 0 1690 [some (.retAddr 1000), some (.ref 0), some (.ref 68), some (.ref 83), some (.int (nI (6 * k))), o5, o6] [] H' Q) : Wp scr (d + 17) 0 1171 [some (.retAddr 1000), some (.ref 0), some (.ref 68), some (.ref 83), some (.int (nI (6 * k))), o5, o6] [] H Q := by
  have hS := hI.1.shp
  obtain ⟨hVg, hVf, hVd, ⟨hl, hl1, ehl⟩, ⟨hFb, ⟨sh, hsh, esh⟩, ⟨up, hup, eup⟩, ⟨g, hg9, eg⟩⟩, hbU, hbK, hz0⟩ := hI.2.2.2.2.2.2.2.2.2
  have hgb : Gb st := ⟨g, by omega, eg⟩
  have b5' : nG ≤ 6 := hI.2.1.mn.2.2.2.2.2.2.2.2.2.1
  have h64 : sh < 64 := Nat.lt_of_lt_of_le hsh (Nat.pow_le_pow_right (by decide) b5')
  have hzG : n = 0 → nG = 0 := fun z => (hz0 z).1
  have hzW : n = 0 → nW = 0 := fun z => (hz0 z).2.1
  have q1 : nI (6 * k) + 1 = nI (6 * k + 1) := ixa (6 * k) 1 (v := 1) rfl
  have b1 : inb (nI (6 * k + 1)) scr.length = true := by rw [inb_nI (by omega)]; exact decide_eq_true (by omega)
  have c1 : (nI (6 * k + 1)).toNatClampNeg = 6 * k + 1 := nI_clamp (by omega)
  have q2 : nI (6 * k) + 2 = nI (6 * k + 2) := ixa (6 * k) 2 (v := 2) rfl
  have b2 : inb (nI (6 * k + 2)) scr.length = true := by rw [inb_nI (by omega)]; exact decide_eq_true (by omega)
  have c2 : (nI (6 * k + 2)).toNatClampNeg = 6 * k + 2 := nI_clamp (by omega)
  have lgz : ∀ x : Int64, lg_cmp x x = 0 := fun x => by unfold lg_cmp; simp
  by_cases hb : scr.getD (6 * k + 2) 0 = 0
  · simp only [w0_1171, w0_1172, w0_1173, w0_1175, w0_1176, w0_1177, w0_1178, w0_1179, w0_1181, w0_1182, w0_1183, w0_1184, w0_1187, w0_1188, w0_1191, w0_1192, w0_1195, w0_1196, w0_1197, w0_1199, w0_1200, w0_1201, w0_1202, w0_1203, w0_1205, w0_1206, w0_1207, w0_1208, w0_1211, w0_1212, w0_1215, w0_1216, w0_1219, w0_1220, w0_1223, w0_1224, oK_some, cont_int, cont_intS, cont_none, cont_noneS, cont_long, cont_longS, true_and, and_true, false_and, and_false, true_implies, false_implies, not_true_eq_false, not_false_eq_true, eq_self, or_true, true_or, Option.isSome_some, hpf_length, hpa_length, bI_eq0, fi_hpa, fl_hpa, ar_hpf, fi_hpf_ne, fl_hpf_ne, ar_hpa_ne, hpa_hpa, hpf_hpf, nI_1, two_ne, fokZ, implies_true, Nat.reduceEqDiff, rc_0, rc_68, hS, q1, b1, c1, q2, b2, c2, hb]
    refine C_all (lw := false) hI.1 ehl hl1 (fun H1 hF1 e1 => ?_)
    have s1 := hF1.shp
    simp only [w0_1171, w0_1172, w0_1173, w0_1175, w0_1176, w0_1177, w0_1178, w0_1179, w0_1181, w0_1182, w0_1183, w0_1184, w0_1187, w0_1188, w0_1191, w0_1192, w0_1195, w0_1196, w0_1197, w0_1199, w0_1200, w0_1201, w0_1202, w0_1203, w0_1205, w0_1206, w0_1207, w0_1208, w0_1211, w0_1212, w0_1215, w0_1216, w0_1219, w0_1220, w0_1223, w0_1224, oK_some, cont_int, cont_intS, cont_none, cont_noneS, cont_long, cont_longS, true_and, and_true, false_and, and_false, true_implies, false_implies, not_true_eq_false, not_false_eq_true, eq_self, or_true, true_or, Option.isSome_some, hpf_length, hpa_length, bI_eq0, fi_hpa, fl_hpa, ar_hpf, fi_hpf_ne, fl_hpf_ne, ar_hpa_ne, hpa_hpa, hpf_hpf, nI_1, two_ne, fokZ, implies_true, Nat.reduceEqDiff, rc_0, rc_68, hF1.len, s1, q1, b1, c1, q2, b2, c2, hb]
    refine M_all (lw := false) (hI.2.1.of hF1 (by decide) (by decide) (by decide) (by decide)) ehl hl1 (fun H2 hF2 e0 e2 => ?_)
    have s2 := hF2.shp
    simp only [w0_1171, w0_1172, w0_1173, w0_1175, w0_1176, w0_1177, w0_1178, w0_1179, w0_1181, w0_1182, w0_1183, w0_1184, w0_1187, w0_1188, w0_1191, w0_1192, w0_1195, w0_1196, w0_1197, w0_1199, w0_1200, w0_1201, w0_1202, w0_1203, w0_1205, w0_1206, w0_1207, w0_1208, w0_1211, w0_1212, w0_1215, w0_1216, w0_1219, w0_1220, w0_1223, w0_1224, oK_some, cont_int, cont_intS, cont_none, cont_noneS, cont_long, cont_longS, true_and, and_true, false_and, and_false, true_implies, false_implies, not_true_eq_false, not_false_eq_true, eq_self, or_true, true_or, Option.isSome_some, hpf_length, hpa_length, bI_eq0, fi_hpa, fl_hpa, ar_hpf, fi_hpf_ne, fl_hpf_ne, ar_hpa_ne, hpa_hpa, hpf_hpf, nI_1, two_ne, fokZ, implies_true, Nat.reduceEqDiff, rc_0, rc_68, hF2.len, s2, lgz]
    exact hn H2 ⟨R, st, Us, Ks, n, nS, nW, nG, nU, nN, tp, inv_q hI hF1 e1 hF2 e2 (whyF_4 _ _ _)⟩ (by rw [hF2.len, hF1.len]; exact Nat.le_succ _) _ _ h5 h6
  · simp only [w0_1171, w0_1172, w0_1173, w0_1175, w0_1176, w0_1177, w0_1178, w0_1179, w0_1181, w0_1182, w0_1183, w0_1184, w0_1187, w0_1188, w0_1191, w0_1192, w0_1195, w0_1196, w0_1197, w0_1199, w0_1200, w0_1201, w0_1202, w0_1203, w0_1205, w0_1206, w0_1207, w0_1208, w0_1211, w0_1212, w0_1215, w0_1216, w0_1219, w0_1220, w0_1223, w0_1224, oK_some, cont_int, cont_intS, cont_none, cont_noneS, cont_long, cont_longS, true_and, and_true, false_and, and_false, true_implies, false_implies, not_true_eq_false, not_false_eq_true, eq_self, or_true, true_or, Option.isSome_some, hpf_length, hpa_length, bI_eq0, fi_hpa, fl_hpa, ar_hpf, fi_hpf_ne, fl_hpf_ne, ar_hpa_ne, hpa_hpa, hpf_hpf, nI_1, two_ne, fokZ, implies_true, Nat.reduceEqDiff, rc_0, rc_68, hS, q1, b1, c1, q2, b2, c2, hb]
    refine C_all (lw := true) hI.1 ehl hl1 (fun H1 hF1 e1 => ?_)
    have s1 := hF1.shp
    simp only [w0_1171, w0_1172, w0_1173, w0_1175, w0_1176, w0_1177, w0_1178, w0_1179, w0_1181, w0_1182, w0_1183, w0_1184, w0_1187, w0_1188, w0_1191, w0_1192, w0_1195, w0_1196, w0_1197, w0_1199, w0_1200, w0_1201, w0_1202, w0_1203, w0_1205, w0_1206, w0_1207, w0_1208, w0_1211, w0_1212, w0_1215, w0_1216, w0_1219, w0_1220, w0_1223, w0_1224, oK_some, cont_int, cont_intS, cont_none, cont_noneS, cont_long, cont_longS, true_and, and_true, false_and, and_false, true_implies, false_implies, not_true_eq_false, not_false_eq_true, eq_self, or_true, true_or, Option.isSome_some, hpf_length, hpa_length, bI_eq0, fi_hpa, fl_hpa, ar_hpf, fi_hpf_ne, fl_hpf_ne, ar_hpa_ne, hpa_hpa, hpf_hpf, nI_1, two_ne, fokZ, implies_true, Nat.reduceEqDiff, rc_0, rc_68, hF1.len, s1, q1, b1, c1, q2, b2, c2, hb]
    refine M_all (lw := true) (hI.2.1.of hF1 (by decide) (by decide) (by decide) (by decide)) ehl hl1 (fun H2 hF2 e0 e2 => ?_)
    have s2 := hF2.shp
    simp only [w0_1171, w0_1172, w0_1173, w0_1175, w0_1176, w0_1177, w0_1178, w0_1179, w0_1181, w0_1182, w0_1183, w0_1184, w0_1187, w0_1188, w0_1191, w0_1192, w0_1195, w0_1196, w0_1197, w0_1199, w0_1200, w0_1201, w0_1202, w0_1203, w0_1205, w0_1206, w0_1207, w0_1208, w0_1211, w0_1212, w0_1215, w0_1216, w0_1219, w0_1220, w0_1223, w0_1224, oK_some, cont_int, cont_intS, cont_none, cont_noneS, cont_long, cont_longS, true_and, and_true, false_and, and_false, true_implies, false_implies, not_true_eq_false, not_false_eq_true, eq_self, or_true, true_or, Option.isSome_some, hpf_length, hpa_length, bI_eq0, fi_hpa, fl_hpa, ar_hpf, fi_hpf_ne, fl_hpf_ne, ar_hpa_ne, hpa_hpa, hpf_hpf, nI_1, two_ne, fokZ, implies_true, Nat.reduceEqDiff, rc_0, rc_68, hF2.len, s2, lgz]
    exact hn H2 ⟨R, st, Us, Ks, n, nS, nW, nG, nU, nN, tp, inv_q hI hF1 e1 hF2 e2 (whyF_4 _ _ _)⟩ (by rw [hF2.len, hF1.len]; exact Nat.le_succ _) _ _ h5 h6
theorem law_39 (hI : Ivv H R st Us Ks n nS nW nG nU nN tp) (hk : 6 * k + 6 ≤ scr.length) (hL : scr.length ≤ 3072) (h5 : Oi o5) (h6 : Oi o6) (hn : ∀ H', INV H' → H'.length ≤ H.length + 1 → ∀ o5 o6 : Option Value, Oi o5 → Oi o6 → Wp scr (d + 17) 0 1690 [some (.retAddr 1000), some (.ref 0), some (.ref 68), some (.ref 83), some (.int (nI (6 * k))), o5, o6] [] H' Q) : Wp scr (d + 17) 0 1225 [some (.retAddr 1000), some (.ref 0), some (.ref 68), some (.ref 83), some (.int (nI (6 * k))), o5, o6] [] H Q := by
  have hS := hI.1.shp
  obtain ⟨hVg, hVf, hVd, ⟨hl, hl1, ehl⟩, ⟨hFb, ⟨sh, hsh, esh⟩, ⟨up, hup, eup⟩, ⟨g, hg9, eg⟩⟩, hbU, hbK, hz0⟩ := hI.2.2.2.2.2.2.2.2.2
  have hgb : Gb st := ⟨g, by omega, eg⟩
  have b5' : nG ≤ 6 := hI.2.1.mn.2.2.2.2.2.2.2.2.2.1
  have h64 : sh < 64 := Nat.lt_of_lt_of_le hsh (Nat.pow_le_pow_right (by decide) b5')
  have hzG : n = 0 → nG = 0 := fun z => (hz0 z).1
  have hzW : n = 0 → nW = 0 := fun z => (hz0 z).2.1
  have q1 : nI (6 * k) + 1 = nI (6 * k + 1) := ixa (6 * k) 1 (v := 1) rfl
  have b1 : inb (nI (6 * k + 1)) scr.length = true := by rw [inb_nI (by omega)]; exact decide_eq_true (by omega)
  have c1 : (nI (6 * k + 1)).toNatClampNeg = 6 * k + 1 := nI_clamp (by omega)
  have q2 : nI (6 * k) + 2 = nI (6 * k + 2) := ixa (6 * k) 2 (v := 2) rfl
  have b2 : inb (nI (6 * k + 2)) scr.length = true := by rw [inb_nI (by omega)]; exact decide_eq_true (by omega)
  have c2 : (nI (6 * k + 2)).toNatClampNeg = 6 * k + 2 := nI_clamp (by omega)
  have q3 : nI (6 * k) + 3 = nI (6 * k + 3) := ixa (6 * k) 3 (v := 3) rfl
  have b3 : inb (nI (6 * k + 3)) scr.length = true := by rw [inb_nI (by omega)]; exact decide_eq_true (by omega)
  have c3 : (nI (6 * k + 3)).toNatClampNeg = 6 * k + 3 := nI_clamp (by omega)
  have lgz : ∀ x : Int64, lg_cmp x x = 0 := fun x => by unfold lg_cmp; simp
  by_cases hb : scr.getD (6 * k + 3) 0 = 0
  · simp only [w0_1225, w0_1226, w0_1227, w0_1229, w0_1230, w0_1231, w0_1232, w0_1233, w0_1235, w0_1236, w0_1237, w0_1238, w0_1239, w0_1241, w0_1242, w0_1243, w0_1244, w0_1247, w0_1248, w0_1251, w0_1252, w0_1255, w0_1256, w0_1257, w0_1259, w0_1260, w0_1261, w0_1262, w0_1263, w0_1265, w0_1266, w0_1267, w0_1268, w0_1269, w0_1271, w0_1272, w0_1273, w0_1274, w0_1277, w0_1278, w0_1281, w0_1282, w0_1285, w0_1286, w0_1289, w0_1290, oK_some, cont_int, cont_intS, cont_none, cont_noneS, cont_long, cont_longS, true_and, and_true, false_and, and_false, true_implies, false_implies, not_true_eq_false, not_false_eq_true, eq_self, or_true, true_or, Option.isSome_some, hpf_length, hpa_length, bI_eq0, fi_hpa, fl_hpa, ar_hpf, fi_hpf_ne, fl_hpf_ne, ar_hpa_ne, hpa_hpa, hpf_hpf, nI_1, two_ne, fokZ, implies_true, Nat.reduceEqDiff, rc_0, rc_68, hS, q1, b1, c1, q2, b2, c2, q3, b3, c3, hb]
    refine C_doubt (lw := false) hI.1 ehl hl1 (fun H1 hF1 e1 => ?_)
    have s1 := hF1.shp
    simp only [w0_1225, w0_1226, w0_1227, w0_1229, w0_1230, w0_1231, w0_1232, w0_1233, w0_1235, w0_1236, w0_1237, w0_1238, w0_1239, w0_1241, w0_1242, w0_1243, w0_1244, w0_1247, w0_1248, w0_1251, w0_1252, w0_1255, w0_1256, w0_1257, w0_1259, w0_1260, w0_1261, w0_1262, w0_1263, w0_1265, w0_1266, w0_1267, w0_1268, w0_1269, w0_1271, w0_1272, w0_1273, w0_1274, w0_1277, w0_1278, w0_1281, w0_1282, w0_1285, w0_1286, w0_1289, w0_1290, oK_some, cont_int, cont_intS, cont_none, cont_noneS, cont_long, cont_longS, true_and, and_true, false_and, and_false, true_implies, false_implies, not_true_eq_false, not_false_eq_true, eq_self, or_true, true_or, Option.isSome_some, hpf_length, hpa_length, bI_eq0, fi_hpa, fl_hpa, ar_hpf, fi_hpf_ne, fl_hpf_ne, ar_hpa_ne, hpa_hpa, hpf_hpf, nI_1, two_ne, fokZ, implies_true, Nat.reduceEqDiff, rc_0, rc_68, hF1.len, s1, q1, b1, c1, q2, b2, c2, q3, b3, c3, hb]
    refine M_doubt (lw := false) (hI.2.1.of hF1 (by decide) (by decide) (by decide) (by decide)) ehl hl1 (fun H2 hF2 e0 e2 => ?_)
    have s2 := hF2.shp
    simp only [w0_1225, w0_1226, w0_1227, w0_1229, w0_1230, w0_1231, w0_1232, w0_1233, w0_1235, w0_1236, w0_1237, w0_1238, w0_1239, w0_1241, w0_1242, w0_1243, w0_1244, w0_1247, w0_1248, w0_1251, w0_1252, w0_1255, w0_1256, w0_1257, w0_1259, w0_1260, w0_1261, w0_1262, w0_1263, w0_1265, w0_1266, w0_1267, w0_1268, w0_1269, w0_1271, w0_1272, w0_1273, w0_1274, w0_1277, w0_1278, w0_1281, w0_1282, w0_1285, w0_1286, w0_1289, w0_1290, oK_some, cont_int, cont_intS, cont_none, cont_noneS, cont_long, cont_longS, true_and, and_true, false_and, and_false, true_implies, false_implies, not_true_eq_false, not_false_eq_true, eq_self, or_true, true_or, Option.isSome_some, hpf_length, hpa_length, bI_eq0, fi_hpa, fl_hpa, ar_hpf, fi_hpf_ne, fl_hpf_ne, ar_hpa_ne, hpa_hpa, hpf_hpf, nI_1, two_ne, fokZ, implies_true, Nat.reduceEqDiff, rc_0, rc_68, hF2.len, s2, lgz]
    exact hn H2 ⟨R, st, Us, Ks, n, nS, nW, nG, nU, nN, tp, inv_q hI hF1 e1 hF2 e2 (whyF_4 _ _ _)⟩ (by rw [hF2.len, hF1.len]; exact Nat.le_succ _) _ _ h5 h6
  · simp only [w0_1225, w0_1226, w0_1227, w0_1229, w0_1230, w0_1231, w0_1232, w0_1233, w0_1235, w0_1236, w0_1237, w0_1238, w0_1239, w0_1241, w0_1242, w0_1243, w0_1244, w0_1247, w0_1248, w0_1251, w0_1252, w0_1255, w0_1256, w0_1257, w0_1259, w0_1260, w0_1261, w0_1262, w0_1263, w0_1265, w0_1266, w0_1267, w0_1268, w0_1269, w0_1271, w0_1272, w0_1273, w0_1274, w0_1277, w0_1278, w0_1281, w0_1282, w0_1285, w0_1286, w0_1289, w0_1290, oK_some, cont_int, cont_intS, cont_none, cont_noneS, cont_long, cont_longS, true_and, and_true, false_and, and_false, true_implies, false_implies, not_true_eq_false, not_false_eq_true, eq_self, or_true, true_or, Option.isSome_some, hpf_length, hpa_length, bI_eq0, fi_hpa, fl_hpa, ar_hpf, fi_hpf_ne, fl_hpf_ne, ar_hpa_ne, hpa_hpa, hpf_hpf, nI_1, two_ne, fokZ, implies_true, Nat.reduceEqDiff, rc_0, rc_68, hS, q1, b1, c1, q2, b2, c2, q3, b3, c3, hb]
    refine C_doubt (lw := true) hI.1 ehl hl1 (fun H1 hF1 e1 => ?_)
    have s1 := hF1.shp
    simp only [w0_1225, w0_1226, w0_1227, w0_1229, w0_1230, w0_1231, w0_1232, w0_1233, w0_1235, w0_1236, w0_1237, w0_1238, w0_1239, w0_1241, w0_1242, w0_1243, w0_1244, w0_1247, w0_1248, w0_1251, w0_1252, w0_1255, w0_1256, w0_1257, w0_1259, w0_1260, w0_1261, w0_1262, w0_1263, w0_1265, w0_1266, w0_1267, w0_1268, w0_1269, w0_1271, w0_1272, w0_1273, w0_1274, w0_1277, w0_1278, w0_1281, w0_1282, w0_1285, w0_1286, w0_1289, w0_1290, oK_some, cont_int, cont_intS, cont_none, cont_noneS, cont_long, cont_longS, true_and, and_true, false_and, and_false, true_implies, false_implies, not_true_eq_false, not_false_eq_true, eq_self, or_true, true_or, Option.isSome_some, hpf_length, hpa_length, bI_eq0, fi_hpa, fl_hpa, ar_hpf, fi_hpf_ne, fl_hpf_ne, ar_hpa_ne, hpa_hpa, hpf_hpf, nI_1, two_ne, fokZ, implies_true, Nat.reduceEqDiff, rc_0, rc_68, hF1.len, s1, q1, b1, c1, q2, b2, c2, q3, b3, c3, hb]
    refine M_doubt (lw := true) (hI.2.1.of hF1 (by decide) (by decide) (by decide) (by decide)) ehl hl1 (fun H2 hF2 e0 e2 => ?_)
    have s2 := hF2.shp
    simp only [w0_1225, w0_1226, w0_1227, w0_1229, w0_1230, w0_1231, w0_1232, w0_1233, w0_1235, w0_1236, w0_1237, w0_1238, w0_1239, w0_1241, w0_1242, w0_1243, w0_1244, w0_1247, w0_1248, w0_1251, w0_1252, w0_1255, w0_1256, w0_1257, w0_1259, w0_1260, w0_1261, w0_1262, w0_1263, w0_1265, w0_1266, w0_1267, w0_1268, w0_1269, w0_1271, w0_1272, w0_1273, w0_1274, w0_1277, w0_1278, w0_1281, w0_1282, w0_1285, w0_1286, w0_1289, w0_1290, oK_some, cont_int, cont_intS, cont_none, cont_noneS, cont_long, cont_longS, true_and, and_true, false_and, and_false, true_implies, false_implies, not_true_eq_false, not_false_eq_true, eq_self, or_true, true_or, Option.isSome_some, hpf_length, hpa_length, bI_eq0, fi_hpa, fl_hpa, ar_hpf, fi_hpf_ne, fl_hpf_ne, ar_hpa_ne, hpa_hpa, hpf_hpf, nI_1, two_ne, fokZ, implies_true, Nat.reduceEqDiff, rc_0, rc_68, hF2.len, s2, lgz]
    exact hn H2 ⟨R, st, Us, Ks, n, nS, nW, nG, nU, nN, tp, inv_q hI hF1 e1 hF2 e2 (whyF_4 _ _ _)⟩ (by rw [hF2.len, hF1.len]; exact Nat.le_succ _) _ _ h5 h6
end LAW2
