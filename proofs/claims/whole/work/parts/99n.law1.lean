/-! ===== the law: questions ===== -/
def Oi (o : Option Value) : Prop := o = none ∨ ∃ x, o = some (.int x)
theorem whyF_4 (b : Bool) (m k : Int32) : ¬ whyF b m k = 4 := by unfold whyF; split; decide; split <;> decide
theorem gwF_4 (b : Bool) (m k : Int32) : ¬ gwF b m k = 4 := by unfold gwF; split; decide; split <;> decide
section LAW1
variable {scr : List Int32} {d k n nS nW nG nU nN tp : Nat} {o5 o6 : Option Value} {H : List AC} {R st : List Int32} {Us Ks : List (List Int32)} {Q : Option Value → List AC → Prop}
theorem law_7 (hI : Ivv H R st Us Ks n nS nW nG nU nN tp) (hk : 6 * k + 6 ≤ scr.length) (hL : scr.length ≤ 3072) (h5 : Oi o5) (h6 : Oi o6) (hn : ∀ H', INV H' → H'.length ≤ H.length + 1 → ∀ o5 o6 : Option Value, Oi o5 → Oi o6 → Wp scr (d + 17) 0 1690 [some (.retAddr 1000), some (.ref 0), some (.ref 68), some (.ref 83), some (.int (nI (6 * k))), o5, o6] [] H' Q) : Wp scr (d + 17) 0 499 [some (.retAddr 1000), some (.ref 0), some (.ref 68), some (.ref 83), some (.int (nI (6 * k))), o5, o6] [] H Q := by
  have hS := hI.1.shp
  obtain ⟨hVg, hVf, hVd, ⟨hl, hl1, ehl⟩, ⟨hFb, ⟨sh, hsh, esh⟩, ⟨up, hup, eup⟩, ⟨g, hg9, eg⟩⟩, hbU, hbK, hz0⟩ := hI.2.2.2.2.2.2.2.2.2
  have hgb : Gb st := ⟨g, by omega, eg⟩
  have b5' : nG ≤ 6 := hI.2.1.mn.2.2.2.2.2.2.2.2.2.1
  have h64 : sh < 64 := Nat.lt_of_lt_of_le hsh (Nat.pow_le_pow_right (by decide) b5')
  have hzG : n = 0 → nG = 0 := fun z => (hz0 z).1
  have hzW : n = 0 → nW = 0 := fun z => (hz0 z).2.1
  simp only [w0_499, w0_500, w0_503, w0_504, w0_507, w0_510, w0_511, oK_some, cont_int, cont_intS, cont_none, cont_noneS, cont_long, cont_longS, true_and, and_true, false_and, and_false, true_implies, false_implies, not_true_eq_false, not_false_eq_true, eq_self, or_true, true_or, Option.isSome_some, hpf_length, hpa_length, bI_eq0, fi_hpa, fl_hpa, ar_hpf, fi_hpf_ne, fl_hpf_ne, ar_hpa_ne, hpa_hpa, hpf_hpf, nI_1, two_ne, fokZ, implies_true, Nat.reduceEqDiff, rc_0, rc_68, hS]
  refine C_doubters hI.1 (fun H1 hF1 e1 => ?_)
  have s1 := hF1.shp
  simp only [w0_499, w0_500, w0_503, w0_504, w0_507, w0_510, w0_511, oK_some, cont_int, cont_intS, cont_none, cont_noneS, cont_long, cont_longS, true_and, and_true, false_and, and_false, true_implies, false_implies, not_true_eq_false, not_false_eq_true, eq_self, or_true, true_or, Option.isSome_some, hpf_length, hpa_length, bI_eq0, fi_hpa, fl_hpa, ar_hpf, fi_hpf_ne, fl_hpf_ne, ar_hpa_ne, hpa_hpa, hpf_hpf, nI_1, two_ne, fokZ, implies_true, Nat.reduceEqDiff, rc_0, rc_68, hF1.len, s1]
  refine M_doubters (hI.2.1.of hF1 (by decide) (by decide) (by decide) (by decide)) (fun H2 hF2 e0 e2 => ?_)
  have s2 := hF2.shp
  simp only [w0_499, w0_500, w0_503, w0_504, w0_507, w0_510, w0_511, oK_some, cont_int, cont_intS, cont_none, cont_noneS, cont_long, cont_longS, true_and, and_true, false_and, and_false, true_implies, false_implies, not_true_eq_false, not_false_eq_true, eq_self, or_true, true_or, Option.isSome_some, hpf_length, hpa_length, bI_eq0, fi_hpa, fl_hpa, ar_hpf, fi_hpf_ne, fl_hpf_ne, ar_hpa_ne, hpa_hpa, hpf_hpf, nI_1, two_ne, fokZ, implies_true, Nat.reduceEqDiff, rc_0, rc_68, hF2.len, s2]
  exact hn H2 ⟨R, st, Us, Ks, n, nS, nW, nG, nU, nN, tp, inv_q hI hF1 e1 hF2 e2 (by split <;> decide)⟩ (by rw [hF2.len, hF1.len]; exact Nat.le_succ _) _ _ h5 h6
theorem law_8 (hI : Ivv H R st Us Ks n nS nW nG nU nN tp) (hk : 6 * k + 6 ≤ scr.length) (hL : scr.length ≤ 3072) (h5 : Oi o5) (h6 : Oi o6) (hn : ∀ H', INV H' → H'.length ≤ H.length + 1 → ∀ o5 o6 : Option Value, Oi o5 → Oi o6 → Wp scr (d + 17) 0 1690 [some (.retAddr 1000), some (.ref 0), some (.ref 68), some (.ref 83), some (.int (nI (6 * k))), o5, o6] [] H' Q) : Wp scr (d + 17) 0 512 [some (.retAddr 1000), some (.ref 0), some (.ref 68), some (.ref 83), some (.int (nI (6 * k))), o5, o6] [] H Q := by
  have hS := hI.1.shp
  obtain ⟨hVg, hVf, hVd, ⟨hl, hl1, ehl⟩, ⟨hFb, ⟨sh, hsh, esh⟩, ⟨up, hup, eup⟩, ⟨g, hg9, eg⟩⟩, hbU, hbK, hz0⟩ := hI.2.2.2.2.2.2.2.2.2
  have hgb : Gb st := ⟨g, by omega, eg⟩
  have b5' : nG ≤ 6 := hI.2.1.mn.2.2.2.2.2.2.2.2.2.1
  have h64 : sh < 64 := Nat.lt_of_lt_of_le hsh (Nat.pow_le_pow_right (by decide) b5')
  have hzG : n = 0 → nG = 0 := fun z => (hz0 z).1
  have hzW : n = 0 → nW = 0 := fun z => (hz0 z).2.1
  simp only [w0_512, w0_513, w0_516, w0_517, w0_520, w0_523, w0_524, oK_some, cont_int, cont_intS, cont_none, cont_noneS, cont_long, cont_longS, true_and, and_true, false_and, and_false, true_implies, false_implies, not_true_eq_false, not_false_eq_true, eq_self, or_true, true_or, Option.isSome_some, hpf_length, hpa_length, bI_eq0, fi_hpa, fl_hpa, ar_hpf, fi_hpf_ne, fl_hpf_ne, ar_hpa_ne, hpa_hpa, hpf_hpf, nI_1, two_ne, fokZ, implies_true, Nat.reduceEqDiff, rc_0, rc_68, hS]
  refine C_grapes hI.1 (fun H1 hF1 e1 => ?_)
  have s1 := hF1.shp
  simp only [w0_512, w0_513, w0_516, w0_517, w0_520, w0_523, w0_524, oK_some, cont_int, cont_intS, cont_none, cont_noneS, cont_long, cont_longS, true_and, and_true, false_and, and_false, true_implies, false_implies, not_true_eq_false, not_false_eq_true, eq_self, or_true, true_or, Option.isSome_some, hpf_length, hpa_length, bI_eq0, fi_hpa, fl_hpa, ar_hpf, fi_hpf_ne, fl_hpf_ne, ar_hpa_ne, hpa_hpa, hpf_hpf, nI_1, two_ne, fokZ, implies_true, Nat.reduceEqDiff, rc_0, rc_68, hF1.len, s1]
  refine M_grapes (hI.2.1.of hF1 (by decide) (by decide) (by decide) (by decide)) (fun H2 hF2 e0 e2 => ?_)
  have s2 := hF2.shp
  simp only [w0_512, w0_513, w0_516, w0_517, w0_520, w0_523, w0_524, oK_some, cont_int, cont_intS, cont_none, cont_noneS, cont_long, cont_longS, true_and, and_true, false_and, and_false, true_implies, false_implies, not_true_eq_false, not_false_eq_true, eq_self, or_true, true_or, Option.isSome_some, hpf_length, hpa_length, bI_eq0, fi_hpa, fl_hpa, ar_hpf, fi_hpf_ne, fl_hpf_ne, ar_hpa_ne, hpa_hpa, hpf_hpf, nI_1, two_ne, fokZ, implies_true, Nat.reduceEqDiff, rc_0, rc_68, hF2.len, s2]
  exact hn H2 ⟨R, st, Us, Ks, n, nS, nW, nG, nU, nN, tp, inv_q hI hF1 e1 hF2 e2 (by split <;> decide)⟩ (by rw [hF2.len, hF1.len]; exact Nat.le_succ _) _ _ h5 h6
theorem law_9 (hI : Ivv H R st Us Ks n nS nW nG nU nN tp) (hk : 6 * k + 6 ≤ scr.length) (hL : scr.length ≤ 3072) (h5 : Oi o5) (h6 : Oi o6) (hn : ∀ H', INV H' → H'.length ≤ H.length + 1 → ∀ o5 o6 : Option Value, Oi o5 → Oi o6 → Wp scr (d + 17) 0 1690 [some (.retAddr 1000), some (.ref 0), some (.ref 68), some (.ref 83), some (.int (nI (6 * k))), o5, o6] [] H' Q) : Wp scr (d + 17) 0 525 [some (.retAddr 1000), some (.ref 0), some (.ref 68), some (.ref 83), some (.int (nI (6 * k))), o5, o6] [] H Q := by
  have hS := hI.1.shp
  obtain ⟨hVg, hVf, hVd, ⟨hl, hl1, ehl⟩, ⟨hFb, ⟨sh, hsh, esh⟩, ⟨up, hup, eup⟩, ⟨g, hg9, eg⟩⟩, hbU, hbK, hz0⟩ := hI.2.2.2.2.2.2.2.2.2
  have hgb : Gb st := ⟨g, by omega, eg⟩
  have b5' : nG ≤ 6 := hI.2.1.mn.2.2.2.2.2.2.2.2.2.1
  have h64 : sh < 64 := Nat.lt_of_lt_of_le hsh (Nat.pow_le_pow_right (by decide) b5')
  have hzG : n = 0 → nG = 0 := fun z => (hz0 z).1
  have hzW : n = 0 → nW = 0 := fun z => (hz0 z).2.1
  simp only [w0_525, w0_526, w0_529, w0_530, w0_533, w0_536, w0_537, oK_some, cont_int, cont_intS, cont_none, cont_noneS, cont_long, cont_longS, true_and, and_true, false_and, and_false, true_implies, false_implies, not_true_eq_false, not_false_eq_true, eq_self, or_true, true_or, Option.isSome_some, hpf_length, hpa_length, bI_eq0, fi_hpa, fl_hpa, ar_hpf, fi_hpf_ne, fl_hpf_ne, ar_hpa_ne, hpa_hpa, hpf_hpf, nI_1, two_ne, fokZ, implies_true, Nat.reduceEqDiff, rc_0, rc_68, hS]
  refine C_weakest hI.1 (fun H1 hF1 e1 => ?_)
  have s1 := hF1.shp
  simp only [w0_525, w0_526, w0_529, w0_530, w0_533, w0_536, w0_537, oK_some, cont_int, cont_intS, cont_none, cont_noneS, cont_long, cont_longS, true_and, and_true, false_and, and_false, true_implies, false_implies, not_true_eq_false, not_false_eq_true, eq_self, or_true, true_or, Option.isSome_some, hpf_length, hpa_length, bI_eq0, fi_hpa, fl_hpa, ar_hpf, fi_hpf_ne, fl_hpf_ne, ar_hpa_ne, hpa_hpa, hpf_hpf, nI_1, two_ne, fokZ, implies_true, Nat.reduceEqDiff, rc_0, rc_68, hF1.len, s1]
  refine M_weakest (hI.2.1.of hF1 (by decide) (by decide) (by decide) (by decide)) (fun H2 hF2 e0 e2 => ?_)
  have s2 := hF2.shp
  simp only [w0_525, w0_526, w0_529, w0_530, w0_533, w0_536, w0_537, oK_some, cont_int, cont_intS, cont_none, cont_noneS, cont_long, cont_longS, true_and, and_true, false_and, and_false, true_implies, false_implies, not_true_eq_false, not_false_eq_true, eq_self, or_true, true_or, Option.isSome_some, hpf_length, hpa_length, bI_eq0, fi_hpa, fl_hpa, ar_hpf, fi_hpf_ne, fl_hpf_ne, ar_hpa_ne, hpa_hpa, hpf_hpf, nI_1, two_ne, fokZ, implies_true, Nat.reduceEqDiff, rc_0, rc_68, hF2.len, s2]
  exact hn H2 ⟨R, st, Us, Ks, n, nS, nW, nG, nU, nN, tp, inv_q hI hF1 e1 hF2 e2 (by split <;> decide)⟩ (by rw [hF2.len, hF1.len]; exact Nat.le_succ _) _ _ h5 h6
theorem law_10 (hI : Ivv H R st Us Ks n nS nW nG nU nN tp) (hk : 6 * k + 6 ≤ scr.length) (hL : scr.length ≤ 3072) (h5 : Oi o5) (h6 : Oi o6) (hn : ∀ H', INV H' → H'.length ≤ H.length + 1 → ∀ o5 o6 : Option Value, Oi o5 → Oi o6 → Wp scr (d + 17) 0 1690 [some (.retAddr 1000), some (.ref 0), some (.ref 68), some (.ref 83), some (.int (nI (6 * k))), o5, o6] [] H' Q) : Wp scr (d + 17) 0 538 [some (.retAddr 1000), some (.ref 0), some (.ref 68), some (.ref 83), some (.int (nI (6 * k))), o5, o6] [] H Q := by
  have hS := hI.1.shp
  obtain ⟨hVg, hVf, hVd, ⟨hl, hl1, ehl⟩, ⟨hFb, ⟨sh, hsh, esh⟩, ⟨up, hup, eup⟩, ⟨g, hg9, eg⟩⟩, hbU, hbK, hz0⟩ := hI.2.2.2.2.2.2.2.2.2
  have hgb : Gb st := ⟨g, by omega, eg⟩
  have b5' : nG ≤ 6 := hI.2.1.mn.2.2.2.2.2.2.2.2.2.1
  have h64 : sh < 64 := Nat.lt_of_lt_of_le hsh (Nat.pow_le_pow_right (by decide) b5')
  have hzG : n = 0 → nG = 0 := fun z => (hz0 z).1
  have hzW : n = 0 → nW = 0 := fun z => (hz0 z).2.1
  simp only [w0_538, w0_539, w0_542, w0_543, w0_546, w0_549, w0_550, oK_some, cont_int, cont_intS, cont_none, cont_noneS, cont_long, cont_longS, true_and, and_true, false_and, and_false, true_implies, false_implies, not_true_eq_false, not_false_eq_true, eq_self, or_true, true_or, Option.isSome_some, hpf_length, hpa_length, bI_eq0, fi_hpa, fl_hpa, ar_hpf, fi_hpf_ne, fl_hpf_ne, ar_hpa_ne, hpa_hpa, hpf_hpf, nI_1, two_ne, fokZ, implies_true, Nat.reduceEqDiff, rc_0, rc_68, hS]
  refine C_spent hI.1 (fun H1 hF1 e1 => ?_)
  have s1 := hF1.shp
  simp only [w0_538, w0_539, w0_542, w0_543, w0_546, w0_549, w0_550, oK_some, cont_int, cont_intS, cont_none, cont_noneS, cont_long, cont_longS, true_and, and_true, false_and, and_false, true_implies, false_implies, not_true_eq_false, not_false_eq_true, eq_self, or_true, true_or, Option.isSome_some, hpf_length, hpa_length, bI_eq0, fi_hpa, fl_hpa, ar_hpf, fi_hpf_ne, fl_hpf_ne, ar_hpa_ne, hpa_hpa, hpf_hpf, nI_1, two_ne, fokZ, implies_true, Nat.reduceEqDiff, rc_0, rc_68, hF1.len, s1]
  refine M_spent (hI.2.1.of hF1 (by decide) (by decide) (by decide) (by decide)) (fun H2 hF2 e0 e2 => ?_)
  have s2 := hF2.shp
  simp only [w0_538, w0_539, w0_542, w0_543, w0_546, w0_549, w0_550, oK_some, cont_int, cont_intS, cont_none, cont_noneS, cont_long, cont_longS, true_and, and_true, false_and, and_false, true_implies, false_implies, not_true_eq_false, not_false_eq_true, eq_self, or_true, true_or, Option.isSome_some, hpf_length, hpa_length, bI_eq0, fi_hpa, fl_hpa, ar_hpf, fi_hpf_ne, fl_hpf_ne, ar_hpa_ne, hpa_hpa, hpf_hpf, nI_1, two_ne, fokZ, implies_true, Nat.reduceEqDiff, rc_0, rc_68, hF2.len, s2]
  exact hn H2 ⟨R, st, Us, Ks, n, nS, nW, nG, nU, nN, tp, inv_q hI hF1 e1 hF2 e2 (by split <;> decide)⟩ (by rw [hF2.len, hF1.len]; exact Nat.le_succ _) _ _ h5 h6
theorem law_14 (hI : Ivv H R st Us Ks n nS nW nG nU nN tp) (hk : 6 * k + 6 ≤ scr.length) (hL : scr.length ≤ 3072) (h5 : Oi o5) (h6 : Oi o6) (hn : ∀ H', INV H' → H'.length ≤ H.length + 1 → ∀ o5 o6 : Option Value, Oi o5 → Oi o6 → Wp scr (d + 17) 0 1690 [some (.retAddr 1000), some (.ref 0), some (.ref 68), some (.ref 83), some (.int (nI (6 * k))), o5, o6] [] H' Q) : Wp scr (d + 17) 0 638 [some (.retAddr 1000), some (.ref 0), some (.ref 68), some (.ref 83), some (.int (nI (6 * k))), o5, o6] [] H Q := by
  have hS := hI.1.shp
  obtain ⟨hVg, hVf, hVd, ⟨hl, hl1, ehl⟩, ⟨hFb, ⟨sh, hsh, esh⟩, ⟨up, hup, eup⟩, ⟨g, hg9, eg⟩⟩, hbU, hbK, hz0⟩ := hI.2.2.2.2.2.2.2.2.2
  have hgb : Gb st := ⟨g, by omega, eg⟩
  have b5' : nG ≤ 6 := hI.2.1.mn.2.2.2.2.2.2.2.2.2.1
  have h64 : sh < 64 := Nat.lt_of_lt_of_le hsh (Nat.pow_le_pow_right (by decide) b5')
  have hzG : n = 0 → nG = 0 := fun z => (hz0 z).1
  have hzW : n = 0 → nW = 0 := fun z => (hz0 z).2.1
  simp only [w0_638, w0_639, w0_642, w0_643, w0_646, w0_649, w0_650, oK_some, cont_int, cont_intS, cont_none, cont_noneS, cont_long, cont_longS, true_and, and_true, false_and, and_false, true_implies, false_implies, not_true_eq_false, not_false_eq_true, eq_self, or_true, true_or, Option.isSome_some, hpf_length, hpa_length, bI_eq0, fi_hpa, fl_hpa, ar_hpf, fi_hpf_ne, fl_hpf_ne, ar_hpa_ne, hpa_hpa, hpf_hpf, nI_1, two_ne, fokZ, implies_true, Nat.reduceEqDiff, rc_0, rc_68, hS]
  refine C_first hI.1 (fun H1 hF1 e1 => ?_)
  have s1 := hF1.shp
  simp only [w0_638, w0_639, w0_642, w0_643, w0_646, w0_649, w0_650, oK_some, cont_int, cont_intS, cont_none, cont_noneS, cont_long, cont_longS, true_and, and_true, false_and, and_false, true_implies, false_implies, not_true_eq_false, not_false_eq_true, eq_self, or_true, true_or, Option.isSome_some, hpf_length, hpa_length, bI_eq0, fi_hpa, fl_hpa, ar_hpf, fi_hpf_ne, fl_hpf_ne, ar_hpa_ne, hpa_hpa, hpf_hpf, nI_1, two_ne, fokZ, implies_true, Nat.reduceEqDiff, rc_0, rc_68, hF1.len, s1]
  refine M_first (hI.2.1.of hF1 (by decide) (by decide) (by decide) (by decide)) (fun H2 hF2 e0 e2 => ?_)
  have s2 := hF2.shp
  simp only [w0_638, w0_639, w0_642, w0_643, w0_646, w0_649, w0_650, oK_some, cont_int, cont_intS, cont_none, cont_noneS, cont_long, cont_longS, true_and, and_true, false_and, and_false, true_implies, false_implies, not_true_eq_false, not_false_eq_true, eq_self, or_true, true_or, Option.isSome_some, hpf_length, hpa_length, bI_eq0, fi_hpa, fl_hpa, ar_hpf, fi_hpf_ne, fl_hpf_ne, ar_hpa_ne, hpa_hpa, hpf_hpf, nI_1, two_ne, fokZ, implies_true, Nat.reduceEqDiff, rc_0, rc_68, hF2.len, s2]
  exact hn H2 ⟨R, st, Us, Ks, n, nS, nW, nG, nU, nN, tp, inv_q hI hF1 e1 hF2 e2 (by split <;> decide)⟩ (by rw [hF2.len, hF1.len]; exact Nat.le_succ _) _ _ h5 h6
theorem law_15 (hI : Ivv H R st Us Ks n nS nW nG nU nN tp) (hk : 6 * k + 6 ≤ scr.length) (hL : scr.length ≤ 3072) (h5 : Oi o5) (h6 : Oi o6) (hn : ∀ H', INV H' → H'.length ≤ H.length + 1 → ∀ o5 o6 : Option Value, Oi o5 → Oi o6 → Wp scr (d + 17) 0 1690 [some (.retAddr 1000), some (.ref 0), some (.ref 68), some (.ref 83), some (.int (nI (6 * k))), o5, o6] [] H' Q) : Wp scr (d + 17) 0 651 [some (.retAddr 1000), some (.ref 0), some (.ref 68), some (.ref 83), some (.int (nI (6 * k))), o5, o6] [] H Q := by
  have hS := hI.1.shp
  obtain ⟨hVg, hVf, hVd, ⟨hl, hl1, ehl⟩, ⟨hFb, ⟨sh, hsh, esh⟩, ⟨up, hup, eup⟩, ⟨g, hg9, eg⟩⟩, hbU, hbK, hz0⟩ := hI.2.2.2.2.2.2.2.2.2
  have hgb : Gb st := ⟨g, by omega, eg⟩
  have b5' : nG ≤ 6 := hI.2.1.mn.2.2.2.2.2.2.2.2.2.1
  have h64 : sh < 64 := Nat.lt_of_lt_of_le hsh (Nat.pow_le_pow_right (by decide) b5')
  have hzG : n = 0 → nG = 0 := fun z => (hz0 z).1
  have hzW : n = 0 → nW = 0 := fun z => (hz0 z).2.1
  simp only [w0_651, w0_652, w0_655, w0_656, w0_659, w0_662, w0_663, oK_some, cont_int, cont_intS, cont_none, cont_noneS, cont_long, cont_longS, true_and, and_true, false_and, and_false, true_implies, false_implies, not_true_eq_false, not_false_eq_true, eq_self, or_true, true_or, Option.isSome_some, hpf_length, hpa_length, bI_eq0, fi_hpa, fl_hpa, ar_hpf, fi_hpf_ne, fl_hpf_ne, ar_hpa_ne, hpa_hpa, hpf_hpf, nI_1, two_ne, fokZ, implies_true, Nat.reduceEqDiff, rc_0, rc_68, hS]
  refine C_worstDay hI.1 (fun H1 hF1 e1 => ?_)
  have s1 := hF1.shp
  simp only [w0_651, w0_652, w0_655, w0_656, w0_659, w0_662, w0_663, oK_some, cont_int, cont_intS, cont_none, cont_noneS, cont_long, cont_longS, true_and, and_true, false_and, and_false, true_implies, false_implies, not_true_eq_false, not_false_eq_true, eq_self, or_true, true_or, Option.isSome_some, hpf_length, hpa_length, bI_eq0, fi_hpa, fl_hpa, ar_hpf, fi_hpf_ne, fl_hpf_ne, ar_hpa_ne, hpa_hpa, hpf_hpf, nI_1, two_ne, fokZ, implies_true, Nat.reduceEqDiff, rc_0, rc_68, hF1.len, s1]
  refine M_worstDay (hI.2.1.of hF1 (by decide) (by decide) (by decide) (by decide)) (fun H2 hF2 e0 e2 => ?_)
  have s2 := hF2.shp
  simp only [w0_651, w0_652, w0_655, w0_656, w0_659, w0_662, w0_663, oK_some, cont_int, cont_intS, cont_none, cont_noneS, cont_long, cont_longS, true_and, and_true, false_and, and_false, true_implies, false_implies, not_true_eq_false, not_false_eq_true, eq_self, or_true, true_or, Option.isSome_some, hpf_length, hpa_length, bI_eq0, fi_hpa, fl_hpa, ar_hpf, fi_hpf_ne, fl_hpf_ne, ar_hpa_ne, hpa_hpa, hpf_hpf, nI_1, two_ne, fokZ, implies_true, Nat.reduceEqDiff, rc_0, rc_68, hF2.len, s2]
  exact hn H2 ⟨R, st, Us, Ks, n, nS, nW, nG, nU, nN, tp, inv_q hI hF1 e1 hF2 e2 (by split <;> decide)⟩ (by rw [hF2.len, hF1.len]; exact Nat.le_succ _) _ _ h5 h6
theorem law_16 (hI : Ivv H R st Us Ks n nS nW nG nU nN tp) (hk : 6 * k + 6 ≤ scr.length) (hL : scr.length ≤ 3072) (h5 : Oi o5) (h6 : Oi o6) (hn : ∀ H', INV H' → H'.length ≤ H.length + 1 → ∀ o5 o6 : Option Value, Oi o5 → Oi o6 → Wp scr (d + 17) 0 1690 [some (.retAddr 1000), some (.ref 0), some (.ref 68), some (.ref 83), some (.int (nI (6 * k))), o5, o6] [] H' Q) : Wp scr (d + 17) 0 664 [some (.retAddr 1000), some (.ref 0), some (.ref 68), some (.ref 83), some (.int (nI (6 * k))), o5, o6] [] H Q := by
  have hS := hI.1.shp
  obtain ⟨hVg, hVf, hVd, ⟨hl, hl1, ehl⟩, ⟨hFb, ⟨sh, hsh, esh⟩, ⟨up, hup, eup⟩, ⟨g, hg9, eg⟩⟩, hbU, hbK, hz0⟩ := hI.2.2.2.2.2.2.2.2.2
  have hgb : Gb st := ⟨g, by omega, eg⟩
  have b5' : nG ≤ 6 := hI.2.1.mn.2.2.2.2.2.2.2.2.2.1
  have h64 : sh < 64 := Nat.lt_of_lt_of_le hsh (Nat.pow_le_pow_right (by decide) b5')
  have hzG : n = 0 → nG = 0 := fun z => (hz0 z).1
  have hzW : n = 0 → nW = 0 := fun z => (hz0 z).2.1
  simp only [w0_664, w0_665, w0_668, w0_669, w0_672, w0_675, w0_676, oK_some, cont_int, cont_intS, cont_none, cont_noneS, cont_long, cont_longS, true_and, and_true, false_and, and_false, true_implies, false_implies, not_true_eq_false, not_false_eq_true, eq_self, or_true, true_or, Option.isSome_some, hpf_length, hpa_length, bI_eq0, fi_hpa, fl_hpa, ar_hpf, fi_hpf_ne, fl_hpf_ne, ar_hpa_ne, hpa_hpa, hpf_hpf, nI_1, two_ne, fokZ, implies_true, Nat.reduceEqDiff, rc_0, rc_68, hS]
  refine C_still hI.1 (fun H1 hF1 e1 => ?_)
  have s1 := hF1.shp
  simp only [w0_664, w0_665, w0_668, w0_669, w0_672, w0_675, w0_676, oK_some, cont_int, cont_intS, cont_none, cont_noneS, cont_long, cont_longS, true_and, and_true, false_and, and_false, true_implies, false_implies, not_true_eq_false, not_false_eq_true, eq_self, or_true, true_or, Option.isSome_some, hpf_length, hpa_length, bI_eq0, fi_hpa, fl_hpa, ar_hpf, fi_hpf_ne, fl_hpf_ne, ar_hpa_ne, hpa_hpa, hpf_hpf, nI_1, two_ne, fokZ, implies_true, Nat.reduceEqDiff, rc_0, rc_68, hF1.len, s1]
  refine M_still (hI.2.1.of hF1 (by decide) (by decide) (by decide) (by decide)) (fun H2 hF2 e0 e2 => ?_)
  have s2 := hF2.shp
  simp only [w0_664, w0_665, w0_668, w0_669, w0_672, w0_675, w0_676, oK_some, cont_int, cont_intS, cont_none, cont_noneS, cont_long, cont_longS, true_and, and_true, false_and, and_false, true_implies, false_implies, not_true_eq_false, not_false_eq_true, eq_self, or_true, true_or, Option.isSome_some, hpf_length, hpa_length, bI_eq0, fi_hpa, fl_hpa, ar_hpf, fi_hpf_ne, fl_hpf_ne, ar_hpa_ne, hpa_hpa, hpf_hpf, nI_1, two_ne, fokZ, implies_true, Nat.reduceEqDiff, rc_0, rc_68, hF2.len, s2]
  exact hn H2 ⟨R, st, Us, Ks, n, nS, nW, nG, nU, nN, tp, inv_q hI hF1 e1 hF2 e2 (by split <;> decide)⟩ (by rw [hF2.len, hF1.len]; exact Nat.le_succ _) _ _ h5 h6
theorem law_4 (hI : Ivv H R st Us Ks n nS nW nG nU nN tp) (hk : 6 * k + 6 ≤ scr.length) (hL : scr.length ≤ 3072) (h5 : Oi o5) (h6 : Oi o6) (hn : ∀ H', INV H' → H'.length ≤ H.length + 1 → ∀ o5 o6 : Option Value, Oi o5 → Oi o6 → Wp scr (d + 17) 0 1690 [some (.retAddr 1000), some (.ref 0), some (.ref 68), some (.ref 83), some (.int (nI (6 * k))), o5, o6] [] H' Q) : Wp scr (d + 17) 0 388 [some (.retAddr 1000), some (.ref 0), some (.ref 68), some (.ref 83), some (.int (nI (6 * k))), o5, o6] [] H Q := by
  have hS := hI.1.shp
  obtain ⟨hVg, hVf, hVd, ⟨hl, hl1, ehl⟩, ⟨hFb, ⟨sh, hsh, esh⟩, ⟨up, hup, eup⟩, ⟨g, hg9, eg⟩⟩, hbU, hbK, hz0⟩ := hI.2.2.2.2.2.2.2.2.2
  have hgb : Gb st := ⟨g, by omega, eg⟩
  have b5' : nG ≤ 6 := hI.2.1.mn.2.2.2.2.2.2.2.2.2.1
  have h64 : sh < 64 := Nat.lt_of_lt_of_le hsh (Nat.pow_le_pow_right (by decide) b5')
  have hzG : n = 0 → nG = 0 := fun z => (hz0 z).1
  have hzW : n = 0 → nW = 0 := fun z => (hz0 z).2.1
  have q1 : nI (6 * k) + 1 = nI (6 * k + 1) := ixa (6 * k) 1 (v := 1) rfl
  have b1 : inb (nI (6 * k + 1)) scr.length = true := by rw [inb_nI (by omega)]; exact decide_eq_true (by omega)
  have c1 : (nI (6 * k + 1)).toNatClampNeg = 6 * k + 1 := nI_clamp (by omega)
  have q2 : nI (6 * k) + 2 = nI (6 * k + 2) := ixa (6 * k) 2 (v := 2) rfl
  have b2 : inb (nI (6 * k + 2)) scr.length = true := by rw [inb_nI (by omega)]; exact decide_eq_true (by omega)
  have c2 : (nI (6 * k + 2)).toNatClampNeg = 6 * k + 2 := nI_clamp (by omega)
  simp only [w0_388, w0_389, w0_390, w0_392, w0_393, w0_394, w0_395, w0_396, w0_398, w0_399, w0_400, w0_401, w0_404, w0_405, w0_406, w0_408, w0_409, w0_410, w0_411, w0_412, w0_414, w0_415, w0_416, w0_417, w0_420, w0_423, w0_424, oK_some, cont_int, cont_intS, cont_none, cont_noneS, cont_long, cont_longS, true_and, and_true, false_and, and_false, true_implies, false_implies, not_true_eq_false, not_false_eq_true, eq_self, or_true, true_or, Option.isSome_some, hpf_length, hpa_length, bI_eq0, fi_hpa, fl_hpa, ar_hpf, fi_hpf_ne, fl_hpf_ne, ar_hpa_ne, hpa_hpa, hpf_hpf, nI_1, two_ne, fokZ, implies_true, Nat.reduceEqDiff, rc_0, rc_68, hS, q1, b1, c1, q2, b2, c2]
  refine C_row hI.1 (fun H1 hF1 e1 => ?_)
  have s1 := hF1.shp
  simp only [w0_388, w0_389, w0_390, w0_392, w0_393, w0_394, w0_395, w0_396, w0_398, w0_399, w0_400, w0_401, w0_404, w0_405, w0_406, w0_408, w0_409, w0_410, w0_411, w0_412, w0_414, w0_415, w0_416, w0_417, w0_420, w0_423, w0_424, oK_some, cont_int, cont_intS, cont_none, cont_noneS, cont_long, cont_longS, true_and, and_true, false_and, and_false, true_implies, false_implies, not_true_eq_false, not_false_eq_true, eq_self, or_true, true_or, Option.isSome_some, hpf_length, hpa_length, bI_eq0, fi_hpa, fl_hpa, ar_hpf, fi_hpf_ne, fl_hpf_ne, ar_hpa_ne, hpa_hpa, hpf_hpf, nI_1, two_ne, fokZ, implies_true, Nat.reduceEqDiff, rc_0, rc_68, hF1.len, s1, q1, b1, c1, q2, b2, c2]
  refine M_row (hI.2.1.of hF1 (by decide) (by decide) (by decide) (by decide)) (fun H2 hF2 e0 e2 => ?_)
  have s2 := hF2.shp
  simp only [w0_388, w0_389, w0_390, w0_392, w0_393, w0_394, w0_395, w0_396, w0_398, w0_399, w0_400, w0_401, w0_404, w0_405, w0_406, w0_408, w0_409, w0_410, w0_411, w0_412, w0_414, w0_415, w0_416, w0_417, w0_420, w0_423, w0_424, oK_some, cont_int, cont_intS, cont_none, cont_noneS, cont_long, cont_longS, true_and, and_true, false_and, and_false, true_implies, false_implies, not_true_eq_false, not_false_eq_true, eq_self, or_true, true_or, Option.isSome_some, hpf_length, hpa_length, bI_eq0, fi_hpa, fl_hpa, ar_hpf, fi_hpf_ne, fl_hpf_ne, ar_hpa_ne, hpa_hpa, hpf_hpf, nI_1, two_ne, fokZ, implies_true, Nat.reduceEqDiff, rc_0, rc_68, hF2.len, s2]
  exact hn H2 ⟨R, st, Us, Ks, n, nS, nW, nG, nU, nN, tp, inv_q hI hF1 e1 hF2 e2 (by split <;> decide)⟩ (by rw [hF2.len, hF1.len]; exact Nat.le_succ _) _ _ h5 h6
theorem law_5 (hI : Ivv H R st Us Ks n nS nW nG nU nN tp) (hk : 6 * k + 6 ≤ scr.length) (hL : scr.length ≤ 3072) (h5 : Oi o5) (h6 : Oi o6) (hn : ∀ H', INV H' → H'.length ≤ H.length + 1 → ∀ o5 o6 : Option Value, Oi o5 → Oi o6 → Wp scr (d + 17) 0 1690 [some (.retAddr 1000), some (.ref 0), some (.ref 68), some (.ref 83), some (.int (nI (6 * k))), o5, o6] [] H' Q) : Wp scr (d + 17) 0 425 [some (.retAddr 1000), some (.ref 0), some (.ref 68), some (.ref 83), some (.int (nI (6 * k))), o5, o6] [] H Q := by
  have hS := hI.1.shp
  obtain ⟨hVg, hVf, hVd, ⟨hl, hl1, ehl⟩, ⟨hFb, ⟨sh, hsh, esh⟩, ⟨up, hup, eup⟩, ⟨g, hg9, eg⟩⟩, hbU, hbK, hz0⟩ := hI.2.2.2.2.2.2.2.2.2
  have hgb : Gb st := ⟨g, by omega, eg⟩
  have b5' : nG ≤ 6 := hI.2.1.mn.2.2.2.2.2.2.2.2.2.1
  have h64 : sh < 64 := Nat.lt_of_lt_of_le hsh (Nat.pow_le_pow_right (by decide) b5')
  have hzG : n = 0 → nG = 0 := fun z => (hz0 z).1
  have hzW : n = 0 → nW = 0 := fun z => (hz0 z).2.1
  have q1 : nI (6 * k) + 1 = nI (6 * k + 1) := ixa (6 * k) 1 (v := 1) rfl
  have b1 : inb (nI (6 * k + 1)) scr.length = true := by rw [inb_nI (by omega)]; exact decide_eq_true (by omega)
  have c1 : (nI (6 * k + 1)).toNatClampNeg = 6 * k + 1 := nI_clamp (by omega)
  have q2 : nI (6 * k) + 2 = nI (6 * k + 2) := ixa (6 * k) 2 (v := 2) rfl
  have b2 : inb (nI (6 * k + 2)) scr.length = true := by rw [inb_nI (by omega)]; exact decide_eq_true (by omega)
  have c2 : (nI (6 * k + 2)).toNatClampNeg = 6 * k + 2 := nI_clamp (by omega)
  simp only [w0_425, w0_426, w0_427, w0_429, w0_430, w0_431, w0_432, w0_433, w0_435, w0_436, w0_437, w0_438, w0_441, w0_442, w0_443, w0_445, w0_446, w0_447, w0_448, w0_449, w0_451, w0_452, w0_453, w0_454, w0_457, w0_460, w0_461, oK_some, cont_int, cont_intS, cont_none, cont_noneS, cont_long, cont_longS, true_and, and_true, false_and, and_false, true_implies, false_implies, not_true_eq_false, not_false_eq_true, eq_self, or_true, true_or, Option.isSome_some, hpf_length, hpa_length, bI_eq0, fi_hpa, fl_hpa, ar_hpf, fi_hpf_ne, fl_hpf_ne, ar_hpa_ne, hpa_hpa, hpf_hpf, nI_1, two_ne, fokZ, implies_true, Nat.reduceEqDiff, rc_0, rc_68, hS, q1, b1, c1, q2, b2, c2]
  refine C_sign hI.1 hzG (fun H1 hF1 e1 => ?_)
  have s1 := hF1.shp
  simp only [w0_425, w0_426, w0_427, w0_429, w0_430, w0_431, w0_432, w0_433, w0_435, w0_436, w0_437, w0_438, w0_441, w0_442, w0_443, w0_445, w0_446, w0_447, w0_448, w0_449, w0_451, w0_452, w0_453, w0_454, w0_457, w0_460, w0_461, oK_some, cont_int, cont_intS, cont_none, cont_noneS, cont_long, cont_longS, true_and, and_true, false_and, and_false, true_implies, false_implies, not_true_eq_false, not_false_eq_true, eq_self, or_true, true_or, Option.isSome_some, hpf_length, hpa_length, bI_eq0, fi_hpa, fl_hpa, ar_hpf, fi_hpf_ne, fl_hpf_ne, ar_hpa_ne, hpa_hpa, hpf_hpf, nI_1, two_ne, fokZ, implies_true, Nat.reduceEqDiff, rc_0, rc_68, hF1.len, s1, q1, b1, c1, q2, b2, c2]
  refine M_sign (hI.2.1.of hF1 (by decide) (by decide) (by decide) (by decide)) (fun H2 hF2 e0 e2 => ?_)
  have s2 := hF2.shp
  simp only [w0_425, w0_426, w0_427, w0_429, w0_430, w0_431, w0_432, w0_433, w0_435, w0_436, w0_437, w0_438, w0_441, w0_442, w0_443, w0_445, w0_446, w0_447, w0_448, w0_449, w0_451, w0_452, w0_453, w0_454, w0_457, w0_460, w0_461, oK_some, cont_int, cont_intS, cont_none, cont_noneS, cont_long, cont_longS, true_and, and_true, false_and, and_false, true_implies, false_implies, not_true_eq_false, not_false_eq_true, eq_self, or_true, true_or, Option.isSome_some, hpf_length, hpa_length, bI_eq0, fi_hpa, fl_hpa, ar_hpf, fi_hpf_ne, fl_hpf_ne, ar_hpa_ne, hpa_hpa, hpf_hpf, nI_1, two_ne, fokZ, implies_true, Nat.reduceEqDiff, rc_0, rc_68, hF2.len, s2]
  exact hn H2 ⟨R, st, Us, Ks, n, nS, nW, nG, nU, nN, tp, inv_q hI hF1 e1 hF2 e2 (by split <;> decide)⟩ (by rw [hF2.len, hF1.len]; exact Nat.le_succ _) _ _ h5 h6
theorem law_6 (hI : Ivv H R st Us Ks n nS nW nG nU nN tp) (hk : 6 * k + 6 ≤ scr.length) (hL : scr.length ≤ 3072) (h5 : Oi o5) (h6 : Oi o6) (hn : ∀ H', INV H' → H'.length ≤ H.length + 1 → ∀ o5 o6 : Option Value, Oi o5 → Oi o6 → Wp scr (d + 17) 0 1690 [some (.retAddr 1000), some (.ref 0), some (.ref 68), some (.ref 83), some (.int (nI (6 * k))), o5, o6] [] H' Q) : Wp scr (d + 17) 0 462 [some (.retAddr 1000), some (.ref 0), some (.ref 68), some (.ref 83), some (.int (nI (6 * k))), o5, o6] [] H Q := by
  have hS := hI.1.shp
  obtain ⟨hVg, hVf, hVd, ⟨hl, hl1, ehl⟩, ⟨hFb, ⟨sh, hsh, esh⟩, ⟨up, hup, eup⟩, ⟨g, hg9, eg⟩⟩, hbU, hbK, hz0⟩ := hI.2.2.2.2.2.2.2.2.2
  have hgb : Gb st := ⟨g, by omega, eg⟩
  have b5' : nG ≤ 6 := hI.2.1.mn.2.2.2.2.2.2.2.2.2.1
  have h64 : sh < 64 := Nat.lt_of_lt_of_le hsh (Nat.pow_le_pow_right (by decide) b5')
  have hzG : n = 0 → nG = 0 := fun z => (hz0 z).1
  have hzW : n = 0 → nW = 0 := fun z => (hz0 z).2.1
  have q1 : nI (6 * k) + 1 = nI (6 * k + 1) := ixa (6 * k) 1 (v := 1) rfl
  have b1 : inb (nI (6 * k + 1)) scr.length = true := by rw [inb_nI (by omega)]; exact decide_eq_true (by omega)
  have c1 : (nI (6 * k + 1)).toNatClampNeg = 6 * k + 1 := nI_clamp (by omega)
  have q2 : nI (6 * k) + 2 = nI (6 * k + 2) := ixa (6 * k) 2 (v := 2) rfl
  have b2 : inb (nI (6 * k + 2)) scr.length = true := by rw [inb_nI (by omega)]; exact decide_eq_true (by omega)
  have c2 : (nI (6 * k + 2)).toNatClampNeg = 6 * k + 2 := nI_clamp (by omega)
  simp only [w0_462, w0_463, w0_464, w0_466, w0_467, w0_468, w0_469, w0_470, w0_472, w0_473, w0_474, w0_475, w0_478, w0_479, w0_480, w0_482, w0_483, w0_484, w0_485, w0_486, w0_488, w0_489, w0_490, w0_491, w0_494, w0_497, w0_498, oK_some, cont_int, cont_intS, cont_none, cont_noneS, cont_long, cont_longS, true_and, and_true, false_and, and_false, true_implies, false_implies, not_true_eq_false, not_false_eq_true, eq_self, or_true, true_or, Option.isSome_some, hpf_length, hpa_length, bI_eq0, fi_hpa, fl_hpa, ar_hpf, fi_hpf_ne, fl_hpf_ne, ar_hpa_ne, hpa_hpa, hpf_hpf, nI_1, two_ne, fokZ, implies_true, Nat.reduceEqDiff, rc_0, rc_68, hS, q1, b1, c1, q2, b2, c2]
  refine C_wall hI.1 hzW (fun H1 hF1 e1 => ?_)
  have s1 := hF1.shp
  simp only [w0_462, w0_463, w0_464, w0_466, w0_467, w0_468, w0_469, w0_470, w0_472, w0_473, w0_474, w0_475, w0_478, w0_479, w0_480, w0_482, w0_483, w0_484, w0_485, w0_486, w0_488, w0_489, w0_490, w0_491, w0_494, w0_497, w0_498, oK_some, cont_int, cont_intS, cont_none, cont_noneS, cont_long, cont_longS, true_and, and_true, false_and, and_false, true_implies, false_implies, not_true_eq_false, not_false_eq_true, eq_self, or_true, true_or, Option.isSome_some, hpf_length, hpa_length, bI_eq0, fi_hpa, fl_hpa, ar_hpf, fi_hpf_ne, fl_hpf_ne, ar_hpa_ne, hpa_hpa, hpf_hpf, nI_1, two_ne, fokZ, implies_true, Nat.reduceEqDiff, rc_0, rc_68, hF1.len, s1, q1, b1, c1, q2, b2, c2]
  refine M_wall (hI.2.1.of hF1 (by decide) (by decide) (by decide) (by decide)) (fun H2 hF2 e0 e2 => ?_)
  have s2 := hF2.shp
  simp only [w0_462, w0_463, w0_464, w0_466, w0_467, w0_468, w0_469, w0_470, w0_472, w0_473, w0_474, w0_475, w0_478, w0_479, w0_480, w0_482, w0_483, w0_484, w0_485, w0_486, w0_488, w0_489, w0_490, w0_491, w0_494, w0_497, w0_498, oK_some, cont_int, cont_intS, cont_none, cont_noneS, cont_long, cont_longS, true_and, and_true, false_and, and_false, true_implies, false_implies, not_true_eq_false, not_false_eq_true, eq_self, or_true, true_or, Option.isSome_some, hpf_length, hpa_length, bI_eq0, fi_hpa, fl_hpa, ar_hpf, fi_hpf_ne, fl_hpf_ne, ar_hpa_ne, hpa_hpa, hpf_hpf, nI_1, two_ne, fokZ, implies_true, Nat.reduceEqDiff, rc_0, rc_68, hF2.len, s2]
  exact hn H2 ⟨R, st, Us, Ks, n, nS, nW, nG, nU, nN, tp, inv_q hI hF1 e1 hF2 e2 (by split <;> decide)⟩ (by rw [hF2.len, hF1.len]; exact Nat.le_succ _) _ _ h5 h6
theorem law_11 (hI : Ivv H R st Us Ks n nS nW nG nU nN tp) (hk : 6 * k + 6 ≤ scr.length) (hL : scr.length ≤ 3072) (h5 : Oi o5) (h6 : Oi o6) (hn : ∀ H', INV H' → H'.length ≤ H.length + 1 → ∀ o5 o6 : Option Value, Oi o5 → Oi o6 → Wp scr (d + 17) 0 1690 [some (.retAddr 1000), some (.ref 0), some (.ref 68), some (.ref 83), some (.int (nI (6 * k))), o5, o6] [] H' Q) : Wp scr (d + 17) 0 551 [some (.retAddr 1000), some (.ref 0), some (.ref 68), some (.ref 83), some (.int (nI (6 * k))), o5, o6] [] H Q := by
  have hS := hI.1.shp
  obtain ⟨hVg, hVf, hVd, ⟨hl, hl1, ehl⟩, ⟨hFb, ⟨sh, hsh, esh⟩, ⟨up, hup, eup⟩, ⟨g, hg9, eg⟩⟩, hbU, hbK, hz0⟩ := hI.2.2.2.2.2.2.2.2.2
  have hgb : Gb st := ⟨g, by omega, eg⟩
  have b5' : nG ≤ 6 := hI.2.1.mn.2.2.2.2.2.2.2.2.2.1
  have h64 : sh < 64 := Nat.lt_of_lt_of_le hsh (Nat.pow_le_pow_right (by decide) b5')
  have hzG : n = 0 → nG = 0 := fun z => (hz0 z).1
  have hzW : n = 0 → nW = 0 := fun z => (hz0 z).2.1
  have q1 : nI (6 * k) + 1 = nI (6 * k + 1) := ixa (6 * k) 1 (v := 1) rfl
  have b1 : inb (nI (6 * k + 1)) scr.length = true := by rw [inb_nI (by omega)]; exact decide_eq_true (by omega)
  have c1 : (nI (6 * k + 1)).toNatClampNeg = 6 * k + 1 := nI_clamp (by omega)
  have q2 : nI (6 * k) + 2 = nI (6 * k + 2) := ixa (6 * k) 2 (v := 2) rfl
  have b2 : inb (nI (6 * k + 2)) scr.length = true := by rw [inb_nI (by omega)]; exact decide_eq_true (by omega)
  have c2 : (nI (6 * k + 2)).toNatClampNeg = 6 * k + 2 := nI_clamp (by omega)
  simp only [w0_551, w0_552, w0_553, w0_555, w0_556, w0_557, w0_558, w0_559, w0_561, w0_562, w0_563, w0_564, w0_567, w0_568, w0_569, w0_571, w0_572, w0_573, w0_574, w0_575, w0_577, w0_578, w0_579, w0_580, w0_583, w0_586, w0_587, oK_some, cont_int, cont_intS, cont_none, cont_noneS, cont_long, cont_longS, true_and, and_true, false_and, and_false, true_implies, false_implies, not_true_eq_false, not_false_eq_true, eq_self, or_true, true_or, Option.isSome_some, hpf_length, hpa_length, bI_eq0, fi_hpa, fl_hpa, ar_hpf, fi_hpf_ne, fl_hpf_ne, ar_hpa_ne, hpa_hpa, hpf_hpf, nI_1, two_ne, fokZ, implies_true, Nat.reduceEqDiff, rc_0, rc_68, hS, q1, b1, c1, q2, b2, c2]
  refine C_faithIn goC hI.1 hgb (fun H1 hF1 e1 => ?_)
  have s1 := hF1.shp
  simp only [w0_551, w0_552, w0_553, w0_555, w0_556, w0_557, w0_558, w0_559, w0_561, w0_562, w0_563, w0_564, w0_567, w0_568, w0_569, w0_571, w0_572, w0_573, w0_574, w0_575, w0_577, w0_578, w0_579, w0_580, w0_583, w0_586, w0_587, oK_some, cont_int, cont_intS, cont_none, cont_noneS, cont_long, cont_longS, true_and, and_true, false_and, and_false, true_implies, false_implies, not_true_eq_false, not_false_eq_true, eq_self, or_true, true_or, Option.isSome_some, hpf_length, hpa_length, bI_eq0, fi_hpa, fl_hpa, ar_hpf, fi_hpf_ne, fl_hpf_ne, ar_hpa_ne, hpa_hpa, hpf_hpf, nI_1, two_ne, fokZ, implies_true, Nat.reduceEqDiff, rc_0, rc_68, hF1.len, s1, q1, b1, c1, q2, b2, c2]
  refine M_faithIn (hI.2.1.of hF1 (by decide) (by decide) (by decide) (by decide)) (fun H2 hF2 e0 e2 => ?_)
  have s2 := hF2.shp
  simp only [w0_551, w0_552, w0_553, w0_555, w0_556, w0_557, w0_558, w0_559, w0_561, w0_562, w0_563, w0_564, w0_567, w0_568, w0_569, w0_571, w0_572, w0_573, w0_574, w0_575, w0_577, w0_578, w0_579, w0_580, w0_583, w0_586, w0_587, oK_some, cont_int, cont_intS, cont_none, cont_noneS, cont_long, cont_longS, true_and, and_true, false_and, and_false, true_implies, false_implies, not_true_eq_false, not_false_eq_true, eq_self, or_true, true_or, Option.isSome_some, hpf_length, hpa_length, bI_eq0, fi_hpa, fl_hpa, ar_hpf, fi_hpf_ne, fl_hpf_ne, ar_hpa_ne, hpa_hpa, hpf_hpf, nI_1, two_ne, fokZ, implies_true, Nat.reduceEqDiff, rc_0, rc_68, hF2.len, s2]
  exact hn H2 ⟨R, st, Us, Ks, n, nS, nW, nG, nU, nN, tp, inv_q hI hF1 e1 hF2 e2 (whyF_4 _ _ _)⟩ (by rw [hF2.len, hF1.len]; exact Nat.le_succ _) _ _ h5 h6
theorem law_12 (hI : Ivv H R st Us Ks n nS nW nG nU nN tp) (hk : 6 * k + 6 ≤ scr.length) (hL : scr.length ≤ 3072) (h5 : Oi o5) (h6 : Oi o6) (hn : ∀ H', INV H' → H'.length ≤ H.length + 1 → ∀ o5 o6 : Option Value, Oi o5 → Oi o6 → Wp scr (d + 17) 0 1690 [some (.retAddr 1000), some (.ref 0), some (.ref 68), some (.ref 83), some (.int (nI (6 * k))), o5, o6] [] H' Q) : Wp scr (d + 17) 0 588 [some (.retAddr 1000), some (.ref 0), some (.ref 68), some (.ref 83), some (.int (nI (6 * k))), o5, o6] [] H Q := by
  have hS := hI.1.shp
  obtain ⟨hVg, hVf, hVd, ⟨hl, hl1, ehl⟩, ⟨hFb, ⟨sh, hsh, esh⟩, ⟨up, hup, eup⟩, ⟨g, hg9, eg⟩⟩, hbU, hbK, hz0⟩ := hI.2.2.2.2.2.2.2.2.2
  have hgb : Gb st := ⟨g, by omega, eg⟩
  have b5' : nG ≤ 6 := hI.2.1.mn.2.2.2.2.2.2.2.2.2.1
  have h64 : sh < 64 := Nat.lt_of_lt_of_le hsh (Nat.pow_le_pow_right (by decide) b5')
  have hzG : n = 0 → nG = 0 := fun z => (hz0 z).1
  have hzW : n = 0 → nW = 0 := fun z => (hz0 z).2.1
  have q1 : nI (6 * k) + 1 = nI (6 * k + 1) := ixa (6 * k) 1 (v := 1) rfl
  have b1 : inb (nI (6 * k + 1)) scr.length = true := by rw [inb_nI (by omega)]; exact decide_eq_true (by omega)
  have c1 : (nI (6 * k + 1)).toNatClampNeg = 6 * k + 1 := nI_clamp (by omega)
  simp only [w0_588, w0_589, w0_590, w0_592, w0_593, w0_594, w0_595, w0_598, w0_599, w0_600, w0_602, w0_603, w0_604, w0_605, w0_608, w0_611, w0_612, oK_some, cont_int, cont_intS, cont_none, cont_noneS, cont_long, cont_longS, true_and, and_true, false_and, and_false, true_implies, false_implies, not_true_eq_false, not_false_eq_true, eq_self, or_true, true_or, Option.isSome_some, hpf_length, hpa_length, bI_eq0, fi_hpa, fl_hpa, ar_hpf, fi_hpf_ne, fl_hpf_ne, ar_hpa_ne, hpa_hpa, hpf_hpf, nI_1, two_ne, fokZ, implies_true, Nat.reduceEqDiff, rc_0, rc_68, hS, q1, b1, c1]
  refine C_doubtersIn goC hI.1 hgb (fun H1 hF1 e1 => ?_)
  have s1 := hF1.shp
  simp only [w0_588, w0_589, w0_590, w0_592, w0_593, w0_594, w0_595, w0_598, w0_599, w0_600, w0_602, w0_603, w0_604, w0_605, w0_608, w0_611, w0_612, oK_some, cont_int, cont_intS, cont_none, cont_noneS, cont_long, cont_longS, true_and, and_true, false_and, and_false, true_implies, false_implies, not_true_eq_false, not_false_eq_true, eq_self, or_true, true_or, Option.isSome_some, hpf_length, hpa_length, bI_eq0, fi_hpa, fl_hpa, ar_hpf, fi_hpf_ne, fl_hpf_ne, ar_hpa_ne, hpa_hpa, hpf_hpf, nI_1, two_ne, fokZ, implies_true, Nat.reduceEqDiff, rc_0, rc_68, hF1.len, s1, q1, b1, c1]
  refine M_doubtersIn (hI.2.1.of hF1 (by decide) (by decide) (by decide) (by decide)) (fun H2 hF2 e0 e2 => ?_)
  have s2 := hF2.shp
  simp only [w0_588, w0_589, w0_590, w0_592, w0_593, w0_594, w0_595, w0_598, w0_599, w0_600, w0_602, w0_603, w0_604, w0_605, w0_608, w0_611, w0_612, oK_some, cont_int, cont_intS, cont_none, cont_noneS, cont_long, cont_longS, true_and, and_true, false_and, and_false, true_implies, false_implies, not_true_eq_false, not_false_eq_true, eq_self, or_true, true_or, Option.isSome_some, hpf_length, hpa_length, bI_eq0, fi_hpa, fl_hpa, ar_hpf, fi_hpf_ne, fl_hpf_ne, ar_hpa_ne, hpa_hpa, hpf_hpf, nI_1, two_ne, fokZ, implies_true, Nat.reduceEqDiff, rc_0, rc_68, hF2.len, s2]
  exact hn H2 ⟨R, st, Us, Ks, n, nS, nW, nG, nU, nN, tp, inv_q hI hF1 e1 hF2 e2 (whyF_4 _ _ _)⟩ (by rw [hF2.len, hF1.len]; exact Nat.le_succ _) _ _ h5 h6
theorem law_13 (hI : Ivv H R st Us Ks n nS nW nG nU nN tp) (hk : 6 * k + 6 ≤ scr.length) (hL : scr.length ≤ 3072) (h5 : Oi o5) (h6 : Oi o6) (hn : ∀ H', INV H' → H'.length ≤ H.length + 1 → ∀ o5 o6 : Option Value, Oi o5 → Oi o6 → Wp scr (d + 17) 0 1690 [some (.retAddr 1000), some (.ref 0), some (.ref 68), some (.ref 83), some (.int (nI (6 * k))), o5, o6] [] H' Q) : Wp scr (d + 17) 0 613 [some (.retAddr 1000), some (.ref 0), some (.ref 68), some (.ref 83), some (.int (nI (6 * k))), o5, o6] [] H Q := by
  have hS := hI.1.shp
  obtain ⟨hVg, hVf, hVd, ⟨hl, hl1, ehl⟩, ⟨hFb, ⟨sh, hsh, esh⟩, ⟨up, hup, eup⟩, ⟨g, hg9, eg⟩⟩, hbU, hbK, hz0⟩ := hI.2.2.2.2.2.2.2.2.2
  have hgb : Gb st := ⟨g, by omega, eg⟩
  have b5' : nG ≤ 6 := hI.2.1.mn.2.2.2.2.2.2.2.2.2.1
  have h64 : sh < 64 := Nat.lt_of_lt_of_le hsh (Nat.pow_le_pow_right (by decide) b5')
  have hzG : n = 0 → nG = 0 := fun z => (hz0 z).1
  have hzW : n = 0 → nW = 0 := fun z => (hz0 z).2.1
  have q1 : nI (6 * k) + 1 = nI (6 * k + 1) := ixa (6 * k) 1 (v := 1) rfl
  have b1 : inb (nI (6 * k + 1)) scr.length = true := by rw [inb_nI (by omega)]; exact decide_eq_true (by omega)
  have c1 : (nI (6 * k + 1)).toNatClampNeg = 6 * k + 1 := nI_clamp (by omega)
  simp only [w0_613, w0_614, w0_615, w0_617, w0_618, w0_619, w0_620, w0_623, w0_624, w0_625, w0_627, w0_628, w0_629, w0_630, w0_633, w0_636, w0_637, oK_some, cont_int, cont_intS, cont_none, cont_noneS, cont_long, cont_longS, true_and, and_true, false_and, and_false, true_implies, false_implies, not_true_eq_false, not_false_eq_true, eq_self, or_true, true_or, Option.isSome_some, hpf_length, hpa_length, bI_eq0, fi_hpa, fl_hpa, ar_hpf, fi_hpf_ne, fl_hpf_ne, ar_hpa_ne, hpa_hpa, hpf_hpf, nI_1, two_ne, fokZ, implies_true, Nat.reduceEqDiff, rc_0, rc_68, hS, q1, b1, c1]
  refine C_when hI.1 (fun H1 hF1 e1 => ?_)
  have s1 := hF1.shp
  simp only [w0_613, w0_614, w0_615, w0_617, w0_618, w0_619, w0_620, w0_623, w0_624, w0_625, w0_627, w0_628, w0_629, w0_630, w0_633, w0_636, w0_637, oK_some, cont_int, cont_intS, cont_none, cont_noneS, cont_long, cont_longS, true_and, and_true, false_and, and_false, true_implies, false_implies, not_true_eq_false, not_false_eq_true, eq_self, or_true, true_or, Option.isSome_some, hpf_length, hpa_length, bI_eq0, fi_hpa, fl_hpa, ar_hpf, fi_hpf_ne, fl_hpf_ne, ar_hpa_ne, hpa_hpa, hpf_hpf, nI_1, two_ne, fokZ, implies_true, Nat.reduceEqDiff, rc_0, rc_68, hF1.len, s1, q1, b1, c1]
  refine M_when (hI.2.1.of hF1 (by decide) (by decide) (by decide) (by decide)) (fun H2 hF2 e0 e2 => ?_)
  have s2 := hF2.shp
  simp only [w0_613, w0_614, w0_615, w0_617, w0_618, w0_619, w0_620, w0_623, w0_624, w0_625, w0_627, w0_628, w0_629, w0_630, w0_633, w0_636, w0_637, oK_some, cont_int, cont_intS, cont_none, cont_noneS, cont_long, cont_longS, true_and, and_true, false_and, and_false, true_implies, false_implies, not_true_eq_false, not_false_eq_true, eq_self, or_true, true_or, Option.isSome_some, hpf_length, hpa_length, bI_eq0, fi_hpa, fl_hpa, ar_hpf, fi_hpf_ne, fl_hpf_ne, ar_hpa_ne, hpa_hpa, hpf_hpf, nI_1, two_ne, fokZ, implies_true, Nat.reduceEqDiff, rc_0, rc_68, hF2.len, s2]
  exact hn H2 ⟨R, st, Us, Ks, n, nS, nW, nG, nU, nN, tp, inv_q hI hF1 e1 hF2 e2 (by split <;> decide)⟩ (by rw [hF2.len, hF1.len]; exact Nat.le_succ _) _ _ h5 h6
theorem law_17 (hI : Ivv H R st Us Ks n nS nW nG nU nN tp) (hk : 6 * k + 6 ≤ scr.length) (hL : scr.length ≤ 3072) (h5 : Oi o5) (h6 : Oi o6) (hn : ∀ H', INV H' → H'.length ≤ H.length + 1 → ∀ o5 o6 : Option Value, Oi o5 → Oi o6 → Wp scr (d + 17) 0 1690 [some (.retAddr 1000), some (.ref 0), some (.ref 68), some (.ref 83), some (.int (nI (6 * k))), o5, o6] [] H' Q) : Wp scr (d + 17) 0 677 [some (.retAddr 1000), some (.ref 0), some (.ref 68), some (.ref 83), some (.int (nI (6 * k))), o5, o6] [] H Q := by
  have hS := hI.1.shp
  obtain ⟨hVg, hVf, hVd, ⟨hl, hl1, ehl⟩, ⟨hFb, ⟨sh, hsh, esh⟩, ⟨up, hup, eup⟩, ⟨g, hg9, eg⟩⟩, hbU, hbK, hz0⟩ := hI.2.2.2.2.2.2.2.2.2
  have hgb : Gb st := ⟨g, by omega, eg⟩
  have b5' : nG ≤ 6 := hI.2.1.mn.2.2.2.2.2.2.2.2.2.1
  have h64 : sh < 64 := Nat.lt_of_lt_of_le hsh (Nat.pow_le_pow_right (by decide) b5')
  have hzG : n = 0 → nG = 0 := fun z => (hz0 z).1
  have hzW : n = 0 → nW = 0 := fun z => (hz0 z).2.1
  have q1 : nI (6 * k) + 1 = nI (6 * k + 1) := ixa (6 * k) 1 (v := 1) rfl
  have b1 : inb (nI (6 * k + 1)) scr.length = true := by rw [inb_nI (by omega)]; exact decide_eq_true (by omega)
  have c1 : (nI (6 * k + 1)).toNatClampNeg = 6 * k + 1 := nI_clamp (by omega)
  simp only [w0_677, w0_678, w0_679, w0_681, w0_682, w0_683, w0_684, w0_687, w0_688, w0_689, w0_691, w0_692, w0_693, w0_694, w0_697, w0_700, w0_701, oK_some, cont_int, cont_intS, cont_none, cont_noneS, cont_long, cont_longS, true_and, and_true, false_and, and_false, true_implies, false_implies, not_true_eq_false, not_false_eq_true, eq_self, or_true, true_or, Option.isSome_some, hpf_length, hpa_length, bI_eq0, fi_hpa, fl_hpa, ar_hpf, fi_hpf_ne, fl_hpf_ne, ar_hpa_ne, hpa_hpa, hpf_hpf, nI_1, two_ne, fokZ, implies_true, Nat.reduceEqDiff, rc_0, rc_68, hS, q1, b1, c1]
  refine C_harvest hI.1 (fun H1 hF1 e1 => ?_)
  have s1 := hF1.shp
  simp only [w0_677, w0_678, w0_679, w0_681, w0_682, w0_683, w0_684, w0_687, w0_688, w0_689, w0_691, w0_692, w0_693, w0_694, w0_697, w0_700, w0_701, oK_some, cont_int, cont_intS, cont_none, cont_noneS, cont_long, cont_longS, true_and, and_true, false_and, and_false, true_implies, false_implies, not_true_eq_false, not_false_eq_true, eq_self, or_true, true_or, Option.isSome_some, hpf_length, hpa_length, bI_eq0, fi_hpa, fl_hpa, ar_hpf, fi_hpf_ne, fl_hpf_ne, ar_hpa_ne, hpa_hpa, hpf_hpf, nI_1, two_ne, fokZ, implies_true, Nat.reduceEqDiff, rc_0, rc_68, hF1.len, s1, q1, b1, c1]
  refine M_harvest (hI.2.1.of hF1 (by decide) (by decide) (by decide) (by decide)) (fun H2 hF2 e0 e2 => ?_)
  have s2 := hF2.shp
  simp only [w0_677, w0_678, w0_679, w0_681, w0_682, w0_683, w0_684, w0_687, w0_688, w0_689, w0_691, w0_692, w0_693, w0_694, w0_697, w0_700, w0_701, oK_some, cont_int, cont_intS, cont_none, cont_noneS, cont_long, cont_longS, true_and, and_true, false_and, and_false, true_implies, false_implies, not_true_eq_false, not_false_eq_true, eq_self, or_true, true_or, Option.isSome_some, hpf_length, hpa_length, bI_eq0, fi_hpa, fl_hpa, ar_hpf, fi_hpf_ne, fl_hpf_ne, ar_hpa_ne, hpa_hpa, hpf_hpf, nI_1, two_ne, fokZ, implies_true, Nat.reduceEqDiff, rc_0, rc_68, hF2.len, s2]
  exact hn H2 ⟨R, st, Us, Ks, n, nS, nW, nG, nU, nN, tp, inv_q hI hF1 e1 hF2 e2 (whyF_4 _ _ _)⟩ (by rw [hF2.len, hF1.len]; exact Nat.le_succ _) _ _ h5 h6
theorem law_18 (hI : Ivv H R st Us Ks n nS nW nG nU nN tp) (hk : 6 * k + 6 ≤ scr.length) (hL : scr.length ≤ 3072) (h5 : Oi o5) (h6 : Oi o6) (hn : ∀ H', INV H' → H'.length ≤ H.length + 1 → ∀ o5 o6 : Option Value, Oi o5 → Oi o6 → Wp scr (d + 17) 0 1690 [some (.retAddr 1000), some (.ref 0), some (.ref 68), some (.ref 83), some (.int (nI (6 * k))), o5, o6] [] H' Q) : Wp scr (d + 17) 0 702 [some (.retAddr 1000), some (.ref 0), some (.ref 68), some (.ref 83), some (.int (nI (6 * k))), o5, o6] [] H Q := by
  have hS := hI.1.shp
  obtain ⟨hVg, hVf, hVd, ⟨hl, hl1, ehl⟩, ⟨hFb, ⟨sh, hsh, esh⟩, ⟨up, hup, eup⟩, ⟨g, hg9, eg⟩⟩, hbU, hbK, hz0⟩ := hI.2.2.2.2.2.2.2.2.2
  have hgb : Gb st := ⟨g, by omega, eg⟩
  have b5' : nG ≤ 6 := hI.2.1.mn.2.2.2.2.2.2.2.2.2.1
  have h64 : sh < 64 := Nat.lt_of_lt_of_le hsh (Nat.pow_le_pow_right (by decide) b5')
  have hzG : n = 0 → nG = 0 := fun z => (hz0 z).1
  have hzW : n = 0 → nW = 0 := fun z => (hz0 z).2.1
  have q1 : nI (6 * k) + 1 = nI (6 * k + 1) := ixa (6 * k) 1 (v := 1) rfl
  have b1 : inb (nI (6 * k + 1)) scr.length = true := by rw [inb_nI (by omega)]; exact decide_eq_true (by omega)
  have c1 : (nI (6 * k + 1)).toNatClampNeg = 6 * k + 1 := nI_clamp (by omega)
  simp only [w0_702, w0_703, w0_704, w0_706, w0_707, w0_708, w0_709, w0_712, w0_713, w0_714, w0_716, w0_717, w0_718, w0_719, w0_722, w0_725, w0_726, oK_some, cont_int, cont_intS, cont_none, cont_noneS, cont_long, cont_longS, true_and, and_true, false_and, and_false, true_implies, false_implies, not_true_eq_false, not_false_eq_true, eq_self, or_true, true_or, Option.isSome_some, hpf_length, hpa_length, bI_eq0, fi_hpa, fl_hpa, ar_hpf, fi_hpf_ne, fl_hpf_ne, ar_hpa_ne, hpa_hpa, hpf_hpf, nI_1, two_ne, fokZ, implies_true, Nat.reduceEqDiff, rc_0, rc_68, hS, q1, b1, c1]
  refine C_reach hI.1 (fun H1 hF1 e1 => ?_)
  have s1 := hF1.shp
  simp only [w0_702, w0_703, w0_704, w0_706, w0_707, w0_708, w0_709, w0_712, w0_713, w0_714, w0_716, w0_717, w0_718, w0_719, w0_722, w0_725, w0_726, oK_some, cont_int, cont_intS, cont_none, cont_noneS, cont_long, cont_longS, true_and, and_true, false_and, and_false, true_implies, false_implies, not_true_eq_false, not_false_eq_true, eq_self, or_true, true_or, Option.isSome_some, hpf_length, hpa_length, bI_eq0, fi_hpa, fl_hpa, ar_hpf, fi_hpf_ne, fl_hpf_ne, ar_hpa_ne, hpa_hpa, hpf_hpf, nI_1, two_ne, fokZ, implies_true, Nat.reduceEqDiff, rc_0, rc_68, hF1.len, s1, q1, b1, c1]
  refine M_reach (hI.2.1.of hF1 (by decide) (by decide) (by decide) (by decide)) (fun H2 hF2 e0 e2 => ?_)
  have s2 := hF2.shp
  simp only [w0_702, w0_703, w0_704, w0_706, w0_707, w0_708, w0_709, w0_712, w0_713, w0_714, w0_716, w0_717, w0_718, w0_719, w0_722, w0_725, w0_726, oK_some, cont_int, cont_intS, cont_none, cont_noneS, cont_long, cont_longS, true_and, and_true, false_and, and_false, true_implies, false_implies, not_true_eq_false, not_false_eq_true, eq_self, or_true, true_or, Option.isSome_some, hpf_length, hpa_length, bI_eq0, fi_hpa, fl_hpa, ar_hpf, fi_hpf_ne, fl_hpf_ne, ar_hpa_ne, hpa_hpa, hpf_hpf, nI_1, two_ne, fokZ, implies_true, Nat.reduceEqDiff, rc_0, rc_68, hF2.len, s2]
  exact hn H2 ⟨R, st, Us, Ks, n, nS, nW, nG, nU, nN, tp, inv_q hI hF1 e1 hF2 e2 (by split <;> decide)⟩ (by rw [hF2.len, hF1.len]; exact Nat.le_succ _) _ _ h5 h6
theorem law_19 (hI : Ivv H R st Us Ks n nS nW nG nU nN tp) (hk : 6 * k + 6 ≤ scr.length) (hL : scr.length ≤ 3072) (h5 : Oi o5) (h6 : Oi o6) (hn : ∀ H', INV H' → H'.length ≤ H.length + 1 → ∀ o5 o6 : Option Value, Oi o5 → Oi o6 → Wp scr (d + 17) 0 1690 [some (.retAddr 1000), some (.ref 0), some (.ref 68), some (.ref 83), some (.int (nI (6 * k))), o5, o6] [] H' Q) : Wp scr (d + 17) 0 727 [some (.retAddr 1000), some (.ref 0), some (.ref 68), some (.ref 83), some (.int (nI (6 * k))), o5, o6] [] H Q := by
  have hS := hI.1.shp
  obtain ⟨hVg, hVf, hVd, ⟨hl, hl1, ehl⟩, ⟨hFb, ⟨sh, hsh, esh⟩, ⟨up, hup, eup⟩, ⟨g, hg9, eg⟩⟩, hbU, hbK, hz0⟩ := hI.2.2.2.2.2.2.2.2.2
  have hgb : Gb st := ⟨g, by omega, eg⟩
  have b5' : nG ≤ 6 := hI.2.1.mn.2.2.2.2.2.2.2.2.2.1
  have h64 : sh < 64 := Nat.lt_of_lt_of_le hsh (Nat.pow_le_pow_right (by decide) b5')
  have hzG : n = 0 → nG = 0 := fun z => (hz0 z).1
  have hzW : n = 0 → nW = 0 := fun z => (hz0 z).2.1
  have q1 : nI (6 * k) + 1 = nI (6 * k + 1) := ixa (6 * k) 1 (v := 1) rfl
  have b1 : inb (nI (6 * k + 1)) scr.length = true := by rw [inb_nI (by omega)]; exact decide_eq_true (by omega)
  have c1 : (nI (6 * k + 1)).toNatClampNeg = 6 * k + 1 := nI_clamp (by omega)
  simp only [w0_727, w0_728, w0_729, w0_731, w0_732, w0_733, w0_734, w0_737, w0_738, w0_739, w0_741, w0_742, w0_743, w0_744, w0_747, w0_750, w0_751, oK_some, cont_int, cont_intS, cont_none, cont_noneS, cont_long, cont_longS, true_and, and_true, false_and, and_false, true_implies, false_implies, not_true_eq_false, not_false_eq_true, eq_self, or_true, true_or, Option.isSome_some, hpf_length, hpa_length, bI_eq0, fi_hpa, fl_hpa, ar_hpf, fi_hpf_ne, fl_hpf_ne, ar_hpa_ne, hpa_hpa, hpf_hpf, nI_1, two_ne, fokZ, implies_true, Nat.reduceEqDiff, rc_0, rc_68, hS, q1, b1, c1]
  refine C_feign goC hI.1 hgb esh hsh (fun H1 hF1 e1 => ?_)
  have s1 := hF1.shp
  simp only [w0_727, w0_728, w0_729, w0_731, w0_732, w0_733, w0_734, w0_737, w0_738, w0_739, w0_741, w0_742, w0_743, w0_744, w0_747, w0_750, w0_751, oK_some, cont_int, cont_intS, cont_none, cont_noneS, cont_long, cont_longS, true_and, and_true, false_and, and_false, true_implies, false_implies, not_true_eq_false, not_false_eq_true, eq_self, or_true, true_or, Option.isSome_some, hpf_length, hpa_length, bI_eq0, fi_hpa, fl_hpa, ar_hpf, fi_hpf_ne, fl_hpf_ne, ar_hpa_ne, hpa_hpa, hpf_hpf, nI_1, two_ne, fokZ, implies_true, Nat.reduceEqDiff, rc_0, rc_68, hF1.len, s1, q1, b1, c1]
  refine M_feign (hI.2.1.of hF1 (by decide) (by decide) (by decide) (by decide)) (fun H2 hF2 e0 e2 => ?_)
  have s2 := hF2.shp
  simp only [w0_727, w0_728, w0_729, w0_731, w0_732, w0_733, w0_734, w0_737, w0_738, w0_739, w0_741, w0_742, w0_743, w0_744, w0_747, w0_750, w0_751, oK_some, cont_int, cont_intS, cont_none, cont_noneS, cont_long, cont_longS, true_and, and_true, false_and, and_false, true_implies, false_implies, not_true_eq_false, not_false_eq_true, eq_self, or_true, true_or, Option.isSome_some, hpf_length, hpa_length, bI_eq0, fi_hpa, fl_hpa, ar_hpf, fi_hpf_ne, fl_hpf_ne, ar_hpa_ne, hpa_hpa, hpf_hpf, nI_1, two_ne, fokZ, implies_true, Nat.reduceEqDiff, rc_0, rc_68, hF2.len, s2]
  exact hn H2 ⟨R, st, Us, Ks, n, nS, nW, nG, nU, nN, tp, inv_q hI hF1 e1 hF2 e2 (whyF_4 _ _ _)⟩ (by rw [hF2.len, hF1.len]; exact Nat.le_succ _) _ _ h5 h6
theorem law_20 (hI : Ivv H R st Us Ks n nS nW nG nU nN tp) (hk : 6 * k + 6 ≤ scr.length) (hL : scr.length ≤ 3072) (h5 : Oi o5) (h6 : Oi o6) (hn : ∀ H', INV H' → H'.length ≤ H.length + 1 → ∀ o5 o6 : Option Value, Oi o5 → Oi o6 → Wp scr (d + 17) 0 1690 [some (.retAddr 1000), some (.ref 0), some (.ref 68), some (.ref 83), some (.int (nI (6 * k))), o5, o6] [] H' Q) : Wp scr (d + 17) 0 752 [some (.retAddr 1000), some (.ref 0), some (.ref 68), some (.ref 83), some (.int (nI (6 * k))), o5, o6] [] H Q := by
  have hS := hI.1.shp
  obtain ⟨hVg, hVf, hVd, ⟨hl, hl1, ehl⟩, ⟨hFb, ⟨sh, hsh, esh⟩, ⟨up, hup, eup⟩, ⟨g, hg9, eg⟩⟩, hbU, hbK, hz0⟩ := hI.2.2.2.2.2.2.2.2.2
  have hgb : Gb st := ⟨g, by omega, eg⟩
  have b5' : nG ≤ 6 := hI.2.1.mn.2.2.2.2.2.2.2.2.2.1
  have h64 : sh < 64 := Nat.lt_of_lt_of_le hsh (Nat.pow_le_pow_right (by decide) b5')
  have hzG : n = 0 → nG = 0 := fun z => (hz0 z).1
  have hzW : n = 0 → nW = 0 := fun z => (hz0 z).2.1
  have q1 : nI (6 * k) + 1 = nI (6 * k + 1) := ixa (6 * k) 1 (v := 1) rfl
  have b1 : inb (nI (6 * k + 1)) scr.length = true := by rw [inb_nI (by omega)]; exact decide_eq_true (by omega)
  have c1 : (nI (6 * k + 1)).toNatClampNeg = 6 * k + 1 := nI_clamp (by omega)
  simp only [w0_752, w0_753, w0_754, w0_756, w0_757, w0_758, w0_759, w0_762, w0_763, w0_764, w0_766, w0_767, w0_768, w0_769, w0_772, w0_775, w0_776, oK_some, cont_int, cont_intS, cont_none, cont_noneS, cont_long, cont_longS, true_and, and_true, false_and, and_false, true_implies, false_implies, not_true_eq_false, not_false_eq_true, eq_self, or_true, true_or, Option.isSome_some, hpf_length, hpa_length, bI_eq0, fi_hpa, fl_hpa, ar_hpf, fi_hpf_ne, fl_hpf_ne, ar_hpa_ne, hpa_hpa, hpf_hpf, nI_1, two_ne, fokZ, implies_true, Nat.reduceEqDiff, rc_0, rc_68, hS, q1, b1, c1]
  refine C_feignSigns goC hI.1 hgb esh hsh (fun H1 hF1 e1 => ?_)
  have s1 := hF1.shp
  simp only [w0_752, w0_753, w0_754, w0_756, w0_757, w0_758, w0_759, w0_762, w0_763, w0_764, w0_766, w0_767, w0_768, w0_769, w0_772, w0_775, w0_776, oK_some, cont_int, cont_intS, cont_none, cont_noneS, cont_long, cont_longS, true_and, and_true, false_and, and_false, true_implies, false_implies, not_true_eq_false, not_false_eq_true, eq_self, or_true, true_or, Option.isSome_some, hpf_length, hpa_length, bI_eq0, fi_hpa, fl_hpa, ar_hpf, fi_hpf_ne, fl_hpf_ne, ar_hpa_ne, hpa_hpa, hpf_hpf, nI_1, two_ne, fokZ, implies_true, Nat.reduceEqDiff, rc_0, rc_68, hF1.len, s1, q1, b1, c1]
  refine M_feignSigns (hI.2.1.of hF1 (by decide) (by decide) (by decide) (by decide)) (fun H2 hF2 e0 e2 => ?_)
  have s2 := hF2.shp
  simp only [w0_752, w0_753, w0_754, w0_756, w0_757, w0_758, w0_759, w0_762, w0_763, w0_764, w0_766, w0_767, w0_768, w0_769, w0_772, w0_775, w0_776, oK_some, cont_int, cont_intS, cont_none, cont_noneS, cont_long, cont_longS, true_and, and_true, false_and, and_false, true_implies, false_implies, not_true_eq_false, not_false_eq_true, eq_self, or_true, true_or, Option.isSome_some, hpf_length, hpa_length, bI_eq0, fi_hpa, fl_hpa, ar_hpf, fi_hpf_ne, fl_hpf_ne, ar_hpa_ne, hpa_hpa, hpf_hpf, nI_1, two_ne, fokZ, implies_true, Nat.reduceEqDiff, rc_0, rc_68, hF2.len, s2]
  exact hn H2 ⟨R, st, Us, Ks, n, nS, nW, nG, nU, nN, tp, inv_q hI hF1 e1 hF2 e2 (whyF_4 _ _ _)⟩ (by rw [hF2.len, hF1.len]; exact Nat.le_succ _) _ _ h5 h6
theorem law_21 (hI : Ivv H R st Us Ks n nS nW nG nU nN tp) (hk : 6 * k + 6 ≤ scr.length) (hL : scr.length ≤ 3072) (h5 : Oi o5) (h6 : Oi o6) (hn : ∀ H', INV H' → H'.length ≤ H.length + 1 → ∀ o5 o6 : Option Value, Oi o5 → Oi o6 → Wp scr (d + 17) 0 1690 [some (.retAddr 1000), some (.ref 0), some (.ref 68), some (.ref 83), some (.int (nI (6 * k))), o5, o6] [] H' Q) : Wp scr (d + 17) 0 777 [some (.retAddr 1000), some (.ref 0), some (.ref 68), some (.ref 83), some (.int (nI (6 * k))), o5, o6] [] H Q := by
  have hS := hI.1.shp
  obtain ⟨hVg, hVf, hVd, ⟨hl, hl1, ehl⟩, ⟨hFb, ⟨sh, hsh, esh⟩, ⟨up, hup, eup⟩, ⟨g, hg9, eg⟩⟩, hbU, hbK, hz0⟩ := hI.2.2.2.2.2.2.2.2.2
  have hgb : Gb st := ⟨g, by omega, eg⟩
  have b5' : nG ≤ 6 := hI.2.1.mn.2.2.2.2.2.2.2.2.2.1
  have h64 : sh < 64 := Nat.lt_of_lt_of_le hsh (Nat.pow_le_pow_right (by decide) b5')
  have hzG : n = 0 → nG = 0 := fun z => (hz0 z).1
  have hzW : n = 0 → nW = 0 := fun z => (hz0 z).2.1
  have q1 : nI (6 * k) + 1 = nI (6 * k + 1) := ixa (6 * k) 1 (v := 1) rfl
  have b1 : inb (nI (6 * k + 1)) scr.length = true := by rw [inb_nI (by omega)]; exact decide_eq_true (by omega)
  have c1 : (nI (6 * k + 1)).toNatClampNeg = 6 * k + 1 := nI_clamp (by omega)
  have q2 : nI (6 * k) + 2 = nI (6 * k + 2) := ixa (6 * k) 2 (v := 2) rfl
  have b2 : inb (nI (6 * k + 2)) scr.length = true := by rw [inb_nI (by omega)]; exact decide_eq_true (by omega)
  have c2 : (nI (6 * k + 2)).toNatClampNeg = 6 * k + 2 := nI_clamp (by omega)
  simp only [w0_777, w0_778, w0_779, w0_781, w0_782, w0_783, w0_784, w0_785, w0_787, w0_788, w0_789, w0_790, w0_793, w0_794, w0_795, w0_797, w0_798, w0_799, w0_800, w0_801, w0_803, w0_804, w0_805, w0_806, w0_809, w0_812, w0_813, oK_some, cont_int, cont_intS, cont_none, cont_noneS, cont_long, cont_longS, true_and, and_true, false_and, and_false, true_implies, false_implies, not_true_eq_false, not_false_eq_true, eq_self, or_true, true_or, Option.isSome_some, hpf_length, hpa_length, bI_eq0, fi_hpa, fl_hpa, ar_hpf, fi_hpf_ne, fl_hpf_ne, ar_hpa_ne, hpa_hpa, hpf_hpf, nI_1, two_ne, fokZ, implies_true, Nat.reduceEqDiff, rc_0, rc_68, hS, q1, b1, c1, q2, b2, c2]
  refine C_feignFor goC hI.1 hgb esh hsh (fun H1 hF1 e1 => ?_)
  have s1 := hF1.shp
  simp only [w0_777, w0_778, w0_779, w0_781, w0_782, w0_783, w0_784, w0_785, w0_787, w0_788, w0_789, w0_790, w0_793, w0_794, w0_795, w0_797, w0_798, w0_799, w0_800, w0_801, w0_803, w0_804, w0_805, w0_806, w0_809, w0_812, w0_813, oK_some, cont_int, cont_intS, cont_none, cont_noneS, cont_long, cont_longS, true_and, and_true, false_and, and_false, true_implies, false_implies, not_true_eq_false, not_false_eq_true, eq_self, or_true, true_or, Option.isSome_some, hpf_length, hpa_length, bI_eq0, fi_hpa, fl_hpa, ar_hpf, fi_hpf_ne, fl_hpf_ne, ar_hpa_ne, hpa_hpa, hpf_hpf, nI_1, two_ne, fokZ, implies_true, Nat.reduceEqDiff, rc_0, rc_68, hF1.len, s1, q1, b1, c1, q2, b2, c2]
  refine M_feignFor (hI.2.1.of hF1 (by decide) (by decide) (by decide) (by decide)) (fun H2 hF2 e0 e2 => ?_)
  have s2 := hF2.shp
  simp only [w0_777, w0_778, w0_779, w0_781, w0_782, w0_783, w0_784, w0_785, w0_787, w0_788, w0_789, w0_790, w0_793, w0_794, w0_795, w0_797, w0_798, w0_799, w0_800, w0_801, w0_803, w0_804, w0_805, w0_806, w0_809, w0_812, w0_813, oK_some, cont_int, cont_intS, cont_none, cont_noneS, cont_long, cont_longS, true_and, and_true, false_and, and_false, true_implies, false_implies, not_true_eq_false, not_false_eq_true, eq_self, or_true, true_or, Option.isSome_some, hpf_length, hpa_length, bI_eq0, fi_hpa, fl_hpa, ar_hpf, fi_hpf_ne, fl_hpf_ne, ar_hpa_ne, hpa_hpa, hpf_hpf, nI_1, two_ne, fokZ, implies_true, Nat.reduceEqDiff, rc_0, rc_68, hF2.len, s2]
  exact hn H2 ⟨R, st, Us, Ks, n, nS, nW, nG, nU, nN, tp, inv_q hI hF1 e1 hF2 e2 (whyF_4 _ _ _)⟩ (by rw [hF2.len, hF1.len]; exact Nat.le_succ _) _ _ h5 h6
end LAW1
