/-! ===== the Model: undo, image, back, led, size, feed ===== -/
theorem fil_at {p : Nat → Bool} {k : Nat} (hp : p k = true) : ∀ n, k < n → ((List.range n).filter p)[((List.range k).filter p).length]? = some k
  | 0, h => absurd h (Nat.not_lt_zero _)
  | n + 1, h => by
    rw [List.range_succ, List.filter_append]
    by_cases e : k = n
    · subst e
      have : [k].filter p = [k] := by simp [hp]
      rw [this, List.getElem?_append_right (Nat.le_refl _), Nat.sub_self]
      rfl
    · have ih := fil_at (p := p) hp n (by omega)
      have hl : ((List.range k).filter p).length < ((List.range n).filter p).length := (List.getElem?_eq_some_iff.mp ih).1
      rw [List.getElem?_append_left hl, ih]
theorem fil_succ {p : Nat → Bool} {k : Nat} : ((List.range (k + 1)).filter p).length = ((List.range k).filter p).length + (if p k = true then 1 else 0) := by
  rw [List.range_succ, List.filter_append, List.length_append]
  congr 1
  cases h : p k
  · simp [h]
  · simp [h]
theorem fil_le {p : Nat → Bool} {k : Nat} : ((List.range k).filter p).length ≤ k := by
  have := List.length_filter_le p (List.range k)
  rwa [List.length_range] at this
/-- the i-th row that doubts -/
def ledO (st : List Int32) (n : Nat) (i : Int32) : Option Nat := if i < 0 then none else ((List.range n).filter (fun k => decide (st.getD k 0 < 10)))[i.toNatClampNeg]?
def szM (R st : List Int32) (n : Nat) (tp us ks what : Int32) : Int32 := if what = 11 then tp else if 0 < n then (if 0 ≤ what ∧ what ≤ 7 then rg R what.toNatClampNeg else if what = 8 then st.getD 9 0 else if what = 9 then us else if what = 10 then ks else -1) else if 0 ≤ what ∧ what ≤ 10 then 0 else -1
/-- the bytes that are fed -/
def fdV (a b c e f : Int32) (k : Nat) : Int32 := ((if k < 4 then a else if k < 8 then b else if k < 12 then c else if k < 16 then e else f) >>> (nI (24 - 8 * (k % 4)) &&& 31)) &&& 255
def fdT (a b c e f : Int32) (t : Nat) (m : Nat) (xs : List Int32) : List Int32 := forN (fun k ys => ys.set (t + k) (fdV a b c e f k)) m xs
theorem fdT_len {a b c e f : Int32} {t m : Nat} {xs : List Int32} : (fdT a b c e f t m xs).length = xs.length := forN_len (fun k zs => by simp) m xs
theorem cpy_row {xs ys s : List Int32} {p : Nat} (hy : ys.length = 10) (hs : s.length = 10) (h : ∀ j, j < 10 → xs.getD (p + j) 0 = s.getD j 0) : cpy xs p ys 0 10 = s := by
  apply ext_getD
  · rw [cpy_len, hy, hs]
  · intro j hj
    rw [cpy_getD _ (by omega), if_pos (by omega), show p + (j - 0) = p + j by omega, h j (by omega)]
section MODELL
variable {scr : List Int32} {d n nS nW nG nU nN w : Nat} {H : List AC} {R st : List Int32} {Us Ks : List (List Int32)} {Q : Option Value → List AC → Prop}
theorem M_undo (hI : MIv H R st n nS nW nG nU nN) (hU : MUn H Us) (hK : MIm H Ks) (hQ : MA H Q (if Us.length = 0 then 0 else 1) (if Us.length = 0 then 6 else 0) (if Us.length = 0 then st else Us.getD (Us.length - 1) []) (Us.take (Us.length - 1)) Ks) : Wp scr (d + 2) 299 0 [some (.ref 68)] [] H Q := by
  have hS := hI.shp
  have hg := gd_fg hS
  have hI1 := hI.q hg
  have hs1 := hI1.shp
  have hM1 : Mn (ar (gd H) 71) n nS nW nG nU nN := by rw [hI1.2.1]; exact hI1.mn
  have h14 := hI1.2.2.2.2
  have e73 := hI1.2.2.1
  have rgR : ∀ j, R.getD j 0 = rg R j := fun _ => rfl
  have l73 := hI1.l
  obtain ⟨c2, c3, c4, c5, c6, c7, b2, b3, b4, b5, b6, b7⟩ := hI1.mn
  obtain ⟨u1, u2, u3⟩ := gd_un hS hU
  have e0 : (nI Us.length = 0) = (Us.length = 0) := propext (nI_eq (b := 0) (by omega) (by decide))
  by_cases hz : Us.length = 0
  · have eu : Us.take (Us.length - 1) = Us := by
      rw [List.length_eq_zero_iff] at hz
      subst hz
      rfl
    rw [if_pos hz, if_pos hz, if_pos hz, eu] at hQ
    simp (maxDischargeDepth := 12) only [w299_0, w299_1, w299_4, w299_5, w299_8, w299_11, w299_12, w299_14, w299_17, w299_18, w299_19, w299_20, w299_23, w299_24, w299_25, w299_28, w299_29, w299_32, w299_34, w299_35, w299_38, w299_39, w299_40, w299_43, w299_44, w299_46, w299_49, w299_50, oK_some, cont_int, cont_intS, cont_none, cont_noneS, cont_long, cont_longS, true_and, and_true, false_and, and_false, true_implies, false_implies, not_true_eq_false, not_false_eq_true, eq_self, or_true, true_or, Option.isSome_some, hpf_length, hpa_length, bI_eq0, fi_hpa, fl_hpa, ar_hpf, fi_hpf_ne, fl_hpf_ne, ar_hpa_ne, hpa_hpa, hpf_hpf, nI_1, two_ne, fokZ, implies_true, Nat.reduceEqDiff, rc_68, g_68_20, sf_68_20, fe_68_20, g_68_18, ga_74, gn_74, sa_74, ae_74, g_68_17, ga_73, gn_73, sa_73, ae_73, kl_0, kl_1, kl_2, kl_3, kl_4, kl_5, kl_6, kl_7, kl_8, kl_9, kl_10, kl_11, kl_12, jb_0_160, jb_1_160, jb_2_160, jb_3_160, jb_4_160, jb_5_160, jb_6_160, jb_7_160, jb_8_160, jb_9_160, jb_10_160, jb_11_160, jb_12_160, jb_0_10, jb_1_10, jb_2_10, jb_3_10, jb_4_10, jb_5_10, jb_6_10, jb_7_10, jb_8_10, jb_9_10, hS, m_good, gd_len, hs1, h14, e73, l73, hI1.2.1, rgR, hI1.lr, m_no, decide_eq_false_iff_not, gn_71, jb_7_10, jb_8_10, jb_9_10, u1, hz, show (nI 0 = 0) = True from eq_true rfl, m_isNot]
    exact ma_no hI hU hK hQ
  · rw [if_neg hz, if_neg hz, if_neg hz] at hQ
    have e1 : nI Us.length - 1 = nI (Us.length - 1) := pk_sub (b := 1) (by omega)
    have hs2 := sf_68_20 (v := nI (Us.length - 1)) hs1
    have e10 : (10 : Int32) * nI (Us.length - 1) = nI (10 * (Us.length - 1)) := by rw [show (10 : Int32) = nI 10 from rfl, pk_mul]
    obtain ⟨r1, r2⟩ := u3 (Us.length - 1) (by omega)
    have a74 : ar (hpf (gd H) 68 20 (.int (nI (Us.length - 1)))) 74 = ar (gd H) 74 := ar_hpf
    have a73 : ar (hpf (gd H) 68 20 (.int (nI (Us.length - 1)))) 73 = st := by rw [ar_hpf, e73]
    simp (maxDischargeDepth := 12) only [w299_0, w299_1, w299_4, w299_5, w299_8, w299_11, w299_12, w299_14, w299_17, w299_18, w299_19, w299_20, w299_23, w299_24, w299_25, w299_28, w299_29, w299_32, w299_34, w299_35, w299_38, w299_39, w299_40, w299_43, w299_44, w299_46, w299_49, w299_50, oK_some, cont_int, cont_intS, cont_none, cont_noneS, cont_long, cont_longS, true_and, and_true, false_and, and_false, true_implies, false_implies, not_true_eq_false, not_false_eq_true, eq_self, or_true, true_or, Option.isSome_some, hpf_length, hpa_length, bI_eq0, fi_hpa, fl_hpa, ar_hpf, fi_hpf_ne, fl_hpf_ne, ar_hpa_ne, hpa_hpa, hpf_hpf, nI_1, two_ne, fokZ, implies_true, Nat.reduceEqDiff, rc_68, g_68_20, sf_68_20, fe_68_20, g_68_18, ga_74, gn_74, sa_74, ae_74, g_68_17, ga_73, gn_73, sa_73, ae_73, kl_0, kl_1, kl_2, kl_3, kl_4, kl_5, kl_6, kl_7, kl_8, kl_9, kl_10, kl_11, kl_12, jb_0_160, jb_1_160, jb_2_160, jb_3_160, jb_4_160, jb_5_160, jb_6_160, jb_7_160, jb_8_160, jb_9_160, jb_10_160, jb_11_160, jb_12_160, jb_0_10, jb_1_10, jb_2_10, jb_3_10, jb_4_10, jb_5_10, jb_6_10, jb_7_10, jb_8_10, jb_9_10, hS, m_good, gd_len, hs1, h14, e73, l73, hI1.2.1, rgR, hI1.lr, m_no, decide_eq_false_iff_not, gn_71, jb_7_10, jb_8_10, jb_9_10, u1, e0, hz, e1, hs2, e10, m_copy (p := 10 * (Us.length - 1)) (q := 0) (m := 10) (v1 := nI (10 * (Us.length - 1))) (v2 := 0) (v3 := 10) rfl rfl rfl (ga_74 hs2) (ga_73 hs2) (by decide) (by rw [gn_74 hs2]; omega) (by rw [gn_73 hs2]; decide) (by rw [gn_74 hs2]; decide) (by rw [gn_73 hs2]; decide), a74, a73]
    rw [cpy_row l73 r1 r2]
    have hF3 : Fg [73] [(68, 20)] (gd H) (hpa (hpf (gd H) 68 20 (.int (nI (Us.length - 1)))) 73 (Us.getD (Us.length - 1) [])) := ((fg_hpf (a := 68) (f := 20) (ci := 12) hs1 rfl (by decide))).trans (fg_hpa hs2 (by rw [r1, gn_73 hs2]) (by decide))
    refine hQ _ ((gd_fga hS).trans (hF3.mono (by decide) (by decide))) ?_ ?_ (ae_73 hs2) ⟨?_, ?_, ?_⟩ ((gd_im hS hK).of hF3 (by decide) (by decide) (by decide))
    · rw [hF3.int (by decide) (by decide), gd_0 hS]
    · rw [hF3.int (by decide) (by decide), gd_11 hS]
    · rw [fi_hpa, fe_68_20 hs1, List.length_take, Nat.min_eq_left (by omega)]
    · rw [List.length_take]; omega
    · intro i hi
      rw [List.length_take] at hi
      have et : (Us.take (Us.length - 1)).getD i [] = Us.getD i [] := by rw [List.getD_eq_getElem?_getD, List.getD_eq_getElem?_getD, List.getElem?_take, if_pos (by omega)]
      rw [et, ar_hpa_ne (by decide), ar_hpf]
      exact u3 i (by omega)
def imT (n : Nat) (Ks : List (List Int32)) : Int32 := if 0 < n then (if Ks.length = 3 then 3 else 0) else 1
theorem M_image (hI : MIv H R st n nS nW nG nU nN) (hU : MUn H Us) (hK : MIm H Ks) (hQ : MA H Q (if imT n Ks = 0 then nI Ks.length else -1) (imT n Ks) st Us (if imT n Ks = 0 then Ks ++ [st] else Ks)) : Wp scr (d + 2) 300 0 [some (.ref 68)] [] H Q := by
  have hS := hI.shp
  have hg := gd_fg hS
  have hI1 := hI.q hg
  have hs1 := hI1.shp
  have hM1 : Mn (ar (gd H) 71) n nS nW nG nU nN := by rw [hI1.2.1]; exact hI1.mn
  have h14 := hI1.2.2.2.2
  have e73 := hI1.2.2.1
  have rgR : ∀ j, R.getD j 0 = rg R j := fun _ => rfl
  have l73 := hI1.l
  obtain ⟨c2, c3, c4, c5, c6, c7, b2, b3, b4, b5, b6, b7⟩ := hI1.mn
  obtain ⟨k1, k2, k3⟩ := gd_im hS hK
  have e3 : (nI Ks.length = 3) = (Ks.length = 3) := propext (nI_eq (b := 3) (by omega) (by decide))
  by_cases hp : 0 < n
  · by_cases h3 : Ks.length = 3
    · have e : imT n Ks = 3 := by unfold imT; rw [if_pos hp, if_pos h3]
      rw [e, if_neg (by decide), if_neg (by decide)] at hQ
      simp (maxDischargeDepth := 12) only [w300_0, w300_1, w300_4, w300_5, w300_8, w300_11, w300_12, w300_13, w300_16, w300_17, w300_18, w300_21, w300_22, w300_25, w300_26, w300_27, w300_30, w300_31, w300_32, w300_35, w300_36, w300_37, w300_40, w300_42, w300_43, w300_46, w300_47, w300_49, w300_52, w300_53, w300_54, w300_57, w300_58, w300_59, w300_62, w300_63, w300_66, w300_67, w300_68, oK_some, cont_int, cont_intS, cont_none, cont_noneS, cont_long, cont_longS, true_and, and_true, false_and, and_false, true_implies, false_implies, not_true_eq_false, not_false_eq_true, eq_self, or_true, true_or, Option.isSome_some, hpf_length, hpa_length, bI_eq0, fi_hpa, fl_hpa, ar_hpf, fi_hpf_ne, fl_hpf_ne, ar_hpa_ne, hpa_hpa, hpf_hpf, nI_1, two_ne, fokZ, implies_true, Nat.reduceEqDiff, rc_68, g_68_14, sf_68_14, fe_68_14, g_68_21, sf_68_21, fe_68_21, g_68_17, ga_73, gn_73, sa_73, ae_73, g_68_19, ga_75, gn_75, sa_75, ae_75, kl_0, kl_1, kl_2, kl_3, kl_4, kl_5, kl_6, kl_7, kl_8, kl_9, kl_10, kl_11, kl_12, jb_0_10, jb_1_10, jb_2_10, jb_3_10, jb_4_10, jb_5_10, jb_6_10, jb_7_10, jb_8_10, jb_9_10, jb_0_30, jb_1_30, jb_2_30, jb_3_30, jb_4_30, jb_5_30, jb_6_30, jb_7_30, jb_8_30, jb_9_30, jb_10_30, jb_11_30, jb_12_30, hS, m_good, gd_len, hs1, h14, e73, l73, hI1.2.1, rgR, hI1.lr, m_no, decide_eq_false_iff_not, gn_71, jb_7_10, jb_8_10, jb_9_10, hp, k1, h3, show (nI 3 = 3) = True from eq_true rfl]
      exact ma_no hI hU hK hQ
    · have e : imT n Ks = 0 := by unfold imT; rw [if_pos hp, if_neg h3]
      rw [e, if_pos rfl, if_pos rfl] at hQ
      have e10 : (10 : Int32) * nI Ks.length = nI (10 * Ks.length) := by rw [show (10 : Int32) = nI 10 from rfl, pk_mul]
      have l75 := gn_75 hs1
      have hs2 : Shp (hpa (gd H) 75 (cpy st 0 (ar (gd H) 75) (10 * Ks.length) 10)) := sa_75 hs1 (by rw [cpy_len, l75])
      simp (maxDischargeDepth := 12) only [w300_0, w300_1, w300_4, w300_5, w300_8, w300_11, w300_12, w300_13, w300_16, w300_17, w300_18, w300_21, w300_22, w300_25, w300_26, w300_27, w300_30, w300_31, w300_32, w300_35, w300_36, w300_37, w300_40, w300_42, w300_43, w300_46, w300_47, w300_49, w300_52, w300_53, w300_54, w300_57, w300_58, w300_59, w300_62, w300_63, w300_66, w300_67, w300_68, oK_some, cont_int, cont_intS, cont_none, cont_noneS, cont_long, cont_longS, true_and, and_true, false_and, and_false, true_implies, false_implies, not_true_eq_false, not_false_eq_true, eq_self, or_true, true_or, Option.isSome_some, hpf_length, hpa_length, bI_eq0, fi_hpa, fl_hpa, ar_hpf, fi_hpf_ne, fl_hpf_ne, ar_hpa_ne, hpa_hpa, hpf_hpf, nI_1, two_ne, fokZ, implies_true, Nat.reduceEqDiff, rc_68, g_68_14, sf_68_14, fe_68_14, g_68_21, sf_68_21, fe_68_21, g_68_17, ga_73, gn_73, sa_73, ae_73, g_68_19, ga_75, gn_75, sa_75, ae_75, kl_0, kl_1, kl_2, kl_3, kl_4, kl_5, kl_6, kl_7, kl_8, kl_9, kl_10, kl_11, kl_12, jb_0_10, jb_1_10, jb_2_10, jb_3_10, jb_4_10, jb_5_10, jb_6_10, jb_7_10, jb_8_10, jb_9_10, jb_0_30, jb_1_30, jb_2_30, jb_3_30, jb_4_30, jb_5_30, jb_6_30, jb_7_30, jb_8_30, jb_9_30, jb_10_30, jb_11_30, jb_12_30, hS, m_good, gd_len, hs1, h14, e73, l73, hI1.2.1, rgR, hI1.lr, m_no, decide_eq_false_iff_not, gn_71, jb_7_10, jb_8_10, jb_9_10, hp, k1, e3, h3, e10, m_copy (p := 0) (q := 10 * Ks.length) (m := 10) (v1 := 0) (v2 := nI (10 * Ks.length)) (v3 := 10) rfl rfl rfl (ga_73 hs1) (ga_75 hs1) (by decide) (by rw [gn_73 hs1]; decide) (by rw [gn_75 hs1]; omega) (by rw [gn_73 hs1]; decide) (by rw [gn_75 hs1]; decide), hs2, nI_pred]
      have hF3 : Fg [75] [(68, 21)] (gd H) (hpf (hpa (gd H) 75 (cpy st 0 (ar (gd H) 75) (10 * Ks.length) 10)) 68 21 (.int (nI (Ks.length + 1)))) := (fg_hpa hs1 (by rw [cpy_len]) (by decide)).trans (fg_hpf (a := 68) (f := 21) (ci := 12) hs2 rfl (by decide))
      refine hQ _ ((gd_fga hS).trans (hF3.mono (by decide) (by decide))) ?_ ?_ ?_ ((gd_un hS hU).of hF3 (by decide) (by decide) (by decide)) ⟨?_, ?_, ?_⟩
      · rw [hF3.int (by decide) (by decide), gd_0 hS]
      · rw [hF3.int (by decide) (by decide), gd_11 hS]
      · rw [hF3.arr (by decide), e73]
      · rw [fe_68_21 hs2, List.length_append]; rfl
      · rw [List.length_append]; simp; omega
      · rw [ar_hpf, ae_75 hs1]
        exact rows_push k3 (by rw [l75]; omega) l73
  · have e : imT n Ks = 1 := by unfold imT; rw [if_neg hp]
    rw [e, if_neg (by decide), if_neg (by decide)] at hQ
    simp (maxDischargeDepth := 12) only [w300_0, w300_1, w300_4, w300_5, w300_8, w300_11, w300_12, w300_13, w300_16, w300_17, w300_18, w300_21, w300_22, w300_25, w300_26, w300_27, w300_30, w300_31, w300_32, w300_35, w300_36, w300_37, w300_40, w300_42, w300_43, w300_46, w300_47, w300_49, w300_52, w300_53, w300_54, w300_57, w300_58, w300_59, w300_62, w300_63, w300_66, w300_67, w300_68, oK_some, cont_int, cont_intS, cont_none, cont_noneS, cont_long, cont_longS, true_and, and_true, false_and, and_false, true_implies, false_implies, not_true_eq_false, not_false_eq_true, eq_self, or_true, true_or, Option.isSome_some, hpf_length, hpa_length, bI_eq0, fi_hpa, fl_hpa, ar_hpf, fi_hpf_ne, fl_hpf_ne, ar_hpa_ne, hpa_hpa, hpf_hpf, nI_1, two_ne, fokZ, implies_true, Nat.reduceEqDiff, rc_68, g_68_14, sf_68_14, fe_68_14, g_68_21, sf_68_21, fe_68_21, g_68_17, ga_73, gn_73, sa_73, ae_73, g_68_19, ga_75, gn_75, sa_75, ae_75, kl_0, kl_1, kl_2, kl_3, kl_4, kl_5, kl_6, kl_7, kl_8, kl_9, kl_10, kl_11, kl_12, jb_0_10, jb_1_10, jb_2_10, jb_3_10, jb_4_10, jb_5_10, jb_6_10, jb_7_10, jb_8_10, jb_9_10, jb_0_30, jb_1_30, jb_2_30, jb_3_30, jb_4_30, jb_5_30, jb_6_30, jb_7_30, jb_8_30, jb_9_30, jb_10_30, jb_11_30, jb_12_30, hS, m_good, gd_len, hs1, h14, e73, l73, hI1.2.1, rgR, hI1.lr, m_no, decide_eq_false_iff_not, gn_71, jb_7_10, jb_8_10, jb_9_10, hp]
    exact ma_no hI hU hK hQ
theorem M_back {i : Int32} (hI : MIv H R st n nS nW nG nU nN) (hU : MUn H Us) (hK : MIm H Ks) (hQ : MA H Q (bI (decide (0 ≤ i ∧ i < nI Ks.length))) (if 0 ≤ i ∧ i < nI Ks.length then 0 else 1) (if 0 ≤ i ∧ i < nI Ks.length then Ks.getD i.toNatClampNeg [] else st) (if 0 ≤ i ∧ i < nI Ks.length then [] else Us) Ks) : Wp scr (d + 2) 301 0 [some (.ref 68), some (.int i)] [] H Q := by
  have hS := hI.shp
  have hg := gd_fg hS
  have hI1 := hI.q hg
  have hs1 := hI1.shp
  have hM1 : Mn (ar (gd H) 71) n nS nW nG nU nN := by rw [hI1.2.1]; exact hI1.mn
  have h14 := hI1.2.2.2.2
  have e73 := hI1.2.2.1
  have rgR : ∀ j, R.getD j 0 = rg R j := fun _ => rfl
  have l73 := hI1.l
  obtain ⟨c2, c3, c4, c5, c6, c7, b2, b3, b4, b5, b6, b7⟩ := hI1.mn
  obtain ⟨k1, k2, k3⟩ := gd_im hS hK
  by_cases hc : 0 ≤ i ∧ i < nI Ks.length
  · rw [if_pos hc, if_pos hc, if_pos hc, decide_eq_true hc] at hQ
    obtain ⟨ei, li⟩ := of_row hc (by omega)
    have hc' : 0 ≤ i ∧ i ≤ nI Ks.length - 1 := (row_in (by omega)).mpr hc
    generalize i.toNatClampNeg = ii at ei li hQ
    subst ei
    have e10 : (10 : Int32) * nI ii = nI (10 * ii) := by rw [show (10 : Int32) = nI 10 from rfl, pk_mul]
    obtain ⟨r1, r2⟩ := k3 ii li
    simp (maxDischargeDepth := 12) only [w301_0, w301_1, w301_4, w301_5, w301_6, w301_7, w301_10, w301_11, w301_12, w301_15, w301_18, w301_19, w301_20, w301_23, w301_24, w301_25, w301_28, w301_30, w301_31, w301_32, w301_33, w301_36, w301_37, w301_39, w301_42, w301_43, w301_44, w301_47, w301_48, oK_some, cont_int, cont_intS, cont_none, cont_noneS, cont_long, cont_longS, true_and, and_true, false_and, and_false, true_implies, false_implies, not_true_eq_false, not_false_eq_true, eq_self, or_true, true_or, Option.isSome_some, hpf_length, hpa_length, bI_eq0, fi_hpa, fl_hpa, ar_hpf, fi_hpf_ne, fl_hpf_ne, ar_hpa_ne, hpa_hpa, hpf_hpf, nI_1, two_ne, fokZ, implies_true, Nat.reduceEqDiff, rc_68, g_68_21, sf_68_21, fe_68_21, g_68_19, ga_75, gn_75, sa_75, ae_75, g_68_17, ga_73, gn_73, sa_73, ae_73, g_68_20, sf_68_20, fe_68_20, kl_0, kl_1, kl_2, kl_3, kl_4, kl_5, kl_6, kl_7, kl_8, kl_9, kl_10, kl_11, kl_12, jb_0_10, jb_1_10, jb_2_10, jb_3_10, jb_4_10, jb_5_10, jb_6_10, jb_7_10, jb_8_10, jb_9_10, jb_0_30, jb_1_30, jb_2_30, jb_3_30, jb_4_30, jb_5_30, jb_6_30, jb_7_30, jb_8_30, jb_9_30, jb_10_30, jb_11_30, jb_12_30, hS, m_good, gd_len, hs1, h14, e73, l73, hI1.2.1, rgR, hI1.lr, m_no, decide_eq_false_iff_not, gn_71, jb_7_10, jb_8_10, jb_9_10, m_in, k1, hc', e10, m_isNot, decide_true, Bool.true_eq_false, m_copy (p := 10 * ii) (q := 0) (m := 10) (v1 := nI (10 * ii)) (v2 := 0) (v3 := 10) rfl rfl rfl (ga_75 hs1) (ga_73 hs1) (by decide) (by rw [gn_75 hs1]; omega) (by rw [gn_73 hs1]; decide) (by rw [gn_75 hs1]; decide) (by rw [gn_73 hs1]; decide)]
    rw [cpy_row l73 r1 r2]
    have hs2 : Shp (hpa (gd H) 73 (Ks.getD ii [])) := sa_73 hs1 r1
    simp (maxDischargeDepth := 12) only [w301_0, w301_1, w301_4, w301_5, w301_6, w301_7, w301_10, w301_11, w301_12, w301_15, w301_18, w301_19, w301_20, w301_23, w301_24, w301_25, w301_28, w301_30, w301_31, w301_32, w301_33, w301_36, w301_37, w301_39, w301_42, w301_43, w301_44, w301_47, w301_48, oK_some, cont_int, cont_intS, cont_none, cont_noneS, cont_long, cont_longS, true_and, and_true, false_and, and_false, true_implies, false_implies, not_true_eq_false, not_false_eq_true, eq_self, or_true, true_or, Option.isSome_some, hpf_length, hpa_length, bI_eq0, fi_hpa, fl_hpa, ar_hpf, fi_hpf_ne, fl_hpf_ne, ar_hpa_ne, hpa_hpa, hpf_hpf, nI_1, two_ne, fokZ, implies_true, Nat.reduceEqDiff, rc_68, g_68_21, sf_68_21, fe_68_21, g_68_19, ga_75, gn_75, sa_75, ae_75, g_68_17, ga_73, gn_73, sa_73, ae_73, g_68_20, sf_68_20, fe_68_20, kl_0, kl_1, kl_2, kl_3, kl_4, kl_5, kl_6, kl_7, kl_8, kl_9, kl_10, kl_11, kl_12, jb_0_10, jb_1_10, jb_2_10, jb_3_10, jb_4_10, jb_5_10, jb_6_10, jb_7_10, jb_8_10, jb_9_10, jb_0_30, jb_1_30, jb_2_30, jb_3_30, jb_4_30, jb_5_30, jb_6_30, jb_7_30, jb_8_30, jb_9_30, jb_10_30, jb_11_30, jb_12_30, hs2, and_self, decide_true, Bool.true_eq_false]
    have hF3 : Fg [73] [(68, 20)] (gd H) (hpf (hpa (gd H) 73 (Ks.getD ii [])) 68 20 (.int 0)) := (fg_hpa hs1 (by rw [r1, gn_73 hs1]) (by decide)).trans (fg_hpf (a := 68) (f := 20) (ci := 12) hs2 rfl (by decide))
    refine hQ _ ((gd_fga hS).trans (hF3.mono (by decide) (by decide))) ?_ ?_ ?_ ⟨?_, by simp, fun j hj => absurd hj (Nat.not_lt_zero _)⟩ ((gd_im hS hK).of hF3 (by decide) (by decide) (by decide))
    · rw [hF3.int (by decide) (by decide), gd_0 hS]
    · rw [hF3.int (by decide) (by decide), gd_11 hS]
    · rw [ar_hpf, ae_73 hs1]
    · rw [fe_68_20 hs2]; rfl
  · rw [if_neg hc, if_neg hc, if_neg hc, decide_eq_false hc] at hQ
    have hc' : ¬ (0 ≤ i ∧ i ≤ nI Ks.length - 1) := fun q => hc ((row_in (by omega)).mp q)
    simp (maxDischargeDepth := 12) only [w301_0, w301_1, w301_4, w301_5, w301_6, w301_7, w301_10, w301_11, w301_12, w301_15, w301_18, w301_19, w301_20, w301_23, w301_24, w301_25, w301_28, w301_30, w301_31, w301_32, w301_33, w301_36, w301_37, w301_39, w301_42, w301_43, w301_44, w301_47, w301_48, oK_some, cont_int, cont_intS, cont_none, cont_noneS, cont_long, cont_longS, true_and, and_true, false_and, and_false, true_implies, false_implies, not_true_eq_false, not_false_eq_true, eq_self, or_true, true_or, Option.isSome_some, hpf_length, hpa_length, bI_eq0, fi_hpa, fl_hpa, ar_hpf, fi_hpf_ne, fl_hpf_ne, ar_hpa_ne, hpa_hpa, hpf_hpf, nI_1, two_ne, fokZ, implies_true, Nat.reduceEqDiff, rc_68, g_68_21, sf_68_21, fe_68_21, g_68_19, ga_75, gn_75, sa_75, ae_75, g_68_17, ga_73, gn_73, sa_73, ae_73, g_68_20, sf_68_20, fe_68_20, kl_0, kl_1, kl_2, kl_3, kl_4, kl_5, kl_6, kl_7, kl_8, kl_9, kl_10, kl_11, kl_12, jb_0_10, jb_1_10, jb_2_10, jb_3_10, jb_4_10, jb_5_10, jb_6_10, jb_7_10, jb_8_10, jb_9_10, jb_0_30, jb_1_30, jb_2_30, jb_3_30, jb_4_30, jb_5_30, jb_6_30, jb_7_30, jb_8_30, jb_9_30, jb_10_30, jb_11_30, jb_12_30, hS, m_good, gd_len, hs1, h14, e73, l73, hI1.2.1, rgR, hI1.lr, m_no, decide_eq_false_iff_not, gn_71, jb_7_10, jb_8_10, jb_9_10, m_in, k1, hc', m_isNot]
    exact ma_no hI hU hK hQ
theorem M_led {i : Int32} (hI : MIv H R st n nS nW nG nU nN) (hQ : ∀ H', Fg [] [(68, 0)] H H' → fi H' 68 0 = (if (ledO st n i).isSome = true then 0 else 1) → Q (some (.int (nI ((ledO st n i).getD 0)))) H') : Wp scr (d + 1) 302 0 [some (.ref 68), some (.int i), none, none] [] H Q := by
  have hS := hI.shp
  have e71 := hI.2.1
  have e73 := hI.2.2.1
  have h14 := hI.2.2.2.2
  have l73 := hI.l
  have rgR : ∀ j, R.getD j 0 = rg R j := fun _ => rfl
  obtain ⟨c2, c3, c4, c5, c6, c7, b2, b3, b4, b5, b6, b7⟩ := hI.mn
  simp only [w302_0, w302_1, w302_2, w302_3]
  have key := down (P := fun k => (∀ j, j < ((List.range k).filter (fun k => decide (st.getD k 0 < 10))).length → ¬ i = nI j) → Wp scr (d + 1) 302 4 [some (.ref 68), some (.int i), some (.int (nI ((List.range k).filter (fun k => decide (st.getD k 0 < 10))).length)), some (.int (nI k))] [] H Q) n ?_ ?_
  · exact key (fun j hj => absurd hj (Nat.not_lt_zero _))
  · intro hno
    have eo : ledO st n i = none := by
      unfold ledO
      by_cases hi : i < 0
      · rw [if_pos hi]
      · rw [if_neg hi]
        rcases Nat.lt_or_ge i.toNatClampNeg ((List.range n).filter (fun k => decide (st.getD k 0 < 10))).length with q | q
        · have := hno _ q
          obtain ⟨j, hj, ej⟩ := nI_of hi
          exact absurd (by rw [ej, nI_clamp hj]) this
        · exact List.getElem?_eq_none q
    rw [eo] at hQ
    have fin := hQ (hpf H 68 0 (.int 1)) ((fg_hpf (a := 68) (f := 0) (ci := 12) hS rfl (by decide))) (by rw [fe_68_0 hS]; rfl)
    rw [w302_4]
    simp (maxDischargeDepth := 12) only [w302_0, w302_1, w302_2, w302_3, w302_5, w302_8, w302_11, w302_12, w302_13, w302_16, w302_17, w302_18, w302_21, w302_22, w302_25, w302_26, w302_29, w302_32, w302_35, w302_36, w302_37, w302_40, w302_41, w302_42, w302_45, w302_46, w302_47, w302_50, w302_53, w302_56, w302_57, w302_58, w302_61, w302_62, oK_some, cont_int, cont_intS, cont_none, cont_noneS, cont_long, cont_longS, true_and, and_true, false_and, and_false, true_implies, false_implies, not_true_eq_false, not_false_eq_true, eq_self, or_true, true_or, Option.isSome_some, hpf_length, hpa_length, bI_eq0, fi_hpa, fl_hpa, ar_hpf, fi_hpf_ne, fl_hpf_ne, ar_hpa_ne, hpa_hpa, hpf_hpf, nI_1, two_ne, fokZ, implies_true, Nat.reduceEqDiff, g_68_14, sf_68_14, fe_68_14, g_68_15, ga_71, gn_71, sa_71, ae_71, g_68_17, ga_73, gn_73, sa_73, ae_73, g_68_0, sf_68_0, fe_68_0, kl_0, kl_1, kl_2, kl_3, kl_4, kl_5, kl_6, kl_7, kl_8, kl_9, kl_10, kl_11, kl_12, jb_0_10, jb_1_10, jb_2_10, jb_3_10, jb_4_10, jb_5_10, jb_6_10, jb_7_10, jb_8_10, jb_9_10, jb_0_211, jb_1_211, jb_2_211, jb_3_211, jb_4_211, jb_5_211, jb_6_211, jb_7_211, jb_8_211, jb_9_211, jb_10_211, jb_11_211, jb_12_211, hS, h14, e71, hI.lr, rgR, c2, nI_les, decide_eq_false_iff_not]
    by_cases hp : 0 < n
    · simp only [hp, oK_some, cont_int, cont_intS, cont_none, cont_noneS, cont_long, cont_longS, true_and, and_true, false_and, and_false, true_implies, false_implies, not_true_eq_false, not_false_eq_true, eq_self, or_true, true_or, Option.isSome_some, hpf_length, hpa_length, bI_eq0, fi_hpa, fl_hpa, ar_hpf, fi_hpf_ne, fl_hpf_ne, ar_hpa_ne, hpa_hpa, hpf_hpf, nI_1, two_ne, fokZ, implies_true, Nat.reduceEqDiff]
      exact fin
    · simp only [hp, oK_some, cont_int, cont_intS, cont_none, cont_noneS, cont_long, cont_longS, true_and, and_true, false_and, and_false, true_implies, false_implies, not_true_eq_false, not_false_eq_true, eq_self, or_true, true_or, Option.isSome_some, hpf_length, hpa_length, bI_eq0, fi_hpa, fl_hpa, ar_hpf, fi_hpf_ne, fl_hpf_ne, ar_hpa_ne, hpa_hpa, hpf_hpf, nI_1, two_ne, fokZ, implies_true, Nat.reduceEqDiff]
      exact fin
  · intro k hk hw hno
    have hp : 0 < n := by omega
    have hcl := fil_le (p := fun k => decide (st.getD k 0 < 10)) (k := k)
    rw [fil_succ] at hw
    rw [w302_4]
    simp (maxDischargeDepth := 12) only [w302_0, w302_1, w302_2, w302_3, w302_5, w302_8, w302_11, w302_12, w302_13, w302_16, w302_17, w302_18, w302_21, w302_22, w302_25, w302_26, w302_29, w302_32, w302_35, w302_36, w302_37, w302_40, w302_41, w302_42, w302_45, w302_46, w302_47, w302_50, w302_53, w302_56, w302_57, w302_58, w302_61, w302_62, oK_some, cont_int, cont_intS, cont_none, cont_noneS, cont_long, cont_longS, true_and, and_true, false_and, and_false, true_implies, false_implies, not_true_eq_false, not_false_eq_true, eq_self, or_true, true_or, Option.isSome_some, hpf_length, hpa_length, bI_eq0, fi_hpa, fl_hpa, ar_hpf, fi_hpf_ne, fl_hpf_ne, ar_hpa_ne, hpa_hpa, hpf_hpf, nI_1, two_ne, fokZ, implies_true, Nat.reduceEqDiff, g_68_14, sf_68_14, fe_68_14, g_68_15, ga_71, gn_71, sa_71, ae_71, g_68_17, ga_73, gn_73, sa_73, ae_73, g_68_0, sf_68_0, fe_68_0, kl_0, kl_1, kl_2, kl_3, kl_4, kl_5, kl_6, kl_7, kl_8, kl_9, kl_10, kl_11, kl_12, jb_0_10, jb_1_10, jb_2_10, jb_3_10, jb_4_10, jb_5_10, jb_6_10, jb_7_10, jb_8_10, jb_9_10, jb_0_211, jb_1_211, jb_2_211, jb_3_211, jb_4_211, jb_5_211, jb_6_211, jb_7_211, jb_8_211, jb_9_211, jb_10_211, jb_11_211, jb_12_211, hS, h14, hp, e71, e73, hI.lr, rgR, c2, nI_lef hk (by omega : n < 2147483648), m_doubts (ga_73 hS) (gn_73 hS) (by omega : k < 10), decide_eq_false_iff_not]
    by_cases hd : st.getD k 0 < 10
    · simp only [hd, decide_true, if_true] at hw
      simp only [hd, oK_some, cont_int, cont_intS, cont_none, cont_noneS, cont_long, cont_longS, true_and, and_true, false_and, and_false, true_implies, false_implies, not_true_eq_false, not_false_eq_true, eq_self, or_true, true_or, Option.isSome_some, hpf_length, hpa_length, bI_eq0, fi_hpa, fl_hpa, ar_hpf, fi_hpf_ne, fl_hpf_ne, ar_hpa_ne, hpa_hpa, hpf_hpf, nI_1, two_ne, fokZ, implies_true, Nat.reduceEqDiff, Bool.true_eq_false]
      by_cases he : nI ((List.range k).filter (fun k => decide (st.getD k 0 < 10))).length = i
      · have hat := fil_at (p := fun k => decide (st.getD k 0 < 10)) (k := k) (decide_eq_true hd) n hk
        have eo : ledO st n i = some k := by
          unfold ledO
          rw [← he, if_neg (nI_pos (by omega)), nI_clamp (by omega), hat]
        rw [eo] at hQ
        have fin := hQ (hpf H 68 0 (.int 0)) ((fg_hpf (a := 68) (f := 0) (ci := 12) hS rfl (by decide))) (by rw [fe_68_0 hS]; rfl)
        simp only [he, oK_some, cont_int, cont_intS, cont_none, cont_noneS, cont_long, cont_longS, true_and, and_true, false_and, and_false, true_implies, false_implies, not_true_eq_false, not_false_eq_true, eq_self, or_true, true_or, Option.isSome_some, hpf_length, hpa_length, bI_eq0, fi_hpa, fl_hpa, ar_hpf, fi_hpf_ne, fl_hpf_ne, ar_hpa_ne, hpa_hpa, hpf_hpf, nI_1, two_ne, fokZ, implies_true, Nat.reduceEqDiff]
        exact fin
      · simp only [he, oK_some, cont_int, cont_intS, cont_none, cont_noneS, cont_long, cont_longS, true_and, and_true, false_and, and_false, true_implies, false_implies, not_true_eq_false, not_false_eq_true, eq_self, or_true, true_or, Option.isSome_some, hpf_length, hpa_length, bI_eq0, fi_hpa, fl_hpa, ar_hpf, fi_hpf_ne, fl_hpf_ne, ar_hpa_ne, hpa_hpa, hpf_hpf, nI_1, two_ne, fokZ, implies_true, Nat.reduceEqDiff]
        refine hw (fun j hj => ?_)
        rcases Nat.lt_or_ge j ((List.range k).filter (fun k => decide (st.getD k 0 < 10))).length with q | q
        · exact hno j q
        · rw [show j = ((List.range k).filter (fun k => decide (st.getD k 0 < 10))).length by omega]
          exact fun z => he z.symm
    · simp only [hd, decide_false, Bool.false_eq_true, if_false, Nat.add_zero] at hw
      simp only [hd, oK_some, cont_int, cont_intS, cont_none, cont_noneS, cont_long, cont_longS, true_and, and_true, false_and, and_false, true_implies, false_implies, not_true_eq_false, not_false_eq_true, eq_self, or_true, true_or, Option.isSome_some, hpf_length, hpa_length, bI_eq0, fi_hpa, fl_hpa, ar_hpf, fi_hpf_ne, fl_hpf_ne, ar_hpa_ne, hpa_hpa, hpf_hpf, nI_1, two_ne, fokZ, implies_true, Nat.reduceEqDiff]
      exact hw hno
theorem M_size {what : Int32} (hI : MIv H R st n nS nW nG nU nN) (hQ : ∀ H', Fg [] [(68, 0)] H H' → Q (some (.int (szM R st n (fi H 68 2) (fi H 68 20) (fi H 68 21) what))) H') : Wp scr (d + 1) 303 0 [some (.ref 68), some (.int what)] [] H Q := by
  have hS := hI.shp
  have e71 := hI.2.1
  have e73 := hI.2.2.1
  have h14 := hI.2.2.2.2
  have l73 := hI.l
  have rgR : ∀ j, R.getD j 0 = rg R j := fun _ => rfl
  have fin := hQ (hpf H 68 0 (.int 0)) ((fg_hpf (a := 68) (f := 0) (ci := 12) hS rfl (by decide)))
  unfold szM at fin
  simp (maxDischargeDepth := 12) only [w303_0, w303_1, w303_2, w303_5, w303_6, w303_8, w303_11, w303_12, w303_15, w303_16, w303_17, w303_20, w303_23, w303_24, w303_25, w303_27, w303_30, w303_33, w303_34, w303_37, w303_38, w303_39, w303_40, w303_41, w303_43, w303_46, w303_49, w303_50, w303_53, w303_54, w303_55, w303_56, w303_57, w303_59, w303_62, w303_63, w303_66, w303_68, w303_69, w303_72, w303_73, w303_75, w303_78, w303_79, w303_82, w303_85, w303_86, w303_88, w303_91, w303_92, w303_95, w303_98, w303_99, oK_some, cont_int, cont_intS, cont_none, cont_noneS, cont_long, cont_longS, true_and, and_true, false_and, and_false, true_implies, false_implies, not_true_eq_false, not_false_eq_true, eq_self, or_true, true_or, Option.isSome_some, hpf_length, hpa_length, bI_eq0, fi_hpa, fl_hpa, ar_hpf, fi_hpf_ne, fl_hpf_ne, ar_hpa_ne, hpa_hpa, hpf_hpf, nI_1, two_ne, fokZ, implies_true, Nat.reduceEqDiff, g_68_0, sf_68_0, fe_68_0, g_68_2, sf_68_2, fe_68_2, g_68_14, sf_68_14, fe_68_14, g_68_15, ga_71, gn_71, sa_71, ae_71, g_68_17, ga_73, gn_73, sa_73, ae_73, g_68_20, sf_68_20, fe_68_20, g_68_21, sf_68_21, fe_68_21, kl_0, kl_1, kl_2, kl_3, kl_4, kl_5, kl_6, kl_7, kl_8, kl_9, kl_10, kl_11, kl_12, jb_0_10, jb_1_10, jb_2_10, jb_3_10, jb_4_10, jb_5_10, jb_6_10, jb_7_10, jb_8_10, jb_9_10, jb_0_211, jb_1_211, jb_2_211, jb_3_211, jb_4_211, jb_5_211, jb_6_211, jb_7_211, jb_8_211, jb_9_211, jb_10_211, jb_11_211, jb_12_211, hS, h14, e71, e73, l73, hI.lr, rgR, m_in, jb_9_10, decide_eq_false_iff_not]
  by_cases h11 : what = 11
  · rw [if_pos h11] at fin
    simp only [h11, oK_some, cont_int, cont_intS, cont_none, cont_noneS, cont_long, cont_longS, true_and, and_true, false_and, and_false, true_implies, false_implies, not_true_eq_false, not_false_eq_true, eq_self, or_true, true_or, Option.isSome_some, hpf_length, hpa_length, bI_eq0, fi_hpa, fl_hpa, ar_hpf, fi_hpf_ne, fl_hpf_ne, ar_hpa_ne, hpa_hpa, hpf_hpf, nI_1, two_ne, fokZ, implies_true, Nat.reduceEqDiff]
    exact fin
  · rw [if_neg h11] at fin
    simp only [h11, oK_some, cont_int, cont_intS, cont_none, cont_noneS, cont_long, cont_longS, true_and, and_true, false_and, and_false, true_implies, false_implies, not_true_eq_false, not_false_eq_true, eq_self, or_true, true_or, Option.isSome_some, hpf_length, hpa_length, bI_eq0, fi_hpa, fl_hpa, ar_hpf, fi_hpf_ne, fl_hpf_ne, ar_hpa_ne, hpa_hpa, hpf_hpf, nI_1, two_ne, fokZ, implies_true, Nat.reduceEqDiff]
    by_cases hp : 0 < n
    · rw [if_pos hp] at fin
      simp only [hp, oK_some, cont_int, cont_intS, cont_none, cont_noneS, cont_long, cont_longS, true_and, and_true, false_and, and_false, true_implies, false_implies, not_true_eq_false, not_false_eq_true, eq_self, or_true, true_or, Option.isSome_some, hpf_length, hpa_length, bI_eq0, fi_hpa, fl_hpa, ar_hpf, fi_hpf_ne, fl_hpf_ne, ar_hpa_ne, hpa_hpa, hpf_hpf, nI_1, two_ne, fokZ, implies_true, Nat.reduceEqDiff]
      by_cases h7 : 0 ≤ what ∧ what ≤ 7
      · rw [if_pos h7] at fin
        obtain ⟨ew, lw⟩ := of_in (n := 7) h7 (by omega)
        have ib : inb what 211 = true := by rw [ew, inb_nI (by omega)]; exact decide_eq_true (by omega)
        simp only [h7, and_self, ib, oK_some, cont_int, cont_intS, cont_none, cont_noneS, cont_long, cont_longS, true_and, and_true, false_and, and_false, true_implies, false_implies, not_true_eq_false, not_false_eq_true, eq_self, or_true, true_or, Option.isSome_some, hpf_length, hpa_length, bI_eq0, fi_hpa, fl_hpa, ar_hpf, fi_hpf_ne, fl_hpf_ne, ar_hpa_ne, hpa_hpa, hpf_hpf, nI_1, two_ne, fokZ, implies_true, Nat.reduceEqDiff]
        exact fin
      · rw [if_neg h7] at fin
        simp only [h7, oK_some, cont_int, cont_intS, cont_none, cont_noneS, cont_long, cont_longS, true_and, and_true, false_and, and_false, true_implies, false_implies, not_true_eq_false, not_false_eq_true, eq_self, or_true, true_or, Option.isSome_some, hpf_length, hpa_length, bI_eq0, fi_hpa, fl_hpa, ar_hpf, fi_hpf_ne, fl_hpf_ne, ar_hpa_ne, hpa_hpa, hpf_hpf, nI_1, two_ne, fokZ, implies_true, Nat.reduceEqDiff]
        by_cases h8 : what = 8
        · rw [if_pos h8] at fin
          simp only [h8, oK_some, cont_int, cont_intS, cont_none, cont_noneS, cont_long, cont_longS, true_and, and_true, false_and, and_false, true_implies, false_implies, not_true_eq_false, not_false_eq_true, eq_self, or_true, true_or, Option.isSome_some, hpf_length, hpa_length, bI_eq0, fi_hpa, fl_hpa, ar_hpf, fi_hpf_ne, fl_hpf_ne, ar_hpa_ne, hpa_hpa, hpf_hpf, nI_1, two_ne, fokZ, implies_true, Nat.reduceEqDiff]
          exact fin
        · rw [if_neg h8] at fin
          simp only [h8, oK_some, cont_int, cont_intS, cont_none, cont_noneS, cont_long, cont_longS, true_and, and_true, false_and, and_false, true_implies, false_implies, not_true_eq_false, not_false_eq_true, eq_self, or_true, true_or, Option.isSome_some, hpf_length, hpa_length, bI_eq0, fi_hpa, fl_hpa, ar_hpf, fi_hpf_ne, fl_hpf_ne, ar_hpa_ne, hpa_hpa, hpf_hpf, nI_1, two_ne, fokZ, implies_true, Nat.reduceEqDiff]
          by_cases h9 : what = 9
          · rw [if_pos h9] at fin
            simp only [h9, oK_some, cont_int, cont_intS, cont_none, cont_noneS, cont_long, cont_longS, true_and, and_true, false_and, and_false, true_implies, false_implies, not_true_eq_false, not_false_eq_true, eq_self, or_true, true_or, Option.isSome_some, hpf_length, hpa_length, bI_eq0, fi_hpa, fl_hpa, ar_hpf, fi_hpf_ne, fl_hpf_ne, ar_hpa_ne, hpa_hpa, hpf_hpf, nI_1, two_ne, fokZ, implies_true, Nat.reduceEqDiff]
            exact fin
          · rw [if_neg h9] at fin
            simp only [h9, oK_some, cont_int, cont_intS, cont_none, cont_noneS, cont_long, cont_longS, true_and, and_true, false_and, and_false, true_implies, false_implies, not_true_eq_false, not_false_eq_true, eq_self, or_true, true_or, Option.isSome_some, hpf_length, hpa_length, bI_eq0, fi_hpa, fl_hpa, ar_hpf, fi_hpf_ne, fl_hpf_ne, ar_hpa_ne, hpa_hpa, hpf_hpf, nI_1, two_ne, fokZ, implies_true, Nat.reduceEqDiff]
            by_cases h10 : what = 10
            · rw [if_pos h10] at fin
              simp only [h10, oK_some, cont_int, cont_intS, cont_none, cont_noneS, cont_long, cont_longS, true_and, and_true, false_and, and_false, true_implies, false_implies, not_true_eq_false, not_false_eq_true, eq_self, or_true, true_or, Option.isSome_some, hpf_length, hpa_length, bI_eq0, fi_hpa, fl_hpa, ar_hpf, fi_hpf_ne, fl_hpf_ne, ar_hpa_ne, hpa_hpa, hpf_hpf, nI_1, two_ne, fokZ, implies_true, Nat.reduceEqDiff]
              exact fin
            · rw [if_neg h10] at fin
              simp only [h10, oK_some, cont_int, cont_intS, cont_none, cont_noneS, cont_long, cont_longS, true_and, and_true, false_and, and_false, true_implies, false_implies, not_true_eq_false, not_false_eq_true, eq_self, or_true, true_or, Option.isSome_some, hpf_length, hpa_length, bI_eq0, fi_hpa, fl_hpa, ar_hpf, fi_hpf_ne, fl_hpf_ne, ar_hpa_ne, hpa_hpa, hpf_hpf, nI_1, two_ne, fokZ, implies_true, Nat.reduceEqDiff]
              exact fin
    · rw [if_neg hp] at fin
      simp only [hp, oK_some, cont_int, cont_intS, cont_none, cont_noneS, cont_long, cont_longS, true_and, and_true, false_and, and_false, true_implies, false_implies, not_true_eq_false, not_false_eq_true, eq_self, or_true, true_or, Option.isSome_some, hpf_length, hpa_length, bI_eq0, fi_hpa, fl_hpa, ar_hpf, fi_hpf_ne, fl_hpf_ne, ar_hpa_ne, hpa_hpa, hpf_hpf, nI_1, two_ne, fokZ, implies_true, Nat.reduceEqDiff]
      by_cases h10 : 0 ≤ what ∧ what ≤ 10
      · rw [if_pos h10] at fin
        simp only [h10, and_self, oK_some, cont_int, cont_intS, cont_none, cont_noneS, cont_long, cont_longS, true_and, and_true, false_and, and_false, true_implies, false_implies, not_true_eq_false, not_false_eq_true, eq_self, or_true, true_or, Option.isSome_some, hpf_length, hpa_length, bI_eq0, fi_hpa, fl_hpa, ar_hpf, fi_hpf_ne, fl_hpf_ne, ar_hpa_ne, hpa_hpa, hpf_hpf, nI_1, two_ne, fokZ, implies_true, Nat.reduceEqDiff]
        exact fin
      · rw [if_neg h10] at fin
        simp only [h10, oK_some, cont_int, cont_intS, cont_none, cont_noneS, cont_long, cont_longS, true_and, and_true, false_and, and_false, true_implies, false_implies, not_true_eq_false, not_false_eq_true, eq_self, or_true, true_or, Option.isSome_some, hpf_length, hpa_length, bI_eq0, fi_hpa, fl_hpa, ar_hpf, fi_hpf_ne, fl_hpf_ne, ar_hpa_ne, hpa_hpa, hpf_hpf, nI_1, two_ne, fokZ, implies_true, Nat.reduceEqDiff]
        exact fin
theorem M_trouble (hS : Shp H) : Wp scr d 304 0 [some (.ref 68)] [] H Q ↔ Q (some (.int (fi H 68 11))) (hpf H 68 0 (.int 0)) := by
  simp (maxDischargeDepth := 12) only [w304_0, w304_1, w304_2, w304_5, w304_6, w304_9, oK_some, cont_int, cont_intS, cont_none, cont_noneS, cont_long, cont_longS, true_and, and_true, false_and, and_false, true_implies, false_implies, not_true_eq_false, not_false_eq_true, eq_self, or_true, true_or, Option.isSome_some, hpf_length, hpa_length, bI_eq0, fi_hpa, fl_hpa, ar_hpf, fi_hpf_ne, fl_hpf_ne, ar_hpa_ne, hpa_hpa, hpf_hpf, nI_1, two_ne, fokZ, implies_true, Nat.reduceEqDiff, g_68_0, sf_68_0, fe_68_0, g_68_11, sf_68_11, fe_68_11, hS]
theorem M_thrown (hS : Shp H) : Wp scr d 184 0 [some (.ref 68)] [] H Q ↔ Q (some (.int (fi H 68 0))) H := by
  simp (maxDischargeDepth := 12) only [w184_0, w184_1, w184_4, oK_some, cont_int, cont_intS, cont_none, cont_noneS, cont_long, cont_longS, true_and, and_true, false_and, and_false, true_implies, false_implies, not_true_eq_false, not_false_eq_true, eq_self, or_true, true_or, Option.isSome_some, hpf_length, hpa_length, bI_eq0, fi_hpa, fl_hpa, ar_hpf, fi_hpf_ne, fl_hpf_ne, ar_hpa_ne, hpa_hpa, hpf_hpf, nI_1, two_ne, fokZ, implies_true, Nat.reduceEqDiff, g_68_0, sf_68_0, fe_68_0, hS]
theorem M_feed {a b c e f : Int32} {t : Nat} (hS : Shp H) (ht : fi H 68 2 = nI t) (hb : t ≤ 900) (hQ : ∀ H', Fg [69] [(68, 0), (68, 2)] H H' → (t + 20 ≤ 900 → ar H' 69 = fdT a b c e f t 20 (ar H 69) ∧ fi H' 68 2 = nI (t + 20)) → (¬ t + 20 ≤ 900 → ar H' 69 = ar H 69 ∧ fi H' 68 2 = nI t) → Q (some (.int (if t + 20 ≤ 900 then nI (t + 20) else -1))) H') : Wp scr d 193 0 [some (.ref 68), some (.int a), some (.int b), some (.int c), some (.int e), some (.int f), none, none] [] H Q := by
  have hs1 := sf_68_0 (v := 0) hS
  have e20 : nI t + 20 = nI (t + 20) := ixa t 20 (v := 20) rfl
  have eF : Fg [69] [(68, 0), (68, 2)] H (hpf H 68 0 (.int 0)) := (fg_hpf (a := 68) (f := 0) (ci := 12) hS rfl (by decide))
  by_cases h9 : t + 20 ≤ 900
  · have h9' : (nI (t + 20) ≤ 900) = True := eq_true (nI_le (b := 900) h9 (by decide))
    rw [if_pos h9] at hQ
    simp (maxDischargeDepth := 12) only [w193_0, w193_1, w193_2, w193_5, w193_6, w193_9, w193_11, w193_12, w193_15, w193_18, w193_19, w193_20, w193_21, w193_25, w193_27, w193_30, w193_32, w193_33, w193_36, w193_37, w193_40, w193_42, w193_44, w193_47, w193_48, w193_51, w193_53, w193_55, w193_58, w193_59, w193_62, w193_64, w193_66, w193_69, w193_71, w193_74, w193_78, w193_79, w193_82, w193_83, w193_86, w193_88, w193_90, w193_92, w193_94, w193_95, w193_96, w193_97, w193_98, w193_99, w193_102, w193_103, w193_104, w193_105, w193_106, w193_109, w193_110, w193_111, w193_114, w193_117, w193_120, w193_121, w193_124, oK_some, cont_int, cont_intS, cont_none, cont_noneS, cont_long, cont_longS, true_and, and_true, false_and, and_false, true_implies, false_implies, not_true_eq_false, not_false_eq_true, eq_self, or_true, true_or, Option.isSome_some, hpf_length, hpa_length, bI_eq0, fi_hpa, fl_hpa, ar_hpf, fi_hpf_ne, fl_hpf_ne, ar_hpa_ne, hpa_hpa, hpf_hpf, nI_1, two_ne, fokZ, implies_true, Nat.reduceEqDiff, g_68_0, sf_68_0, fe_68_0, g_68_2, sf_68_2, fe_68_2, g_68_1, ga_69, gn_69, sa_69, ae_69, kl_0, kl_1, kl_2, kl_3, kl_4, kl_5, kl_6, kl_7, kl_8, kl_9, kl_10, kl_11, kl_12, hS, ht, e20, h9']
    have key := down (P := fun k => ∀ H2, ∀ o7 : Option Value, Fg [69] [(68, 0), (68, 2)] H H2 → fi H2 68 2 = nI (t + k) → ar H2 69 = fdT a b c e f t k (ar H 69) → Wp scr d 193 23 [some (.ref 68), some (.int a), some (.int b), some (.int c), some (.int e), some (.int f), some (.int (nI k)), o7] [] H2 Q) 20 ?_ ?_
    · exact key _ none eF (by rw [fi_hpf_ne (by decide), ht]; rfl) (by rw [ar_hpf]; rfl)
    · intro H2 o7 hF2 f2 a2
      have hs2 := hF2.shp
      rw [w193_23]
      simp (maxDischargeDepth := 12) only [w193_0, w193_1, w193_2, w193_5, w193_6, w193_9, w193_11, w193_12, w193_15, w193_18, w193_19, w193_20, w193_21, w193_25, w193_27, w193_30, w193_32, w193_33, w193_36, w193_37, w193_40, w193_42, w193_44, w193_47, w193_48, w193_51, w193_53, w193_55, w193_58, w193_59, w193_62, w193_64, w193_66, w193_69, w193_71, w193_74, w193_78, w193_79, w193_82, w193_83, w193_86, w193_88, w193_90, w193_92, w193_94, w193_95, w193_96, w193_97, w193_98, w193_99, w193_102, w193_103, w193_104, w193_105, w193_106, w193_109, w193_110, w193_111, w193_114, w193_117, w193_120, w193_121, w193_124, oK_some, cont_int, cont_intS, cont_none, cont_noneS, cont_long, cont_longS, true_and, and_true, false_and, and_false, true_implies, false_implies, not_true_eq_false, not_false_eq_true, eq_self, or_true, true_or, Option.isSome_some, hpf_length, hpa_length, bI_eq0, fi_hpa, fl_hpa, ar_hpf, fi_hpf_ne, fl_hpf_ne, ar_hpa_ne, hpa_hpa, hpf_hpf, nI_1, two_ne, fokZ, implies_true, Nat.reduceEqDiff, g_68_0, sf_68_0, fe_68_0, g_68_2, sf_68_2, fe_68_2, g_68_1, ga_69, gn_69, sa_69, ae_69, kl_0, kl_1, kl_2, kl_3, kl_4, kl_5, kl_6, kl_7, kl_8, kl_9, kl_10, kl_11, kl_12, hs2, show ((20 : Int32) ≤ nI 20) = True from eq_true (by decide), f2]
      exact hQ H2 hF2 (fun _ => ⟨a2, f2⟩) (fun q => absurd h9 q)
    · intro k hk hw H2 o7 hF2 f2 a2
      have hs2 := hF2.shp
      have l69 : (ar H2 69).length = 900 := gn_69 hs2
      have fin : ∀ v : Int32, v = (if k < 4 then a else if k < 8 then b else if k < 12 then c else if k < 16 then e else f) → Wp scr d 193 76 [some (.ref 68), some (.int a), some (.int b), some (.int c), some (.int e), some (.int f), some (.int (nI k)), o7] [.int v] H2 Q := by
        intro v hv
        have e4 : nI k - nI k / 4 * 4 = nI (k % 4) := pk_rem (a := k) (d := 4) (by omega) (by decide) (by decide)
        have e8 : (8 : Int32) * nI (k % 4) = nI (8 * (k % 4)) := by rw [show (8 : Int32) = nI 8 from rfl, pk_mul]
        have e24 : (24 : Int32) - nI (8 * (k % 4)) = nI (24 - 8 * (k % 4)) := pk_sub (a := 24) (by omega)
        rw [w193_76]
        simp (maxDischargeDepth := 12) only [w193_0, w193_1, w193_2, w193_5, w193_6, w193_9, w193_11, w193_12, w193_15, w193_18, w193_19, w193_20, w193_21, w193_25, w193_27, w193_30, w193_32, w193_33, w193_36, w193_37, w193_40, w193_42, w193_44, w193_47, w193_48, w193_51, w193_53, w193_55, w193_58, w193_59, w193_62, w193_64, w193_66, w193_69, w193_71, w193_74, w193_78, w193_79, w193_82, w193_83, w193_86, w193_88, w193_90, w193_92, w193_94, w193_95, w193_96, w193_97, w193_98, w193_99, w193_102, w193_103, w193_104, w193_105, w193_106, w193_109, w193_110, w193_111, w193_114, w193_117, w193_120, w193_121, w193_124, oK_some, cont_int, cont_intS, cont_none, cont_noneS, cont_long, cont_longS, true_and, and_true, false_and, and_false, true_implies, false_implies, not_true_eq_false, not_false_eq_true, eq_self, or_true, true_or, Option.isSome_some, hpf_length, hpa_length, bI_eq0, fi_hpa, fl_hpa, ar_hpf, fi_hpf_ne, fl_hpf_ne, ar_hpa_ne, hpa_hpa, hpf_hpf, nI_1, two_ne, fokZ, implies_true, Nat.reduceEqDiff, g_68_0, sf_68_0, fe_68_0, g_68_2, sf_68_2, fe_68_2, g_68_1, ga_69, gn_69, sa_69, ae_69, kl_0, kl_1, kl_2, kl_3, kl_4, kl_5, kl_6, kl_7, kl_8, kl_9, kl_10, kl_11, kl_12, hs2, f2, e4, e8, e24, show ((4 : Int32) = 0) = False from eq_false (by decide), l69, inb_nI (i := t + k) (by omega), decide_eq_true (by omega : t + k < 900), nI_clamp (n := t + k) (by omega)]
        have hs3 : Shp (hpa H2 69 ((ar H2 69).set (t + k) ((v >>> (nI (24 - 8 * (k % 4)) &&& 31)) &&& 255))) := sa_69 hs2 (by rw [List.length_set, l69])
        simp (maxDischargeDepth := 12) only [w193_0, w193_1, w193_2, w193_5, w193_6, w193_9, w193_11, w193_12, w193_15, w193_18, w193_19, w193_20, w193_21, w193_25, w193_27, w193_30, w193_32, w193_33, w193_36, w193_37, w193_40, w193_42, w193_44, w193_47, w193_48, w193_51, w193_53, w193_55, w193_58, w193_59, w193_62, w193_64, w193_66, w193_69, w193_71, w193_74, w193_78, w193_79, w193_82, w193_83, w193_86, w193_88, w193_90, w193_92, w193_94, w193_95, w193_96, w193_97, w193_98, w193_99, w193_102, w193_103, w193_104, w193_105, w193_106, w193_109, w193_110, w193_111, w193_114, w193_117, w193_120, w193_121, w193_124, oK_some, cont_int, cont_intS, cont_none, cont_noneS, cont_long, cont_longS, true_and, and_true, false_and, and_false, true_implies, false_implies, not_true_eq_false, not_false_eq_true, eq_self, or_true, true_or, Option.isSome_some, hpf_length, hpa_length, bI_eq0, fi_hpa, fl_hpa, ar_hpf, fi_hpf_ne, fl_hpf_ne, ar_hpa_ne, hpa_hpa, hpf_hpf, nI_1, two_ne, fokZ, implies_true, Nat.reduceEqDiff, g_68_0, sf_68_0, fe_68_0, g_68_2, sf_68_2, fe_68_2, g_68_1, ga_69, gn_69, sa_69, ae_69, kl_0, kl_1, kl_2, kl_3, kl_4, kl_5, kl_6, kl_7, kl_8, kl_9, kl_10, kl_11, kl_12, hs3, f2]
        refine hw _ _ ((hF2.trans (fg_hpa hs2 (by rw [List.length_set]) (by decide))).trans (fg_hpf (a := 68) (f := 2) (ci := 12) hs3 rfl (by decide))) (by rw [fe_68_2 hs3]; rfl) ?_
        rw [ar_hpf, ae_69 hs2, a2, hv]
        rfl
      rw [w193_23]
      have L : ∀ m : Nat, m < 2 ^ 31 → (nI m ≤ nI k) = (m ≤ k) := fun m hm => propext (nI_leI hm (by omega))
      have L4 : ((4 : Int32) ≤ nI k) = (4 ≤ k) := L 4 (by decide)
      have L8 : ((8 : Int32) ≤ nI k) = (8 ≤ k) := L 8 (by decide)
      have L12 : ((12 : Int32) ≤ nI k) = (12 ≤ k) := L 12 (by decide)
      have L16 : ((16 : Int32) ≤ nI k) = (16 ≤ k) := L 16 (by decide)
      simp (maxDischargeDepth := 12) only [w193_0, w193_1, w193_2, w193_5, w193_6, w193_9, w193_11, w193_12, w193_15, w193_18, w193_19, w193_20, w193_21, w193_25, w193_27, w193_30, w193_32, w193_33, w193_36, w193_37, w193_40, w193_42, w193_44, w193_47, w193_48, w193_51, w193_53, w193_55, w193_58, w193_59, w193_62, w193_64, w193_66, w193_69, w193_71, w193_74, w193_78, w193_79, w193_82, w193_83, w193_86, w193_88, w193_90, w193_92, w193_94, w193_95, w193_96, w193_97, w193_98, w193_99, w193_102, w193_103, w193_104, w193_105, w193_106, w193_109, w193_110, w193_111, w193_114, w193_117, w193_120, w193_121, w193_124, oK_some, cont_int, cont_intS, cont_none, cont_noneS, cont_long, cont_longS, true_and, and_true, false_and, and_false, true_implies, false_implies, not_true_eq_false, not_false_eq_true, eq_self, or_true, true_or, Option.isSome_some, hpf_length, hpa_length, bI_eq0, fi_hpa, fl_hpa, ar_hpf, fi_hpf_ne, fl_hpf_ne, ar_hpa_ne, hpa_hpa, hpf_hpf, nI_1, two_ne, fokZ, implies_true, Nat.reduceEqDiff, g_68_0, sf_68_0, fe_68_0, g_68_2, sf_68_2, fe_68_2, g_68_1, ga_69, gn_69, sa_69, ae_69, kl_0, kl_1, kl_2, kl_3, kl_4, kl_5, kl_6, kl_7, kl_8, kl_9, kl_10, kl_11, kl_12, hs2, show ((20 : Int32) ≤ nI k) = False from eq_false (nI_ge (b := 20) hk (by decide)), L4, L8, L12, L16]
      refine ⟨fun h4 => ⟨fun h8 => ⟨fun h12 => ⟨fun h16 => fin _ ?_, fun h16 => fin _ ?_⟩, fun h12 => fin _ ?_⟩, fun h8 => fin _ ?_⟩, fun h4 => fin _ ?_⟩
      · rw [if_neg (by omega), if_neg (by omega), if_neg (by omega), if_neg (by omega)]
      · rw [if_neg (by omega), if_neg (by omega), if_neg (by omega), if_pos (by omega)]
      · rw [if_neg (by omega), if_neg (by omega), if_pos (by omega)]
      · rw [if_neg (by omega), if_pos (by omega)]
      · rw [if_pos (by omega)]
  · have h9' : (nI (t + 20) ≤ 900) = False := eq_false (nI_ge (a := 900) (b := t + 20) (by omega) (by omega))
    rw [if_neg h9] at hQ
    simp (maxDischargeDepth := 12) only [w193_0, w193_1, w193_2, w193_5, w193_6, w193_9, w193_11, w193_12, w193_15, w193_18, w193_19, w193_20, w193_21, w193_25, w193_27, w193_30, w193_32, w193_33, w193_36, w193_37, w193_40, w193_42, w193_44, w193_47, w193_48, w193_51, w193_53, w193_55, w193_58, w193_59, w193_62, w193_64, w193_66, w193_69, w193_71, w193_74, w193_78, w193_79, w193_82, w193_83, w193_86, w193_88, w193_90, w193_92, w193_94, w193_95, w193_96, w193_97, w193_98, w193_99, w193_102, w193_103, w193_104, w193_105, w193_106, w193_109, w193_110, w193_111, w193_114, w193_117, w193_120, w193_121, w193_124, oK_some, cont_int, cont_intS, cont_none, cont_noneS, cont_long, cont_longS, true_and, and_true, false_and, and_false, true_implies, false_implies, not_true_eq_false, not_false_eq_true, eq_self, or_true, true_or, Option.isSome_some, hpf_length, hpa_length, bI_eq0, fi_hpa, fl_hpa, ar_hpf, fi_hpf_ne, fl_hpf_ne, ar_hpa_ne, hpa_hpa, hpf_hpf, nI_1, two_ne, fokZ, implies_true, Nat.reduceEqDiff, g_68_0, sf_68_0, fe_68_0, g_68_2, sf_68_2, fe_68_2, g_68_1, ga_69, gn_69, sa_69, ae_69, kl_0, kl_1, kl_2, kl_3, kl_4, kl_5, kl_6, kl_7, kl_8, kl_9, kl_10, kl_11, kl_12, hS, ht, e20, h9']
    exact hQ _ eF (fun q => absurd q h9) (fun _ => ⟨by rw [ar_hpf], by rw [fi_hpf_ne (by decide), ht]⟩)
end MODELL
