/-! ===== the law: all its calls ===== -/
theorem and63 (x : Int32) : ∃ j, j < 64 ∧ x &&& 63 = nI j := by
  refine ⟨(x.toBitVec &&& 63#32).toNat, ?_, ?_⟩
  · rw [BitVec.toNat_and]
    exact Nat.lt_of_le_of_lt Nat.and_le_right (by decide)
  · apply Int32.toBitVec_inj.mp
    rw [Int32.toBitVec_and]
    show x.toBitVec &&& 63#32 = BitVec.ofNat 32 (x.toBitVec &&& 63#32).toNat
    rw [BitVec.ofNat_toNat, BitVec.setWidth_eq]
section LAWALL
variable {scr : List Int32} {d k n nS nW nG nU nN tp : Nat} {o5 o6 : Option Value} {H : List AC} {R st : List Int32} {Us Ks : List (List Int32)} {Q : Option Value → List AC → Prop}
theorem law_sw (hI : Ivv H R st Us Ks n nS nW nG nU nN tp) (hk : 6 * k + 6 ≤ scr.length) (hL : scr.length ≤ 3072) (h5 : Oi o5) (h6 : Oi o6) (hn : ∀ H', INV H' → H'.length ≤ H.length + 1 → ∀ o5 o6 : Option Value, Oi o5 → Oi o6 → Wp scr (d + 17) 0 1690 [some (.retAddr 1000), some (.ref 0), some (.ref 68), some (.ref 83), some (.int (nI (6 * k))), o5, o6] [] H' Q) : ∀ j, j < 52 → Wp scr (d + 17) 0 40 [some (.retAddr 1000), some (.ref 0), some (.ref 68), some (.ref 83), some (.int (nI (6 * k))), o5, o6] [.int (nI j)] H Q
  | 0, _ => (Wp_tswI a0_40 (by decide) (o := 224) rfl (t := 264) (by decide)).mpr (law_0 hI hk hL h5 h6 hn)
  | 1, _ => (Wp_tswI a0_40 (by decide) (o := 297) rfl (t := 337) (by decide)).mpr (law_1 hI hk hL h5 h6 hn)
  | 2, _ => (Wp_tswI a0_40 (by decide) (o := 322) rfl (t := 362) (by decide)).mpr (law_2 hI hk hL h5 h6 hn)
  | 3, _ => (Wp_tswI a0_40 (by decide) (o := 335) rfl (t := 375) (by decide)).mpr (law_3 hI hk hL h5 h6 hn)
  | 4, _ => (Wp_tswI a0_40 (by decide) (o := 348) rfl (t := 388) (by decide)).mpr (law_4 hI hk hL h5 h6 hn)
  | 5, _ => (Wp_tswI a0_40 (by decide) (o := 385) rfl (t := 425) (by decide)).mpr (law_5 hI hk hL h5 h6 hn)
  | 6, _ => (Wp_tswI a0_40 (by decide) (o := 422) rfl (t := 462) (by decide)).mpr (law_6 hI hk hL h5 h6 hn)
  | 7, _ => (Wp_tswI a0_40 (by decide) (o := 459) rfl (t := 499) (by decide)).mpr (law_7 hI hk hL h5 h6 hn)
  | 8, _ => (Wp_tswI a0_40 (by decide) (o := 472) rfl (t := 512) (by decide)).mpr (law_8 hI hk hL h5 h6 hn)
  | 9, _ => (Wp_tswI a0_40 (by decide) (o := 485) rfl (t := 525) (by decide)).mpr (law_9 hI hk hL h5 h6 hn)
  | 10, _ => (Wp_tswI a0_40 (by decide) (o := 498) rfl (t := 538) (by decide)).mpr (law_10 hI hk hL h5 h6 hn)
  | 11, _ => (Wp_tswI a0_40 (by decide) (o := 511) rfl (t := 551) (by decide)).mpr (law_11 hI hk hL h5 h6 hn)
  | 12, _ => (Wp_tswI a0_40 (by decide) (o := 548) rfl (t := 588) (by decide)).mpr (law_12 hI hk hL h5 h6 hn)
  | 13, _ => (Wp_tswI a0_40 (by decide) (o := 573) rfl (t := 613) (by decide)).mpr (law_13 hI hk hL h5 h6 hn)
  | 14, _ => (Wp_tswI a0_40 (by decide) (o := 598) rfl (t := 638) (by decide)).mpr (law_14 hI hk hL h5 h6 hn)
  | 15, _ => (Wp_tswI a0_40 (by decide) (o := 611) rfl (t := 651) (by decide)).mpr (law_15 hI hk hL h5 h6 hn)
  | 16, _ => (Wp_tswI a0_40 (by decide) (o := 624) rfl (t := 664) (by decide)).mpr (law_16 hI hk hL h5 h6 hn)
  | 17, _ => (Wp_tswI a0_40 (by decide) (o := 637) rfl (t := 677) (by decide)).mpr (law_17 hI hk hL h5 h6 hn)
  | 18, _ => (Wp_tswI a0_40 (by decide) (o := 662) rfl (t := 702) (by decide)).mpr (law_18 hI hk hL h5 h6 hn)
  | 19, _ => (Wp_tswI a0_40 (by decide) (o := 687) rfl (t := 727) (by decide)).mpr (law_19 hI hk hL h5 h6 hn)
  | 20, _ => (Wp_tswI a0_40 (by decide) (o := 712) rfl (t := 752) (by decide)).mpr (law_20 hI hk hL h5 h6 hn)
  | 21, _ => (Wp_tswI a0_40 (by decide) (o := 737) rfl (t := 777) (by decide)).mpr (law_21 hI hk hL h5 h6 hn)
  | 22, _ => (Wp_tswI a0_40 (by decide) (o := 774) rfl (t := 814) (by decide)).mpr (law_22 hI hk hL h5 h6 hn)
  | 23, _ => (Wp_tswI a0_40 (by decide) (o := 799) rfl (t := 839) (by decide)).mpr (law_23 hI hk hL h5 h6 hn)
  | 24, _ => (Wp_tswI a0_40 (by decide) (o := 824) rfl (t := 864) (by decide)).mpr (law_24 hI hk hL h5 h6 hn)
  | 25, _ => (Wp_tswI a0_40 (by decide) (o := 849) rfl (t := 889) (by decide)).mpr (law_25 hI hk hL h5 h6 hn)
  | 26, _ => (Wp_tswI a0_40 (by decide) (o := 874) rfl (t := 914) (by decide)).mpr (law_26 hI hk hL h5 h6 hn)
  | 27, _ => (Wp_tswI a0_40 (by decide) (o := 887) rfl (t := 927) (by decide)).mpr (law_27 hI hk hL h5 h6 hn)
  | 28, _ => (Wp_tswI a0_40 (by decide) (o := 912) rfl (t := 952) (by decide)).mpr (law_28 hI hk hL h5 h6 hn)
  | 29, _ => (Wp_tswI a0_40 (by decide) (o := 925) rfl (t := 965) (by decide)).mpr (law_29 hI hk hL h5 h6 hn)
  | 30, _ => (Wp_tswI a0_40 (by decide) (o := 938) rfl (t := 978) (by decide)).mpr (law_30 hI hk hL h5 h6 hn)
  | 31, _ => (Wp_tswI a0_40 (by decide) (o := 951) rfl (t := 991) (by decide)).mpr (law_31 hI hk hL h5 h6 hn)
  | 32, _ => (Wp_tswI a0_40 (by decide) (o := 964) rfl (t := 1004) (by decide)).mpr (law_32 hI hk hL h5 h6 hn)
  | 33, _ => (Wp_tswI a0_40 (by decide) (o := 977) rfl (t := 1017) (by decide)).mpr (law_33 hI hk hL h5 h6 hn)
  | 34, _ => (Wp_tswI a0_40 (by decide) (o := 1002) rfl (t := 1042) (by decide)).mpr (law_34 hI hk hL h5 h6 hn)
  | 35, _ => (Wp_tswI a0_40 (by decide) (o := 1027) rfl (t := 1067) (by decide)).mpr (law_35 hI hk hL h5 h6 hn)
  | 36, _ => (Wp_tswI a0_40 (by decide) (o := 1052) rfl (t := 1092) (by decide)).mpr (law_36 hI hk hL h5 h6 hn)
  | 37, _ => (Wp_tswI a0_40 (by decide) (o := 1077) rfl (t := 1117) (by decide)).mpr (law_37 hI hk hL h5 h6 hn)
  | 38, _ => (Wp_tswI a0_40 (by decide) (o := 1131) rfl (t := 1171) (by decide)).mpr (law_38 hI hk hL h5 h6 hn)
  | 39, _ => (Wp_tswI a0_40 (by decide) (o := 1185) rfl (t := 1225) (by decide)).mpr (law_39 hI hk hL h5 h6 hn)
  | 40, _ => (Wp_tswI a0_40 (by decide) (o := 1251) rfl (t := 1291) (by decide)).mpr (law_40 hI hk hL h5 h6 hn)
  | 41, _ => (Wp_tswI a0_40 (by decide) (o := 1300) rfl (t := 1340) (by decide)).mpr (law_41 hI hk hL h5 h6 hn)
  | 42, _ => (Wp_tswI a0_40 (by decide) (o := 1337) rfl (t := 1377) (by decide)).mpr (law_42 hI hk hL h5 h6 hn)
  | 43, _ => (Wp_tswI a0_40 (by decide) (o := 1386) rfl (t := 1426) (by decide)).mpr (law_43 hI hk hL h5 h6 hn)
  | 44, _ => (Wp_tswI a0_40 (by decide) (o := 1439) rfl (t := 1479) (by decide)).mpr (law_44 hI hk hL h5 h6 hn)
  | 45, _ => (Wp_tswI a0_40 (by decide) (o := 1492) rfl (t := 1532) (by decide)).mpr (law_45 hI hk hL h5 h6 hn)
  | 46, _ => (Wp_tswI a0_40 (by decide) (o := 1505) rfl (t := 1545) (by decide)).mpr (law_46 hI hk hL h5 h6 hn)
  | 47, _ => (Wp_tswI a0_40 (by decide) (o := 1518) rfl (t := 1558) (by decide)).mpr (law_47 hI hk hL h5 h6 hn)
  | 48, _ => (Wp_tswI a0_40 (by decide) (o := 1531) rfl (t := 1571) (by decide)).mpr (law_48 hI hk hL h5 h6 hn)
  | 49, _ => (Wp_tswI a0_40 (by decide) (o := 1556) rfl (t := 1596) (by decide)).mpr (law_49 hI hk hL h5 h6 hn)
  | 50, _ => (Wp_tswI a0_40 (by decide) (o := 1612) rfl (t := 1652) (by decide)).mpr (law_50 hI hk hL h5 h6 hn)
  | 51, _ => (Wp_tswI a0_40 (by decide) (o := 1637) rfl (t := 1677) (by decide)).mpr (law_51 hI hk hL h5 h6 hn)
  | j + 52, h => absurd h (by omega)
theorem law_loop (hL : scr.length ≤ 3072) : ∀ (f k : Nat) (H : List AC) (o5 o6 : Option Value), scr.length < 6 * k + f → 6 * k ≤ scr.length + 6 → INV H → H.length ≤ 84 + k → Oi o5 → Oi o6 → Wp scr (d + 17) 0 23 [some (.retAddr 1000), some (.ref 0), some (.ref 68), some (.ref 83), some (.int (nI (6 * k))), o5, o6] [] H (fun r H' => r = some (.int 1) ∧ INV H' ∧ H'.length ≤ 700) := by
  intro f
  induction f with
  | zero =>
    intro k H o5 o6 hf hk hI hle h5 h6
    have hc : (Int32.ofNat scr.length - 6 < nI (6 * k)) = True := eq_true (by
      rw [Int32.lt_iff_toInt_lt, show (Int32.ofNat scr.length - 6) = nI scr.length - nI 6 from rfl, pk_sub_toInt (by omega) (by decide), nI_toInt (by omega)]
      omega)
    simp only [w0_23, w0_25, w0_26, w0_27, w0_29, w0_30, w0_1696, w0_1697, oK_some, cont_int, cont_intS, cont_none, cont_noneS, cont_long, cont_longS, true_and, and_true, false_and, and_false, true_implies, false_implies, not_true_eq_false, not_false_eq_true, eq_self, or_true, true_or, Option.isSome_some, hpf_length, hpa_length, bI_eq0, fi_hpa, fl_hpa, ar_hpf, fi_hpf_ne, fl_hpf_ne, ar_hpa_ne, hpa_hpa, hpf_hpf, nI_1, two_ne, fokZ, implies_true, Nat.reduceEqDiff, hc]
    exact ⟨hI, by omega⟩
  | succ f ih =>
    intro k H o5 o6 hf hk hI hle h5 h6
    by_cases hc6 : 6 * k + 6 ≤ scr.length
    · have hc : (Int32.ofNat scr.length - 6 < nI (6 * k)) = False := eq_false (by
        rw [Int32.lt_iff_toInt_lt, show (Int32.ofNat scr.length - 6) = nI scr.length - nI 6 from rfl, pk_sub_toInt (by omega) (by decide), nI_toInt (by omega)]
        omega)
      have b0 : inb (nI (6 * k)) scr.length = true := by rw [inb_nI (by omega)]; exact decide_eq_true (by omega)
      have c0 : (nI (6 * k)).toNatClampNeg = 6 * k := nI_clamp (by omega)
      have i6 : nI (6 * k) + 6 = nI (6 * (k + 1)) := ixa (6 * k) 6 (v := 6) rfl
      have nx : ∀ H', INV H' → H'.length ≤ H.length + 1 → ∀ o5 o6 : Option Value, Oi o5 → Oi o6 → Wp scr (d + 17) 0 1690 [some (.retAddr 1000), some (.ref 0), some (.ref 68), some (.ref 83), some (.int (nI (6 * k))), o5, o6] [] H' (fun r H' => r = some (.int 1) ∧ INV H' ∧ H'.length ≤ 700) := fun H' hI' hle' o5 o6 h5 h6 => by
        simp only [w0_1690, w0_1693, i6]
        exact ih (k + 1) H' o5 o6 (by omega) (by omega) hI' (by omega) h5 h6
      simp only [w0_23, w0_25, w0_26, w0_27, w0_29, w0_30, w0_33, w0_34, w0_36, w0_37, w0_39, oK_some, cont_int, cont_intS, cont_none, cont_noneS, cont_long, cont_longS, true_and, and_true, false_and, and_false, true_implies, false_implies, not_true_eq_false, not_false_eq_true, eq_self, or_true, true_or, Option.isSome_some, hpf_length, hpa_length, bI_eq0, fi_hpa, fl_hpa, ar_hpf, fi_hpf_ne, fl_hpf_ne, ar_hpa_ne, hpa_hpa, hpf_hpf, nI_1, two_ne, fokZ, implies_true, Nat.reduceEqDiff, hc, b0, c0]
      obtain ⟨j, hj, ej⟩ := and63 (scr.getD (6 * k) 0)
      rw [ej]
      by_cases hj2 : j < 52
      · obtain ⟨R, st, Us, Ks, n, nS, nW, nG, nU, nN, tp, hI⟩ := hI
        exact law_sw hI hc6 hL h5 h6 nx j hj2
      · refine (Wp_tswO a0_40 (t := 1690) (Or.inr ?_) (by decide)).mpr (nx H hI (Nat.le_succ _) o5 o6 h5 h6)
        rw [nI_toInt (by omega)]
        omega
    · have hc : (Int32.ofNat scr.length - 6 < nI (6 * k)) = True := eq_true (by
        rw [Int32.lt_iff_toInt_lt, show (Int32.ofNat scr.length - 6) = nI scr.length - nI 6 from rfl, pk_sub_toInt (by omega) (by decide), nI_toInt (by omega)]
        omega)
      simp only [w0_23, w0_25, w0_26, w0_27, w0_29, w0_30, w0_1696, w0_1697, oK_some, cont_int, cont_intS, cont_none, cont_noneS, cont_long, cont_longS, true_and, and_true, false_and, and_false, true_implies, false_implies, not_true_eq_false, not_false_eq_true, eq_self, or_true, true_or, Option.isSome_some, hpf_length, hpa_length, bI_eq0, fi_hpa, fl_hpa, ar_hpf, fi_hpf_ne, fl_hpf_ne, ar_hpa_ne, hpa_hpa, hpf_hpf, nI_1, two_ne, fokZ, implies_true, Nat.reduceEqDiff, hc]
      exact ⟨hI, by omega⟩
end LAWALL
