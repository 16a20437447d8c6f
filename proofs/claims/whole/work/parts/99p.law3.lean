/-! ===== the law: acts, what is told ===== -/
section VVS
variable {R st st' : List Int32} {Us Ks Us' Ks' : List (List Int32)} {n nS nW nG nU nN : Nat}
theorem Vv.to (h : Vv R st Us Ks n nW nG nN) (h1 : Bst n nW nG st') (h2 : ∀ s ∈ Us', Bst n nW nG s) (h3 : ∀ s ∈ Ks', Bst n nW nG s) (h0 : n = 0 → st'.getD 9 0 = 0 ∧ Us' = [] ∧ Ks' = []) : Vv R st' Us' Ks' n nW nG nN := by
  obtain ⟨a1, a2, a3, a4, a5, a6, a7, a8⟩ := h
  exact ⟨a1, a2, a3, a4, h1, h2, h3, fun z => ⟨(a8 z).1, (a8 z).2.1, (a8 z).2.2.1, (h0 z).1, (h0 z).2.1, (h0 z).2.2⟩⟩
theorem push_b (h : ∀ s ∈ Us, Bst n nW nG s) (hs : Bst n nW nG st) : ∀ s ∈ pushU Us st, Bst n nW nG s := by
  intro s q
  unfold pushU at q
  split at q
  · rcases List.mem_append.mp q with z | z
    · exact h s (List.mem_of_mem_tail z)
    · rw [List.mem_singleton] at z; rw [z]; exact hs
  · rcases List.mem_append.mp q with z | z
    · exact h s z
    · rw [List.mem_singleton] at z; rw [z]; exact hs
theorem xor_tab : ∀ a ∈ List.range 64, ∀ j ∈ List.range 6, nI a ^^^ (1 <<< (nI j &&& 31)) = nI (a ^^^ 2 ^ j) := by decide +kernel
theorem xor_b {m a j : Nat} (hm : m ≤ 6) (ha : a < 2 ^ m) (hj : j < m) : ∃ b, b < 2 ^ m ∧ nI a ^^^ (1 <<< (nI j &&& 31)) = nI b := by
  have h6 : 2 ^ m ≤ 64 := Nat.pow_le_pow_right (n := 2) (by decide) hm
  exact ⟨a ^^^ 2 ^ j, Nat.xor_lt_two_pow ha (Nat.pow_lt_pow_right (by decide) hj), xor_tab a (List.mem_range.mpr (by omega)) j (List.mem_range.mpr (by omega))⟩
theorem Fb.set {f : Nat} {v : Int32} (h : Fb n st) (hn : n ≤ 7) (hf : 7 ≤ f) : Fb n (st.set f v) := ⟨by rw [List.length_set]; exact h.1, fun i hi => by rw [getD_set, if_neg (by omega)]; exact h.2 i hi⟩
theorem acS_show {k : Int32} {is : Bool} (h : Bst n nW nG st) (hn : n ≤ 7) (hG : nG ≤ 6) : Bst n nW nG (acS (decide (0 < n ∧ 0 ≤ k ∧ k < nI nG)) st 7 k is) := by
  unfold acS
  split
  · rename_i q
    have ht : 0 < n ∧ 0 ≤ k ∧ k < nI nG := Classical.byContradiction (fun z => by
      unfold acR at q
      rw [decide_eq_false z] at q
      exact absurd q (by simp))
    obtain ⟨ek, lk⟩ := of_row ht.2 (by omega)
    obtain ⟨hF, ⟨sh, hs, es⟩, ⟨up, hu, eu⟩, ⟨g, hg, eg⟩⟩ := h
    obtain ⟨b, hb, eb⟩ := xor_b hG hs lk
    have l := hF.1
    refine ⟨hF.set hn (by decide), ⟨b, hb, ?_⟩, ⟨up, hu, ?_⟩, ⟨g, hg, ?_⟩⟩
    · rw [getD_set, if_pos ⟨rfl, by omega⟩, es]
      rw [ek]
      exact eb
    · rw [getD_set, if_neg (by omega)]; exact eu
    · rw [getD_set, if_neg (by omega)]; exact eg
  · exact h
theorem acS_put {k : Int32} {is : Bool} (h : Bst n nW nG st) (hn : n ≤ 7) (hW : nW ≤ 6) : Bst n nW nG (acS (decide (0 < n ∧ 0 ≤ k ∧ k < nI nW)) st 8 k is) := by
  unfold acS
  split
  · rename_i q
    have ht : 0 < n ∧ 0 ≤ k ∧ k < nI nW := Classical.byContradiction (fun z => by
      unfold acR at q
      rw [decide_eq_false z] at q
      exact absurd q (by simp))
    obtain ⟨ek, lk⟩ := of_row ht.2 (by omega)
    obtain ⟨hF, ⟨sh, hs, es⟩, ⟨up, hu, eu⟩, ⟨g, hg, eg⟩⟩ := h
    obtain ⟨b, hb, eb⟩ := xor_b hW hu lk
    have l := hF.1
    refine ⟨hF.set hn (by decide), ⟨sh, hs, ?_⟩, ⟨b, hb, ?_⟩, ⟨g, hg, ?_⟩⟩
    · rw [getD_set, if_neg (by omega)]; exact es
    · rw [getD_set, if_pos ⟨rfl, by omega⟩, eu]
      rw [ek]
      exact eb
    · rw [getD_set, if_neg (by omega)]; exact eg
  · exact h
theorem acU_b {k : Int32} {is b : Bool} {f : Nat} (h : ∀ s ∈ Us, Bst n nW nG s) (hs : Bst n nW nG st) : ∀ s ∈ acU Us b st f k is, Bst n nW nG s := by
  unfold acU
  split
  · exact push_b h hs
  · exact h
theorem ac_0 {k : Int32} {is : Bool} {f : Nat} : acS false st f k is = st ∧ acU Us false st f k is = Us := by
  unfold acS acU acR
  constructor <;> rfl
theorem acR_4 {k : Int32} {is b : Bool} {f : Nat} : ¬ (acR b st f k is).2 = 4 := by
  unfold acR
  split
  · split <;> decide
  · decide
theorem day_b {rum : Int32} (h : Bst n nW nG st) (hn : n ≤ 7) (h9 : ¬ st.getD 9 0 = 999) : Bst n nW nG (dayM R rum n nW nG nU st) := by
  obtain ⟨hF, ⟨sh, hs, es⟩, ⟨up, hu, eu⟩, ⟨g, hg, eg⟩⟩ := h
  refine ⟨dayM_fb hn, ⟨sh, hs, ?_⟩, ⟨up, hu, ?_⟩, ⟨g + 1, ?_, ?_⟩⟩
  · rw [dayM_78 hn (Or.inl rfl)]; exact es
  · rw [dayM_78 hn (Or.inr rfl)]; exact eu
  · have : ¬ g = 999 := fun z => h9 (by rw [eg, z]; rfl)
    omega
  · rw [dayM_9 hn, eg]; exact ixa g 1 (v := 1) rfl
theorem getD_mem {Vs : List (List Int32)} {i : Nat} (h : i < Vs.length) : Vs.getD i [] ∈ Vs := by
  rw [List.getD_eq_getElem?_getD, List.getElem?_eq_getElem h]
  exact List.getElem_mem h
end VVS
section LAW3
variable {scr : List Int32} {d k n nS nW nG nU nN tp : Nat} {o5 o6 : Option Value} {H : List AC} {R st : List Int32} {Us Ks : List (List Int32)} {Q : Option Value → List AC → Prop}
theorem law_43 (hI : Ivv H R st Us Ks n nS nW nG nU nN tp) (hk : 6 * k + 6 ≤ scr.length) (hL : scr.length ≤ 3072) (h5 : Oi o5) (h6 : Oi o6) (hn : ∀ H', INV H' → H'.length ≤ H.length + 1 → ∀ o5 o6 : Option Value, Oi o5 → Oi o6 → Wp scr (d + 17) 0 1690 [some (.retAddr 1000), some (.ref 0), some (.ref 68), some (.ref 83), some (.int (nI (6 * k))), o5, o6] [] H' Q) : Wp scr (d + 17) 0 1426 [some (.retAddr 1000), some (.ref 0), some (.ref 68), some (.ref 83), some (.int (nI (6 * k))), o5, o6] [] H Q := by
  have hS := hI.1.shp
  obtain ⟨hVg, hVf, hVd, ⟨hl, hl1, ehl⟩, ⟨hFb, ⟨sh, hsh, esh⟩, ⟨up, hup, eup⟩, ⟨g, hg9, eg⟩⟩, hbU, hbK, hz0⟩ := hI.2.2.2.2.2.2.2.2.2
  have hgb : Gb st := ⟨g, by omega, eg⟩
  have b5' : nG ≤ 6 := hI.2.1.mn.2.2.2.2.2.2.2.2.2.1
  have h64 : sh < 64 := Nat.lt_of_lt_of_le hsh (Nat.pow_le_pow_right (by decide) b5')
  have hzG : n = 0 → nG = 0 := fun z => (hz0 z).1
  have hzW : n = 0 → nW = 0 := fun z => (hz0 z).2.1
  obtain ⟨hC, hM, hU, hK, mU, mK, hT, hr, hRm, hV⟩ := id hI
  have hb := hV.2.2.2.2.1
  have hn7 : n ≤ 7 := hM.mn.2.2.2.2.2.2.1
  have hW5 : nW ≤ 5 := hM.mn.2.2.2.2.2.2.2.2.1
  have q1 : nI (6 * k) + 1 = nI (6 * k + 1) := ixa (6 * k) 1 (v := 1) rfl
  have b1 : inb (nI (6 * k + 1)) scr.length = true := by rw [inb_nI (by omega)]; exact decide_eq_true (by omega)
  have c1 : (nI (6 * k + 1)).toNatClampNeg = 6 * k + 1 := nI_clamp (by omega)
  have q2 : nI (6 * k) + 2 = nI (6 * k + 2) := ixa (6 * k) 2 (v := 2) rfl
  have b2 : inb (nI (6 * k + 2)) scr.length = true := by rw [inb_nI (by omega)]; exact decide_eq_true (by omega)
  have c2 : (nI (6 * k + 2)).toNatClampNeg = 6 * k + 2 := nI_clamp (by omega)
  by_cases hb2 : scr.getD (6 * k + 2) 0 = 0
  · simp only [w0_1426, w0_1427, w0_1428, w0_1430, w0_1431, w0_1432, w0_1433, w0_1434, w0_1436, w0_1437, w0_1438, w0_1439, w0_1442, w0_1443, w0_1446, w0_1447, w0_1450, w0_1451, w0_1452, w0_1454, w0_1455, w0_1456, w0_1457, w0_1458, w0_1460, w0_1461, w0_1462, w0_1463, w0_1466, w0_1467, w0_1470, w0_1471, w0_1474, w0_1477, w0_1478, oK_some, cont_int, cont_intS, cont_none, cont_noneS, cont_long, cont_longS, true_and, and_true, false_and, and_false, true_implies, false_implies, not_true_eq_false, not_false_eq_true, eq_self, or_true, true_or, Option.isSome_some, hpf_length, hpa_length, bI_eq0, fi_hpa, fl_hpa, ar_hpf, fi_hpf_ne, fl_hpf_ne, ar_hpa_ne, hpa_hpa, hpf_hpf, nI_1, two_ne, fokZ, implies_true, Nat.reduceEqDiff, rc_0, rc_68, hS, q1, b1, c1, q2, b2, c2, hb2]
    refine C_show (is := false) hC hU hK hzG (fun H1 hF1 e1 sn1 u1 k1 => ?_)
    have s1 := hF1.shp
    simp only [w0_1426, w0_1427, w0_1428, w0_1430, w0_1431, w0_1432, w0_1433, w0_1434, w0_1436, w0_1437, w0_1438, w0_1439, w0_1442, w0_1443, w0_1446, w0_1447, w0_1450, w0_1451, w0_1452, w0_1454, w0_1455, w0_1456, w0_1457, w0_1458, w0_1460, w0_1461, w0_1462, w0_1463, w0_1466, w0_1467, w0_1470, w0_1471, w0_1474, w0_1477, w0_1478, oK_some, cont_int, cont_intS, cont_none, cont_noneS, cont_long, cont_longS, true_and, and_true, false_and, and_false, true_implies, false_implies, not_true_eq_false, not_false_eq_true, eq_self, or_true, true_or, Option.isSome_some, hpf_length, hpa_length, bI_eq0, fi_hpa, fl_hpa, ar_hpf, fi_hpf_ne, fl_hpf_ne, ar_hpa_ne, hpa_hpa, hpf_hpf, nI_1, two_ne, fokZ, implies_true, Nat.reduceEqDiff, rc_0, rc_68, hF1.len, s1, q1, b1, c1, q2, b2, c2, hb2]
    refine M_show (is := false) (hM.of hF1 (by decide) (by decide) (by decide) (by decide)) (mU.of hF1 (by decide) (by decide) (by decide)) (mK.of hF1 (by decide) (by decide) (by decide)) (fun H2 hF2 e0 e2 a2 u2 k2 => ?_)
    have s2 := hF2.shp
    simp only [w0_1426, w0_1427, w0_1428, w0_1430, w0_1431, w0_1432, w0_1433, w0_1434, w0_1436, w0_1437, w0_1438, w0_1439, w0_1442, w0_1443, w0_1446, w0_1447, w0_1450, w0_1451, w0_1452, w0_1454, w0_1455, w0_1456, w0_1457, w0_1458, w0_1460, w0_1461, w0_1462, w0_1463, w0_1466, w0_1467, w0_1470, w0_1471, w0_1474, w0_1477, w0_1478, oK_some, cont_int, cont_intS, cont_none, cont_noneS, cont_long, cont_longS, true_and, and_true, false_and, and_false, true_implies, false_implies, not_true_eq_false, not_false_eq_true, eq_self, or_true, true_or, Option.isSome_some, hpf_length, hpa_length, bI_eq0, fi_hpa, fl_hpa, ar_hpf, fi_hpf_ne, fl_hpf_ne, ar_hpa_ne, hpa_hpa, hpf_hpf, nI_1, two_ne, fokZ, implies_true, Nat.reduceEqDiff, rc_0, rc_68, hF2.len, s2]
    exact hn H2 ⟨R, _, _, _, n, nS, nW, nG, nU, nN, tp, inv_a hI hF1 e1 sn1 u1 k1 hF2 e2 a2 u2 k2 acR_4 (hV.to (acS_show hb hn7 b5') (acU_b hbU hb) hbK (fun z => by rw [decide_eq_false (by omega)]; exact ⟨by rw [(ac_0 (Us := Us)).1]; exact (hz0 z).2.2.2.1, by rw [(ac_0 (Us := Us)).2]; exact (hz0 z).2.2.2.2.1, (hz0 z).2.2.2.2.2⟩))⟩ (by rw [hF2.len, hF1.len]; exact Nat.le_succ _) _ _ h5 h6
  · simp only [w0_1426, w0_1427, w0_1428, w0_1430, w0_1431, w0_1432, w0_1433, w0_1434, w0_1436, w0_1437, w0_1438, w0_1439, w0_1442, w0_1443, w0_1446, w0_1447, w0_1450, w0_1451, w0_1452, w0_1454, w0_1455, w0_1456, w0_1457, w0_1458, w0_1460, w0_1461, w0_1462, w0_1463, w0_1466, w0_1467, w0_1470, w0_1471, w0_1474, w0_1477, w0_1478, oK_some, cont_int, cont_intS, cont_none, cont_noneS, cont_long, cont_longS, true_and, and_true, false_and, and_false, true_implies, false_implies, not_true_eq_false, not_false_eq_true, eq_self, or_true, true_or, Option.isSome_some, hpf_length, hpa_length, bI_eq0, fi_hpa, fl_hpa, ar_hpf, fi_hpf_ne, fl_hpf_ne, ar_hpa_ne, hpa_hpa, hpf_hpf, nI_1, two_ne, fokZ, implies_true, Nat.reduceEqDiff, rc_0, rc_68, hS, q1, b1, c1, q2, b2, c2, hb2]
    refine C_show (is := true) hC hU hK hzG (fun H1 hF1 e1 sn1 u1 k1 => ?_)
    have s1 := hF1.shp
    simp only [w0_1426, w0_1427, w0_1428, w0_1430, w0_1431, w0_1432, w0_1433, w0_1434, w0_1436, w0_1437, w0_1438, w0_1439, w0_1442, w0_1443, w0_1446, w0_1447, w0_1450, w0_1451, w0_1452, w0_1454, w0_1455, w0_1456, w0_1457, w0_1458, w0_1460, w0_1461, w0_1462, w0_1463, w0_1466, w0_1467, w0_1470, w0_1471, w0_1474, w0_1477, w0_1478, oK_some, cont_int, cont_intS, cont_none, cont_noneS, cont_long, cont_longS, true_and, and_true, false_and, and_false, true_implies, false_implies, not_true_eq_false, not_false_eq_true, eq_self, or_true, true_or, Option.isSome_some, hpf_length, hpa_length, bI_eq0, fi_hpa, fl_hpa, ar_hpf, fi_hpf_ne, fl_hpf_ne, ar_hpa_ne, hpa_hpa, hpf_hpf, nI_1, two_ne, fokZ, implies_true, Nat.reduceEqDiff, rc_0, rc_68, hF1.len, s1, q1, b1, c1, q2, b2, c2, hb2]
    refine M_show (is := true) (hM.of hF1 (by decide) (by decide) (by decide) (by decide)) (mU.of hF1 (by decide) (by decide) (by decide)) (mK.of hF1 (by decide) (by decide) (by decide)) (fun H2 hF2 e0 e2 a2 u2 k2 => ?_)
    have s2 := hF2.shp
    simp only [w0_1426, w0_1427, w0_1428, w0_1430, w0_1431, w0_1432, w0_1433, w0_1434, w0_1436, w0_1437, w0_1438, w0_1439, w0_1442, w0_1443, w0_1446, w0_1447, w0_1450, w0_1451, w0_1452, w0_1454, w0_1455, w0_1456, w0_1457, w0_1458, w0_1460, w0_1461, w0_1462, w0_1463, w0_1466, w0_1467, w0_1470, w0_1471, w0_1474, w0_1477, w0_1478, oK_some, cont_int, cont_intS, cont_none, cont_noneS, cont_long, cont_longS, true_and, and_true, false_and, and_false, true_implies, false_implies, not_true_eq_false, not_false_eq_true, eq_self, or_true, true_or, Option.isSome_some, hpf_length, hpa_length, bI_eq0, fi_hpa, fl_hpa, ar_hpf, fi_hpf_ne, fl_hpf_ne, ar_hpa_ne, hpa_hpa, hpf_hpf, nI_1, two_ne, fokZ, implies_true, Nat.reduceEqDiff, rc_0, rc_68, hF2.len, s2]
    exact hn H2 ⟨R, _, _, _, n, nS, nW, nG, nU, nN, tp, inv_a hI hF1 e1 sn1 u1 k1 hF2 e2 a2 u2 k2 acR_4 (hV.to (acS_show hb hn7 b5') (acU_b hbU hb) hbK (fun z => by rw [decide_eq_false (by omega)]; exact ⟨by rw [(ac_0 (Us := Us)).1]; exact (hz0 z).2.2.2.1, by rw [(ac_0 (Us := Us)).2]; exact (hz0 z).2.2.2.2.1, (hz0 z).2.2.2.2.2⟩))⟩ (by rw [hF2.len, hF1.len]; exact Nat.le_succ _) _ _ h5 h6
theorem law_44 (hI : Ivv H R st Us Ks n nS nW nG nU nN tp) (hk : 6 * k + 6 ≤ scr.length) (hL : scr.length ≤ 3072) (h5 : Oi o5) (h6 : Oi o6) (hn : ∀ H', INV H' → H'.length ≤ H.length + 1 → ∀ o5 o6 : Option Value, Oi o5 → Oi o6 → Wp scr (d + 17) 0 1690 [some (.retAddr 1000), some (.ref 0), some (.ref 68), some (.ref 83), some (.int (nI (6 * k))), o5, o6] [] H' Q) : Wp scr (d + 17) 0 1479 [some (.retAddr 1000), some (.ref 0), some (.ref 68), some (.ref 83), some (.int (nI (6 * k))), o5, o6] [] H Q := by
  have hS := hI.1.shp
  obtain ⟨hVg, hVf, hVd, ⟨hl, hl1, ehl⟩, ⟨hFb, ⟨sh, hsh, esh⟩, ⟨up, hup, eup⟩, ⟨g, hg9, eg⟩⟩, hbU, hbK, hz0⟩ := hI.2.2.2.2.2.2.2.2.2
  have hgb : Gb st := ⟨g, by omega, eg⟩
  have b5' : nG ≤ 6 := hI.2.1.mn.2.2.2.2.2.2.2.2.2.1
  have h64 : sh < 64 := Nat.lt_of_lt_of_le hsh (Nat.pow_le_pow_right (by decide) b5')
  have hzG : n = 0 → nG = 0 := fun z => (hz0 z).1
  have hzW : n = 0 → nW = 0 := fun z => (hz0 z).2.1
  obtain ⟨hC, hM, hU, hK, mU, mK, hT, hr, hRm, hV⟩ := id hI
  have hb := hV.2.2.2.2.1
  have hn7 : n ≤ 7 := hM.mn.2.2.2.2.2.2.1
  have hW5 : nW ≤ 5 := hM.mn.2.2.2.2.2.2.2.2.1
  have q1 : nI (6 * k) + 1 = nI (6 * k + 1) := ixa (6 * k) 1 (v := 1) rfl
  have b1 : inb (nI (6 * k + 1)) scr.length = true := by rw [inb_nI (by omega)]; exact decide_eq_true (by omega)
  have c1 : (nI (6 * k + 1)).toNatClampNeg = 6 * k + 1 := nI_clamp (by omega)
  have q2 : nI (6 * k) + 2 = nI (6 * k + 2) := ixa (6 * k) 2 (v := 2) rfl
  have b2 : inb (nI (6 * k + 2)) scr.length = true := by rw [inb_nI (by omega)]; exact decide_eq_true (by omega)
  have c2 : (nI (6 * k + 2)).toNatClampNeg = 6 * k + 2 := nI_clamp (by omega)
  by_cases hb2 : scr.getD (6 * k + 2) 0 = 0
  · simp only [w0_1479, w0_1480, w0_1481, w0_1483, w0_1484, w0_1485, w0_1486, w0_1487, w0_1489, w0_1490, w0_1491, w0_1492, w0_1495, w0_1496, w0_1499, w0_1500, w0_1503, w0_1504, w0_1505, w0_1507, w0_1508, w0_1509, w0_1510, w0_1511, w0_1513, w0_1514, w0_1515, w0_1516, w0_1519, w0_1520, w0_1523, w0_1524, w0_1527, w0_1530, w0_1531, oK_some, cont_int, cont_intS, cont_none, cont_noneS, cont_long, cont_longS, true_and, and_true, false_and, and_false, true_implies, false_implies, not_true_eq_false, not_false_eq_true, eq_self, or_true, true_or, Option.isSome_some, hpf_length, hpa_length, bI_eq0, fi_hpa, fl_hpa, ar_hpf, fi_hpf_ne, fl_hpf_ne, ar_hpa_ne, hpa_hpa, hpf_hpf, nI_1, two_ne, fokZ, implies_true, Nat.reduceEqDiff, rc_0, rc_68, hS, q1, b1, c1, q2, b2, c2, hb2]
    refine C_put (is := false) hC hU hK hzW (fun H1 hF1 e1 sn1 u1 k1 => ?_)
    have s1 := hF1.shp
    simp only [w0_1479, w0_1480, w0_1481, w0_1483, w0_1484, w0_1485, w0_1486, w0_1487, w0_1489, w0_1490, w0_1491, w0_1492, w0_1495, w0_1496, w0_1499, w0_1500, w0_1503, w0_1504, w0_1505, w0_1507, w0_1508, w0_1509, w0_1510, w0_1511, w0_1513, w0_1514, w0_1515, w0_1516, w0_1519, w0_1520, w0_1523, w0_1524, w0_1527, w0_1530, w0_1531, oK_some, cont_int, cont_intS, cont_none, cont_noneS, cont_long, cont_longS, true_and, and_true, false_and, and_false, true_implies, false_implies, not_true_eq_false, not_false_eq_true, eq_self, or_true, true_or, Option.isSome_some, hpf_length, hpa_length, bI_eq0, fi_hpa, fl_hpa, ar_hpf, fi_hpf_ne, fl_hpf_ne, ar_hpa_ne, hpa_hpa, hpf_hpf, nI_1, two_ne, fokZ, implies_true, Nat.reduceEqDiff, rc_0, rc_68, hF1.len, s1, q1, b1, c1, q2, b2, c2, hb2]
    refine M_put (is := false) (hM.of hF1 (by decide) (by decide) (by decide) (by decide)) (mU.of hF1 (by decide) (by decide) (by decide)) (mK.of hF1 (by decide) (by decide) (by decide)) (fun H2 hF2 e0 e2 a2 u2 k2 => ?_)
    have s2 := hF2.shp
    simp only [w0_1479, w0_1480, w0_1481, w0_1483, w0_1484, w0_1485, w0_1486, w0_1487, w0_1489, w0_1490, w0_1491, w0_1492, w0_1495, w0_1496, w0_1499, w0_1500, w0_1503, w0_1504, w0_1505, w0_1507, w0_1508, w0_1509, w0_1510, w0_1511, w0_1513, w0_1514, w0_1515, w0_1516, w0_1519, w0_1520, w0_1523, w0_1524, w0_1527, w0_1530, w0_1531, oK_some, cont_int, cont_intS, cont_none, cont_noneS, cont_long, cont_longS, true_and, and_true, false_and, and_false, true_implies, false_implies, not_true_eq_false, not_false_eq_true, eq_self, or_true, true_or, Option.isSome_some, hpf_length, hpa_length, bI_eq0, fi_hpa, fl_hpa, ar_hpf, fi_hpf_ne, fl_hpf_ne, ar_hpa_ne, hpa_hpa, hpf_hpf, nI_1, two_ne, fokZ, implies_true, Nat.reduceEqDiff, rc_0, rc_68, hF2.len, s2]
    exact hn H2 ⟨R, _, _, _, n, nS, nW, nG, nU, nN, tp, inv_a hI hF1 e1 sn1 u1 k1 hF2 e2 a2 u2 k2 acR_4 (hV.to (acS_put hb hn7 (by omega)) (acU_b hbU hb) hbK (fun z => by rw [decide_eq_false (by omega)]; exact ⟨by rw [(ac_0 (Us := Us)).1]; exact (hz0 z).2.2.2.1, by rw [(ac_0 (Us := Us)).2]; exact (hz0 z).2.2.2.2.1, (hz0 z).2.2.2.2.2⟩))⟩ (by rw [hF2.len, hF1.len]; exact Nat.le_succ _) _ _ h5 h6
  · simp only [w0_1479, w0_1480, w0_1481, w0_1483, w0_1484, w0_1485, w0_1486, w0_1487, w0_1489, w0_1490, w0_1491, w0_1492, w0_1495, w0_1496, w0_1499, w0_1500, w0_1503, w0_1504, w0_1505, w0_1507, w0_1508, w0_1509, w0_1510, w0_1511, w0_1513, w0_1514, w0_1515, w0_1516, w0_1519, w0_1520, w0_1523, w0_1524, w0_1527, w0_1530, w0_1531, oK_some, cont_int, cont_intS, cont_none, cont_noneS, cont_long, cont_longS, true_and, and_true, false_and, and_false, true_implies, false_implies, not_true_eq_false, not_false_eq_true, eq_self, or_true, true_or, Option.isSome_some, hpf_length, hpa_length, bI_eq0, fi_hpa, fl_hpa, ar_hpf, fi_hpf_ne, fl_hpf_ne, ar_hpa_ne, hpa_hpa, hpf_hpf, nI_1, two_ne, fokZ, implies_true, Nat.reduceEqDiff, rc_0, rc_68, hS, q1, b1, c1, q2, b2, c2, hb2]
    refine C_put (is := true) hC hU hK hzW (fun H1 hF1 e1 sn1 u1 k1 => ?_)
    have s1 := hF1.shp
    simp only [w0_1479, w0_1480, w0_1481, w0_1483, w0_1484, w0_1485, w0_1486, w0_1487, w0_1489, w0_1490, w0_1491, w0_1492, w0_1495, w0_1496, w0_1499, w0_1500, w0_1503, w0_1504, w0_1505, w0_1507, w0_1508, w0_1509, w0_1510, w0_1511, w0_1513, w0_1514, w0_1515, w0_1516, w0_1519, w0_1520, w0_1523, w0_1524, w0_1527, w0_1530, w0_1531, oK_some, cont_int, cont_intS, cont_none, cont_noneS, cont_long, cont_longS, true_and, and_true, false_and, and_false, true_implies, false_implies, not_true_eq_false, not_false_eq_true, eq_self, or_true, true_or, Option.isSome_some, hpf_length, hpa_length, bI_eq0, fi_hpa, fl_hpa, ar_hpf, fi_hpf_ne, fl_hpf_ne, ar_hpa_ne, hpa_hpa, hpf_hpf, nI_1, two_ne, fokZ, implies_true, Nat.reduceEqDiff, rc_0, rc_68, hF1.len, s1, q1, b1, c1, q2, b2, c2, hb2]
    refine M_put (is := true) (hM.of hF1 (by decide) (by decide) (by decide) (by decide)) (mU.of hF1 (by decide) (by decide) (by decide)) (mK.of hF1 (by decide) (by decide) (by decide)) (fun H2 hF2 e0 e2 a2 u2 k2 => ?_)
    have s2 := hF2.shp
    simp only [w0_1479, w0_1480, w0_1481, w0_1483, w0_1484, w0_1485, w0_1486, w0_1487, w0_1489, w0_1490, w0_1491, w0_1492, w0_1495, w0_1496, w0_1499, w0_1500, w0_1503, w0_1504, w0_1505, w0_1507, w0_1508, w0_1509, w0_1510, w0_1511, w0_1513, w0_1514, w0_1515, w0_1516, w0_1519, w0_1520, w0_1523, w0_1524, w0_1527, w0_1530, w0_1531, oK_some, cont_int, cont_intS, cont_none, cont_noneS, cont_long, cont_longS, true_and, and_true, false_and, and_false, true_implies, false_implies, not_true_eq_false, not_false_eq_true, eq_self, or_true, true_or, Option.isSome_some, hpf_length, hpa_length, bI_eq0, fi_hpa, fl_hpa, ar_hpf, fi_hpf_ne, fl_hpf_ne, ar_hpa_ne, hpa_hpa, hpf_hpf, nI_1, two_ne, fokZ, implies_true, Nat.reduceEqDiff, rc_0, rc_68, hF2.len, s2]
    exact hn H2 ⟨R, _, _, _, n, nS, nW, nG, nU, nN, tp, inv_a hI hF1 e1 sn1 u1 k1 hF2 e2 a2 u2 k2 acR_4 (hV.to (acS_put hb hn7 (by omega)) (acU_b hbU hb) hbK (fun z => by rw [decide_eq_false (by omega)]; exact ⟨by rw [(ac_0 (Us := Us)).1]; exact (hz0 z).2.2.2.1, by rw [(ac_0 (Us := Us)).2]; exact (hz0 z).2.2.2.2.1, (hz0 z).2.2.2.2.2⟩))⟩ (by rw [hF2.len, hF1.len]; exact Nat.le_succ _) _ _ h5 h6
theorem law_45 (hI : Ivv H R st Us Ks n nS nW nG nU nN tp) (hk : 6 * k + 6 ≤ scr.length) (hL : scr.length ≤ 3072) (h5 : Oi o5) (h6 : Oi o6) (hn : ∀ H', INV H' → H'.length ≤ H.length + 1 → ∀ o5 o6 : Option Value, Oi o5 → Oi o6 → Wp scr (d + 17) 0 1690 [some (.retAddr 1000), some (.ref 0), some (.ref 68), some (.ref 83), some (.int (nI (6 * k))), o5, o6] [] H' Q) : Wp scr (d + 17) 0 1532 [some (.retAddr 1000), some (.ref 0), some (.ref 68), some (.ref 83), some (.int (nI (6 * k))), o5, o6] [] H Q := by
  have hS := hI.1.shp
  obtain ⟨hVg, hVf, hVd, ⟨hl, hl1, ehl⟩, ⟨hFb, ⟨sh, hsh, esh⟩, ⟨up, hup, eup⟩, ⟨g, hg9, eg⟩⟩, hbU, hbK, hz0⟩ := hI.2.2.2.2.2.2.2.2.2
  have hgb : Gb st := ⟨g, by omega, eg⟩
  have b5' : nG ≤ 6 := hI.2.1.mn.2.2.2.2.2.2.2.2.2.1
  have h64 : sh < 64 := Nat.lt_of_lt_of_le hsh (Nat.pow_le_pow_right (by decide) b5')
  have hzG : n = 0 → nG = 0 := fun z => (hz0 z).1
  have hzW : n = 0 → nW = 0 := fun z => (hz0 z).2.1
  obtain ⟨hC, hM, hU, hK, mU, mK, hT, hr, hRm, hV⟩ := id hI
  have hb := hV.2.2.2.2.1
  have hn7 : n ≤ 7 := hM.mn.2.2.2.2.2.2.1
  have hW5 : nW ≤ 5 := hM.mn.2.2.2.2.2.2.2.2.1
  simp only [w0_1532, w0_1533, w0_1536, w0_1537, w0_1540, w0_1543, w0_1544, oK_some, cont_int, cont_intS, cont_none, cont_noneS, cont_long, cont_longS, true_and, and_true, false_and, and_false, true_implies, false_implies, not_true_eq_false, not_false_eq_true, eq_self, or_true, true_or, Option.isSome_some, hpf_length, hpa_length, bI_eq0, fi_hpa, fl_hpa, ar_hpf, fi_hpf_ne, fl_hpf_ne, ar_hpa_ne, hpa_hpa, hpf_hpf, nI_1, two_ne, fokZ, implies_true, Nat.reduceEqDiff, rc_0, rc_68, hS]
  refine C_day hC hU hK eg hg9 (fun H1 hF1 e1 sn1 u1 k1 => ?_)
  have s1 := hF1.shp
  simp only [w0_1532, w0_1533, w0_1536, w0_1537, w0_1540, w0_1543, w0_1544, oK_some, cont_int, cont_intS, cont_none, cont_noneS, cont_long, cont_longS, true_and, and_true, false_and, and_false, true_implies, false_implies, not_true_eq_false, not_false_eq_true, eq_self, or_true, true_or, Option.isSome_some, hpf_length, hpa_length, bI_eq0, fi_hpa, fl_hpa, ar_hpf, fi_hpf_ne, fl_hpf_ne, ar_hpa_ne, hpa_hpa, hpf_hpf, nI_1, two_ne, fokZ, implies_true, Nat.reduceEqDiff, rc_0, rc_68, hF1.len, s1]
  refine M_day (hM.of hF1 (by decide) (by decide) (by decide) (by decide)) (mU.of hF1 (by decide) (by decide) (by decide)) (mK.of hF1 (by decide) (by decide) (by decide)) (fun H2 hF2 e0 e2 a2 u2 k2 => ?_)
  have s2 := hF2.shp
  simp only [w0_1532, w0_1533, w0_1536, w0_1537, w0_1540, w0_1543, w0_1544, oK_some, cont_int, cont_intS, cont_none, cont_noneS, cont_long, cont_longS, true_and, and_true, false_and, and_false, true_implies, false_implies, not_true_eq_false, not_false_eq_true, eq_self, or_true, true_or, Option.isSome_some, hpf_length, hpa_length, bI_eq0, fi_hpa, fl_hpa, ar_hpf, fi_hpf_ne, fl_hpf_ne, ar_hpa_ne, hpa_hpa, hpf_hpf, nI_1, two_ne, fokZ, implies_true, Nat.reduceEqDiff, rc_0, rc_68, hF2.len, s2]
  exact hn H2 ⟨R, _, _, _, n, nS, nW, nG, nU, nN, tp, inv_a hI hF1 e1 sn1 u1 k1 hF2 e2 a2 u2 k2 (by unfold dyT; split; split <;> decide; decide) (by
      by_cases hd : dyT n st = 0
      · rw [if_pos hd, if_pos hd]
        have hn0 : 0 < n := Classical.byContradiction (fun z => by unfold dyT at hd; rw [if_neg z] at hd; exact absurd hd (by decide))
        have h9 : ¬ st.getD 9 0 = 999 := fun z => by unfold dyT at hd; rw [if_pos hn0, if_pos z] at hd; exact absurd hd (by decide)
        exact hV.to (day_b hb hn7 h9) (push_b hbU hb) hbK (fun z => by omega)
      · rw [if_neg hd, if_neg hd]; exact hV)⟩ (by rw [hF2.len, hF1.len]; exact Nat.le_succ _) _ _ h5 h6
theorem law_46 (hI : Ivv H R st Us Ks n nS nW nG nU nN tp) (hk : 6 * k + 6 ≤ scr.length) (hL : scr.length ≤ 3072) (h5 : Oi o5) (h6 : Oi o6) (hn : ∀ H', INV H' → H'.length ≤ H.length + 1 → ∀ o5 o6 : Option Value, Oi o5 → Oi o6 → Wp scr (d + 17) 0 1690 [some (.retAddr 1000), some (.ref 0), some (.ref 68), some (.ref 83), some (.int (nI (6 * k))), o5, o6] [] H' Q) : Wp scr (d + 17) 0 1545 [some (.retAddr 1000), some (.ref 0), some (.ref 68), some (.ref 83), some (.int (nI (6 * k))), o5, o6] [] H Q := by
  have hS := hI.1.shp
  obtain ⟨hVg, hVf, hVd, ⟨hl, hl1, ehl⟩, ⟨hFb, ⟨sh, hsh, esh⟩, ⟨up, hup, eup⟩, ⟨g, hg9, eg⟩⟩, hbU, hbK, hz0⟩ := hI.2.2.2.2.2.2.2.2.2
  have hgb : Gb st := ⟨g, by omega, eg⟩
  have b5' : nG ≤ 6 := hI.2.1.mn.2.2.2.2.2.2.2.2.2.1
  have h64 : sh < 64 := Nat.lt_of_lt_of_le hsh (Nat.pow_le_pow_right (by decide) b5')
  have hzG : n = 0 → nG = 0 := fun z => (hz0 z).1
  have hzW : n = 0 → nW = 0 := fun z => (hz0 z).2.1
  obtain ⟨hC, hM, hU, hK, mU, mK, hT, hr, hRm, hV⟩ := id hI
  have hb := hV.2.2.2.2.1
  have hn7 : n ≤ 7 := hM.mn.2.2.2.2.2.2.1
  have hW5 : nW ≤ 5 := hM.mn.2.2.2.2.2.2.2.2.1
  simp only [w0_1545, w0_1546, w0_1549, w0_1550, w0_1553, w0_1556, w0_1557, oK_some, cont_int, cont_intS, cont_none, cont_noneS, cont_long, cont_longS, true_and, and_true, false_and, and_false, true_implies, false_implies, not_true_eq_false, not_false_eq_true, eq_self, or_true, true_or, Option.isSome_some, hpf_length, hpa_length, bI_eq0, fi_hpa, fl_hpa, ar_hpf, fi_hpf_ne, fl_hpf_ne, ar_hpa_ne, hpa_hpa, hpf_hpf, nI_1, two_ne, fokZ, implies_true, Nat.reduceEqDiff, rc_0, rc_68, hS]
  refine C_undo hC hU hK (fun H1 hF1 e1 sn1 u1 k1 => ?_)
  have s1 := hF1.shp
  simp only [w0_1545, w0_1546, w0_1549, w0_1550, w0_1553, w0_1556, w0_1557, oK_some, cont_int, cont_intS, cont_none, cont_noneS, cont_long, cont_longS, true_and, and_true, false_and, and_false, true_implies, false_implies, not_true_eq_false, not_false_eq_true, eq_self, or_true, true_or, Option.isSome_some, hpf_length, hpa_length, bI_eq0, fi_hpa, fl_hpa, ar_hpf, fi_hpf_ne, fl_hpf_ne, ar_hpa_ne, hpa_hpa, hpf_hpf, nI_1, two_ne, fokZ, implies_true, Nat.reduceEqDiff, rc_0, rc_68, hF1.len, s1]
  refine M_undo (hM.of hF1 (by decide) (by decide) (by decide) (by decide)) (mU.of hF1 (by decide) (by decide) (by decide)) (mK.of hF1 (by decide) (by decide) (by decide)) (fun H2 hF2 e0 e2 a2 u2 k2 => ?_)
  have s2 := hF2.shp
  simp only [w0_1545, w0_1546, w0_1549, w0_1550, w0_1553, w0_1556, w0_1557, oK_some, cont_int, cont_intS, cont_none, cont_noneS, cont_long, cont_longS, true_and, and_true, false_and, and_false, true_implies, false_implies, not_true_eq_false, not_false_eq_true, eq_self, or_true, true_or, Option.isSome_some, hpf_length, hpa_length, bI_eq0, fi_hpa, fl_hpa, ar_hpf, fi_hpf_ne, fl_hpf_ne, ar_hpa_ne, hpa_hpa, hpf_hpf, nI_1, two_ne, fokZ, implies_true, Nat.reduceEqDiff, rc_0, rc_68, hF2.len, s2]
  exact hn H2 ⟨R, _, _, _, n, nS, nW, nG, nU, nN, tp, inv_a hI hF1 e1 sn1 u1 k1 hF2 e2 a2 u2 k2 (by split <;> decide) (by
      by_cases hd : Us.length = 0
      · rw [if_pos hd]
        exact hV.to hb (fun s q => hbU s (List.mem_of_mem_take q)) hbK (fun z => ⟨(hz0 z).2.2.2.1, by rw [(hz0 z).2.2.2.2.1]; rfl, (hz0 z).2.2.2.2.2⟩)
      · rw [if_neg hd]
        exact hV.to (hbU _ (getD_mem (by omega))) (fun s q => hbU s (List.mem_of_mem_take q)) hbK (fun z => absurd (by rw [(hz0 z).2.2.2.2.1]; rfl) hd))⟩ (by rw [hF2.len, hF1.len]; exact Nat.le_succ _) _ _ h5 h6
theorem law_47 (hI : Ivv H R st Us Ks n nS nW nG nU nN tp) (hk : 6 * k + 6 ≤ scr.length) (hL : scr.length ≤ 3072) (h5 : Oi o5) (h6 : Oi o6) (hn : ∀ H', INV H' → H'.length ≤ H.length + 1 → ∀ o5 o6 : Option Value, Oi o5 → Oi o6 → Wp scr (d + 17) 0 1690 [some (.retAddr 1000), some (.ref 0), some (.ref 68), some (.ref 83), some (.int (nI (6 * k))), o5, o6] [] H' Q) : Wp scr (d + 17) 0 1558 [some (.retAddr 1000), some (.ref 0), some (.ref 68), some (.ref 83), some (.int (nI (6 * k))), o5, o6] [] H Q := by
  have hS := hI.1.shp
  obtain ⟨hVg, hVf, hVd, ⟨hl, hl1, ehl⟩, ⟨hFb, ⟨sh, hsh, esh⟩, ⟨up, hup, eup⟩, ⟨g, hg9, eg⟩⟩, hbU, hbK, hz0⟩ := hI.2.2.2.2.2.2.2.2.2
  have hgb : Gb st := ⟨g, by omega, eg⟩
  have b5' : nG ≤ 6 := hI.2.1.mn.2.2.2.2.2.2.2.2.2.1
  have h64 : sh < 64 := Nat.lt_of_lt_of_le hsh (Nat.pow_le_pow_right (by decide) b5')
  have hzG : n = 0 → nG = 0 := fun z => (hz0 z).1
  have hzW : n = 0 → nW = 0 := fun z => (hz0 z).2.1
  obtain ⟨hC, hM, hU, hK, mU, mK, hT, hr, hRm, hV⟩ := id hI
  have hb := hV.2.2.2.2.1
  have hn7 : n ≤ 7 := hM.mn.2.2.2.2.2.2.1
  have hW5 : nW ≤ 5 := hM.mn.2.2.2.2.2.2.2.2.1
  simp only [w0_1558, w0_1559, w0_1562, w0_1563, w0_1566, w0_1569, w0_1570, oK_some, cont_int, cont_intS, cont_none, cont_noneS, cont_long, cont_longS, true_and, and_true, false_and, and_false, true_implies, false_implies, not_true_eq_false, not_false_eq_true, eq_self, or_true, true_or, Option.isSome_some, hpf_length, hpa_length, bI_eq0, fi_hpa, fl_hpa, ar_hpf, fi_hpf_ne, fl_hpf_ne, ar_hpa_ne, hpa_hpa, hpf_hpf, nI_1, two_ne, fokZ, implies_true, Nat.reduceEqDiff, rc_0, rc_68, hS]
  refine C_image hC hU hK (fun H1 hF1 e1 sn1 u1 k1 => ?_)
  have s1 := hF1.shp
  simp only [w0_1558, w0_1559, w0_1562, w0_1563, w0_1566, w0_1569, w0_1570, oK_some, cont_int, cont_intS, cont_none, cont_noneS, cont_long, cont_longS, true_and, and_true, false_and, and_false, true_implies, false_implies, not_true_eq_false, not_false_eq_true, eq_self, or_true, true_or, Option.isSome_some, hpf_length, hpa_length, bI_eq0, fi_hpa, fl_hpa, ar_hpf, fi_hpf_ne, fl_hpf_ne, ar_hpa_ne, hpa_hpa, hpf_hpf, nI_1, two_ne, fokZ, implies_true, Nat.reduceEqDiff, rc_0, rc_68, hF1.len, s1]
  refine M_image (hM.of hF1 (by decide) (by decide) (by decide) (by decide)) (mU.of hF1 (by decide) (by decide) (by decide)) (mK.of hF1 (by decide) (by decide) (by decide)) (fun H2 hF2 e0 e2 a2 u2 k2 => ?_)
  have s2 := hF2.shp
  simp only [w0_1558, w0_1559, w0_1562, w0_1563, w0_1566, w0_1569, w0_1570, oK_some, cont_int, cont_intS, cont_none, cont_noneS, cont_long, cont_longS, true_and, and_true, false_and, and_false, true_implies, false_implies, not_true_eq_false, not_false_eq_true, eq_self, or_true, true_or, Option.isSome_some, hpf_length, hpa_length, bI_eq0, fi_hpa, fl_hpa, ar_hpf, fi_hpf_ne, fl_hpf_ne, ar_hpa_ne, hpa_hpa, hpf_hpf, nI_1, two_ne, fokZ, implies_true, Nat.reduceEqDiff, rc_0, rc_68, hF2.len, s2]
  exact hn H2 ⟨R, _, _, _, n, nS, nW, nG, nU, nN, tp, inv_a hI hF1 e1 sn1 u1 k1 hF2 e2 a2 u2 k2 (by unfold imT; split; split <;> decide; decide) (by
      by_cases hd : imT n Ks = 0
      · rw [if_pos hd]
        have hn0 : 0 < n := Classical.byContradiction (fun z => by unfold imT at hd; rw [if_neg z] at hd; exact absurd hd (by decide))
        exact hV.to hb hbU (fun s q => by
          rcases List.mem_append.mp q with z | z
          · exact hbK s z
          · rw [List.mem_singleton] at z; rw [z]; exact hb) (fun z => by omega)
      · rw [if_neg hd]; exact hV)⟩ (by rw [hF2.len, hF1.len]; exact Nat.le_succ _) _ _ h5 h6
theorem law_48 (hI : Ivv H R st Us Ks n nS nW nG nU nN tp) (hk : 6 * k + 6 ≤ scr.length) (hL : scr.length ≤ 3072) (h5 : Oi o5) (h6 : Oi o6) (hn : ∀ H', INV H' → H'.length ≤ H.length + 1 → ∀ o5 o6 : Option Value, Oi o5 → Oi o6 → Wp scr (d + 17) 0 1690 [some (.retAddr 1000), some (.ref 0), some (.ref 68), some (.ref 83), some (.int (nI (6 * k))), o5, o6] [] H' Q) : Wp scr (d + 17) 0 1571 [some (.retAddr 1000), some (.ref 0), some (.ref 68), some (.ref 83), some (.int (nI (6 * k))), o5, o6] [] H Q := by
  have hS := hI.1.shp
  obtain ⟨hVg, hVf, hVd, ⟨hl, hl1, ehl⟩, ⟨hFb, ⟨sh, hsh, esh⟩, ⟨up, hup, eup⟩, ⟨g, hg9, eg⟩⟩, hbU, hbK, hz0⟩ := hI.2.2.2.2.2.2.2.2.2
  have hgb : Gb st := ⟨g, by omega, eg⟩
  have b5' : nG ≤ 6 := hI.2.1.mn.2.2.2.2.2.2.2.2.2.1
  have h64 : sh < 64 := Nat.lt_of_lt_of_le hsh (Nat.pow_le_pow_right (by decide) b5')
  have hzG : n = 0 → nG = 0 := fun z => (hz0 z).1
  have hzW : n = 0 → nW = 0 := fun z => (hz0 z).2.1
  obtain ⟨hC, hM, hU, hK, mU, mK, hT, hr, hRm, hV⟩ := id hI
  have hb := hV.2.2.2.2.1
  have hn7 : n ≤ 7 := hM.mn.2.2.2.2.2.2.1
  have hW5 : nW ≤ 5 := hM.mn.2.2.2.2.2.2.2.2.1
  have q1 : nI (6 * k) + 1 = nI (6 * k + 1) := ixa (6 * k) 1 (v := 1) rfl
  have b1 : inb (nI (6 * k + 1)) scr.length = true := by rw [inb_nI (by omega)]; exact decide_eq_true (by omega)
  have c1 : (nI (6 * k + 1)).toNatClampNeg = 6 * k + 1 := nI_clamp (by omega)
  simp only [w0_1571, w0_1572, w0_1573, w0_1575, w0_1576, w0_1577, w0_1578, w0_1581, w0_1582, w0_1583, w0_1585, w0_1586, w0_1587, w0_1588, w0_1591, w0_1594, w0_1595, oK_some, cont_int, cont_intS, cont_none, cont_noneS, cont_long, cont_longS, true_and, and_true, false_and, and_false, true_implies, false_implies, not_true_eq_false, not_false_eq_true, eq_self, or_true, true_or, Option.isSome_some, hpf_length, hpa_length, bI_eq0, fi_hpa, fl_hpa, ar_hpf, fi_hpf_ne, fl_hpf_ne, ar_hpa_ne, hpa_hpa, hpf_hpf, nI_1, two_ne, fokZ, implies_true, Nat.reduceEqDiff, rc_0, rc_68, hS, q1, b1, c1]
  refine C_back hC hU hK (fun H1 hF1 e1 sn1 u1 k1 => ?_)
  have s1 := hF1.shp
  simp only [w0_1571, w0_1572, w0_1573, w0_1575, w0_1576, w0_1577, w0_1578, w0_1581, w0_1582, w0_1583, w0_1585, w0_1586, w0_1587, w0_1588, w0_1591, w0_1594, w0_1595, oK_some, cont_int, cont_intS, cont_none, cont_noneS, cont_long, cont_longS, true_and, and_true, false_and, and_false, true_implies, false_implies, not_true_eq_false, not_false_eq_true, eq_self, or_true, true_or, Option.isSome_some, hpf_length, hpa_length, bI_eq0, fi_hpa, fl_hpa, ar_hpf, fi_hpf_ne, fl_hpf_ne, ar_hpa_ne, hpa_hpa, hpf_hpf, nI_1, two_ne, fokZ, implies_true, Nat.reduceEqDiff, rc_0, rc_68, hF1.len, s1, q1, b1, c1]
  refine M_back (hM.of hF1 (by decide) (by decide) (by decide) (by decide)) (mU.of hF1 (by decide) (by decide) (by decide)) (mK.of hF1 (by decide) (by decide) (by decide)) (fun H2 hF2 e0 e2 a2 u2 k2 => ?_)
  have s2 := hF2.shp
  simp only [w0_1571, w0_1572, w0_1573, w0_1575, w0_1576, w0_1577, w0_1578, w0_1581, w0_1582, w0_1583, w0_1585, w0_1586, w0_1587, w0_1588, w0_1591, w0_1594, w0_1595, oK_some, cont_int, cont_intS, cont_none, cont_noneS, cont_long, cont_longS, true_and, and_true, false_and, and_false, true_implies, false_implies, not_true_eq_false, not_false_eq_true, eq_self, or_true, true_or, Option.isSome_some, hpf_length, hpa_length, bI_eq0, fi_hpa, fl_hpa, ar_hpf, fi_hpf_ne, fl_hpf_ne, ar_hpa_ne, hpa_hpa, hpf_hpf, nI_1, two_ne, fokZ, implies_true, Nat.reduceEqDiff, rc_0, rc_68, hF2.len, s2]
  exact hn H2 ⟨R, _, _, _, n, nS, nW, nG, nU, nN, tp, inv_a hI hF1 e1 sn1 u1 k1 hF2 e2 a2 u2 k2 (by split <;> decide) (by
      by_cases hd : 0 ≤ scr.getD (6 * k + 1) 0 ∧ scr.getD (6 * k + 1) 0 < nI Ks.length
      · rw [if_pos hd, if_pos hd]
        have hK3 : Ks.length ≤ 3 := mK.2.1
        obtain ⟨_, lk⟩ := of_row hd (by omega)
        exact hV.to (hbK _ (getD_mem lk)) (fun s q => absurd q (by simp)) hbK (fun z => by
          rw [(hz0 z).2.2.2.2.2] at lk
          exact absurd lk (Nat.not_lt_zero _))
      · rw [if_neg hd, if_neg hd]; exact hV)⟩ (by rw [hF2.len, hF1.len]; exact Nat.le_succ _) _ _ h5 h6
end LAW3
