/-! ===== reading: lines added to the draft ===== -/
section DHA
variable {xs R : List Int32} {n c2 c3 c4 c5 c6 c7 : Nat} {t : Tk} {H : List AC}
theorem DH_sign {r dd co : Nat} {tl : Int32} (h : DH H xs n R c2 c3 c4 c5 c6 c7) (h8 : ¬ rg R 8 = 0) (hc : c5 < 6) (hrc : r < c2) (hd : dd ≤ 20) (hco : co ≤ 99) : DH (hpf (hpa H 24 (ad4 (ar H 24) c5 (nI r) tl (nI co) (nI dd))) 23 2 (.int (nI (c5 + 1)))) xs n (((((R.set (94 + 4 * c5) (nI r)).set (94 + 4 * c5 + 1) tl).set (94 + 4 * c5 + 2) (nI co)).set (94 + 4 * c5 + 3) (nI dd)).set 5 (nI (c5 + 1))) c2 c3 c4 (c5 + 1) c6 c7 ∧ Fg [24] [(23, 2)] H (hpf (hpa H 24 (ad4 (ar H 24) c5 (nI r) tl (nI co) (nI dd))) 23 2 (.int (nI (c5 + 1)))) := by
  obtain ⟨hS, hr, ⟨d2, d3, d4, d5, d6, d7⟩, hT, h9, e0, e1, e6, zz⟩ := h
  have hV := hT.2.2.2.2.2.2.2.2
  have l0 : R.length = 211 := hV.1
  have b2 := hT.1.2.2.2.2.2.2.1
  have s1 : Shp (hpa H 24 (ad4 (ar H 24) c5 (nI r) tl (nI co) (nI dd))) := sa_24 hS (by rw [ad4_len, gn_24 hS])
  have hF : Fg [24] [(23, 2)] H (hpf (hpa H 24 (ad4 (ar H 24) c5 (nI r) tl (nI co) (nI dd))) 23 2 (.int (nI (c5 + 1)))) := ((fg_hpa hS (by rw [ad4_len]) (by decide)).trans (fg_hpf (a := 23) (f := 2) (ci := 9) s1 rfl (by decide)))
  have a1 : ar (hpf (hpa H 24 (ad4 (ar H 24) c5 (nI r) tl (nI co) (nI dd))) 23 2 (.int (nI (c5 + 1)))) 24 = ad4 (ar H 24) c5 (nI r) tl (nI co) (nI dd) := by rw [ar_hpf]; exact ae_24 hS
  have a2 : fi (hpf (hpa H 24 (ad4 (ar H 24) c5 (nI r) tl (nI co) (nI dd))) 23 2 (.int (nI (c5 + 1)))) 23 2 = nI (c5 + 1) := fe_23_2 s1
  generalize (hpf (hpa H 24 (ad4 (ar H 24) c5 (nI r) tl (nI co) (nI dd))) 23 2 (.int (nI (c5 + 1)))) = X at hF a1 a2 ⊢
  have hD := dt_sign (tl := tl) hT hc (gn_24 hS) hrc hd hco (Nat.le_refl n)
  generalize hR' : (((((R.set (94 + 4 * c5) (nI r)).set (94 + 4 * c5 + 1) tl).set (94 + 4 * c5 + 2) (nI co)).set (94 + 4 * c5 + 3) (nI dd)).set 5 (nI (c5 + 1))) = R' at hD ⊢
  have o0 : rg R' 0 = rg R 0 := by rw [← hR']; repeat rw [rgset (by omega)]
  have o1 : rg R' 1 = rg R 1 := by rw [← hR']; repeat rw [rgset (by omega)]
  have o8 : rg R' 8 = rg R 8 := by rw [← hR']; repeat rw [rgset (by omega)]
  refine ⟨⟨hF.shp, hr.og hF (by decide) (by decide), ⟨?_, ?_, ?_, ?_, ?_, ?_⟩, ?_, h9, ?_, ?_, ?_, fun q => absurd (o8 ▸ q) h8⟩, hF⟩
  · rw [hF.int (by decide) (by decide)]; exact d2
  · rw [hF.int (by decide) (by decide)]; exact d3
  · rw [hF.int (by decide) (by decide)]; exact d4
  · exact a2
  · rw [hF.int (by decide) (by decide)]; exact d6
  · rw [hF.int (by decide) (by decide)]; exact d7
  · rw [hF.arr (a := 18) (by decide), hF.arr (a := 20) (by decide), hF.arr (a := 22) (by decide), a1, hF.arr (a := 26) (by decide), hF.arr (a := 28) (by decide)]; exact hD
  · rw [hF.int (by decide) (by decide), o0]; exact e0
  · rw [hF.int (by decide) (by decide), o1]; exact e1
  · rw [hF.int (by decide) (by decide), o8]; exact e6
theorem DH_rum {r dd : Nat} {tl z : Int32} (h : DH H xs n R c2 c3 c4 c5 c6 c7) (h8 : ¬ rg R 8 = 0) (hc : c6 < 5) (hrc : r < c2) (hd : dd ≤ 20) : DH (hpf (hpa H 26 (ad4 (ar H 26) c6 (nI r) tl z (nI dd))) 25 2 (.int (nI (c6 + 1)))) xs n ((((R.set (118 + 3 * c6) (nI r)).set (118 + 3 * c6 + 1) tl).set (118 + 3 * c6 + 2) (nI dd)).set 6 (nI (c6 + 1))) c2 c3 c4 c5 (c6 + 1) c7 ∧ Fg [26] [(25, 2)] H (hpf (hpa H 26 (ad4 (ar H 26) c6 (nI r) tl z (nI dd))) 25 2 (.int (nI (c6 + 1)))) := by
  obtain ⟨hS, hr, ⟨d2, d3, d4, d5, d6, d7⟩, hT, h9, e0, e1, e6, zz⟩ := h
  have hV := hT.2.2.2.2.2.2.2.2
  have l0 : R.length = 211 := hV.1
  have b2 := hT.1.2.2.2.2.2.2.1
  have s1 : Shp (hpa H 26 (ad4 (ar H 26) c6 (nI r) tl z (nI dd))) := sa_26 hS (by rw [ad4_len, gn_26 hS])
  have hF : Fg [26] [(25, 2)] H (hpf (hpa H 26 (ad4 (ar H 26) c6 (nI r) tl z (nI dd))) 25 2 (.int (nI (c6 + 1)))) := ((fg_hpa hS (by rw [ad4_len]) (by decide)).trans (fg_hpf (a := 25) (f := 2) (ci := 9) s1 rfl (by decide)))
  have a1 : ar (hpf (hpa H 26 (ad4 (ar H 26) c6 (nI r) tl z (nI dd))) 25 2 (.int (nI (c6 + 1)))) 26 = ad4 (ar H 26) c6 (nI r) tl z (nI dd) := by rw [ar_hpf]; exact ae_26 hS
  have a2 : fi (hpf (hpa H 26 (ad4 (ar H 26) c6 (nI r) tl z (nI dd))) 25 2 (.int (nI (c6 + 1)))) 25 2 = nI (c6 + 1) := fe_25_2 s1
  generalize (hpf (hpa H 26 (ad4 (ar H 26) c6 (nI r) tl z (nI dd))) 25 2 (.int (nI (c6 + 1)))) = X at hF a1 a2 ⊢
  have hD := dt_rum (tl := tl) (z := z) hT hc (gn_26 hS) hrc hd (Nat.le_refl n)
  generalize hR' : ((((R.set (118 + 3 * c6) (nI r)).set (118 + 3 * c6 + 1) tl).set (118 + 3 * c6 + 2) (nI dd)).set 6 (nI (c6 + 1))) = R' at hD ⊢
  have o0 : rg R' 0 = rg R 0 := by rw [← hR']; repeat rw [rgset (by omega)]
  have o1 : rg R' 1 = rg R 1 := by rw [← hR']; repeat rw [rgset (by omega)]
  have o8 : rg R' 8 = rg R 8 := by rw [← hR']; repeat rw [rgset (by omega)]
  refine ⟨⟨hF.shp, hr.og hF (by decide) (by decide), ⟨?_, ?_, ?_, ?_, ?_, ?_⟩, ?_, h9, ?_, ?_, ?_, fun q => absurd (o8 ▸ q) h8⟩, hF⟩
  · rw [hF.int (by decide) (by decide)]; exact d2
  · rw [hF.int (by decide) (by decide)]; exact d3
  · rw [hF.int (by decide) (by decide)]; exact d4
  · rw [hF.int (by decide) (by decide)]; exact d5
  · exact a2
  · rw [hF.int (by decide) (by decide)]; exact d7
  · rw [hF.arr (a := 18) (by decide), hF.arr (a := 20) (by decide), hF.arr (a := 22) (by decide), hF.arr (a := 24) (by decide), a1, hF.arr (a := 28) (by decide)]; exact hD
  · rw [hF.int (by decide) (by decide), o0]; exact e0
  · rw [hF.int (by decide) (by decide), o1]; exact e1
  · rw [hF.int (by decide) (by decide), o8]; exact e6
theorem DH_said {r dd : Nat} {v z : Int32} (h : DH H xs n R c2 c3 c4 c5 c6 c7) (h8 : ¬ rg R 8 = 0) (hc : c7 < 5) (hrc : r < c2) (hd : dd ≤ 20) : DH (hpf (hpa H 28 (ad4 (ar H 28) c7 (nI r) v z (nI dd))) 27 2 (.int (nI (c7 + 1)))) xs n ((((R.set (133 + 3 * c7) (nI r)).set (133 + 3 * c7 + 1) (nI dd)).set (133 + 3 * c7 + 2) v).set 7 (nI (c7 + 1))) c2 c3 c4 c5 c6 (c7 + 1) ∧ Fg [28] [(27, 2)] H (hpf (hpa H 28 (ad4 (ar H 28) c7 (nI r) v z (nI dd))) 27 2 (.int (nI (c7 + 1)))) := by
  obtain ⟨hS, hr, ⟨d2, d3, d4, d5, d6, d7⟩, hT, h9, e0, e1, e6, zz⟩ := h
  have hV := hT.2.2.2.2.2.2.2.2
  have l0 : R.length = 211 := hV.1
  have b2 := hT.1.2.2.2.2.2.2.1
  have s1 : Shp (hpa H 28 (ad4 (ar H 28) c7 (nI r) v z (nI dd))) := sa_28 hS (by rw [ad4_len, gn_28 hS])
  have hF : Fg [28] [(27, 2)] H (hpf (hpa H 28 (ad4 (ar H 28) c7 (nI r) v z (nI dd))) 27 2 (.int (nI (c7 + 1)))) := ((fg_hpa hS (by rw [ad4_len]) (by decide)).trans (fg_hpf (a := 27) (f := 2) (ci := 9) s1 rfl (by decide)))
  have a1 : ar (hpf (hpa H 28 (ad4 (ar H 28) c7 (nI r) v z (nI dd))) 27 2 (.int (nI (c7 + 1)))) 28 = ad4 (ar H 28) c7 (nI r) v z (nI dd) := by rw [ar_hpf]; exact ae_28 hS
  have a2 : fi (hpf (hpa H 28 (ad4 (ar H 28) c7 (nI r) v z (nI dd))) 27 2 (.int (nI (c7 + 1)))) 27 2 = nI (c7 + 1) := fe_27_2 s1
  generalize (hpf (hpa H 28 (ad4 (ar H 28) c7 (nI r) v z (nI dd))) 27 2 (.int (nI (c7 + 1)))) = X at hF a1 a2 ⊢
  have hD := dt_said (v := v) (z := z) hT hc (gn_28 hS) hrc hd (Nat.le_refl n)
  generalize hR' : ((((R.set (133 + 3 * c7) (nI r)).set (133 + 3 * c7 + 1) (nI dd)).set (133 + 3 * c7 + 2) v).set 7 (nI (c7 + 1))) = R' at hD ⊢
  have o0 : rg R' 0 = rg R 0 := by rw [← hR']; repeat rw [rgset (by omega)]
  have o1 : rg R' 1 = rg R 1 := by rw [← hR']; repeat rw [rgset (by omega)]
  have o8 : rg R' 8 = rg R 8 := by rw [← hR']; repeat rw [rgset (by omega)]
  refine ⟨⟨hF.shp, hr.og hF (by decide) (by decide), ⟨?_, ?_, ?_, ?_, ?_, ?_⟩, ?_, h9, ?_, ?_, ?_, fun q => absurd (o8 ▸ q) h8⟩, hF⟩
  · rw [hF.int (by decide) (by decide)]; exact d2
  · rw [hF.int (by decide) (by decide)]; exact d3
  · rw [hF.int (by decide) (by decide)]; exact d4
  · rw [hF.int (by decide) (by decide)]; exact d5
  · rw [hF.int (by decide) (by decide)]; exact d6
  · exact a2
  · rw [hF.arr (a := 18) (by decide), hF.arr (a := 20) (by decide), hF.arr (a := 22) (by decide), hF.arr (a := 24) (by decide), hF.arr (a := 26) (by decide), a1]; exact hD
  · rw [hF.int (by decide) (by decide), o0]; exact e0
  · rw [hF.int (by decide) (by decide), o1]; exact e1
  · rw [hF.int (by decide) (by decide), o8]; exact e6
theorem DH_wall {a b s co : Nat} (h : DH H xs n R c2 c3 c4 c5 c6 c7) (h8 : ¬ rg R 8 = 0) (hc : c4 < 5) (hsc : s < c3) (g0 : tg (ar H 20) s 0 = nI a) (g1 : tg (ar H 20) s 1 = nI b) (hno : ∀ k, k < c4 → ¬ tg (ar H 22) k 3 = nI s) (hco : co ≤ 99) : DH (hpf (hpa H 22 (ad4 (ar H 22) c4 (nI a) (nI b) (nI co) (nI s))) 21 2 (.int (nI (c4 + 1)))) xs n ((((R.set (79 + 3 * c4) (nI a)).set (79 + 3 * c4 + 1) (nI b)).set (79 + 3 * c4 + 2) (nI co)).set 4 (nI (c4 + 1))) c2 c3 (c4 + 1) c5 c6 c7 ∧ Fg [22] [(21, 2)] H (hpf (hpa H 22 (ad4 (ar H 22) c4 (nI a) (nI b) (nI co) (nI s))) 21 2 (.int (nI (c4 + 1)))) := by
  obtain ⟨hS, hr, ⟨d2, d3, d4, d5, d6, d7⟩, hT, h9, e0, e1, e6, zz⟩ := h
  have hV := hT.2.2.2.2.2.2.2.2
  have l0 : R.length = 211 := hV.1
  have b2 := hT.1.2.2.2.2.2.2.1
  have s1 : Shp (hpa H 22 (ad4 (ar H 22) c4 (nI a) (nI b) (nI co) (nI s))) := sa_22 hS (by rw [ad4_len, gn_22 hS])
  have hF : Fg [22] [(21, 2)] H (hpf (hpa H 22 (ad4 (ar H 22) c4 (nI a) (nI b) (nI co) (nI s))) 21 2 (.int (nI (c4 + 1)))) := ((fg_hpa hS (by rw [ad4_len]) (by decide)).trans (fg_hpf (a := 21) (f := 2) (ci := 9) s1 rfl (by decide)))
  have a1 : ar (hpf (hpa H 22 (ad4 (ar H 22) c4 (nI a) (nI b) (nI co) (nI s))) 21 2 (.int (nI (c4 + 1)))) 22 = ad4 (ar H 22) c4 (nI a) (nI b) (nI co) (nI s) := by rw [ar_hpf]; exact ae_22 hS
  have a2 : fi (hpf (hpa H 22 (ad4 (ar H 22) c4 (nI a) (nI b) (nI co) (nI s))) 21 2 (.int (nI (c4 + 1)))) 21 2 = nI (c4 + 1) := fe_21_2 s1
  generalize (hpf (hpa H 22 (ad4 (ar H 22) c4 (nI a) (nI b) (nI co) (nI s))) 21 2 (.int (nI (c4 + 1)))) = X at hF a1 a2 ⊢
  have hD := dt_wall hT hc (gn_22 hS) hsc g0 g1 hno hco (Nat.le_refl n)
  generalize hR' : ((((R.set (79 + 3 * c4) (nI a)).set (79 + 3 * c4 + 1) (nI b)).set (79 + 3 * c4 + 2) (nI co)).set 4 (nI (c4 + 1))) = R' at hD ⊢
  have o0 : rg R' 0 = rg R 0 := by rw [← hR']; repeat rw [rgset (by omega)]
  have o1 : rg R' 1 = rg R 1 := by rw [← hR']; repeat rw [rgset (by omega)]
  have o8 : rg R' 8 = rg R 8 := by rw [← hR']; repeat rw [rgset (by omega)]
  refine ⟨⟨hF.shp, hr.og hF (by decide) (by decide), ⟨?_, ?_, ?_, ?_, ?_, ?_⟩, ?_, h9, ?_, ?_, ?_, fun q => absurd (o8 ▸ q) h8⟩, hF⟩
  · rw [hF.int (by decide) (by decide)]; exact d2
  · rw [hF.int (by decide) (by decide)]; exact d3
  · exact a2
  · rw [hF.int (by decide) (by decide)]; exact d5
  · rw [hF.int (by decide) (by decide)]; exact d6
  · rw [hF.int (by decide) (by decide)]; exact d7
  · rw [hF.arr (a := 18) (by decide), hF.arr (a := 20) (by decide), a1, hF.arr (a := 24) (by decide), hF.arr (a := 26) (by decide), hF.arr (a := 28) (by decide)]; exact hD
  · rw [hF.int (by decide) (by decide), o0]; exact e0
  · rw [hF.int (by decide) (by decide), o1]; exact e1
  · rw [hF.int (by decide) (by decide), o8]; exact e6
theorem DH_sees {a b y : Nat} {z : Int32} (h : DH H xs n R c2 c3 c4 c5 c6 c7) (h8 : ¬ rg R 8 = 0) (hc : c3 < 10) (ha : a < c2) (hb : b < c2) (hab : ¬ a = b) (y1 : 1 ≤ y) (y9 : y ≤ 9) (hno : ¬ 0 < rg R (30 + 7 * a + b)) : DH (hpf (hpa H 20 (ad4 (ar H 20) c3 (nI a) (nI b) (nI y) z)) 19 2 (.int (nI (c3 + 1)))) xs n ((R.set (30 + 7 * a + b) (nI y)).set 3 (nI (c3 + 1))) c2 (c3 + 1) c4 c5 c6 c7 ∧ Fg [20] [(19, 2)] H (hpf (hpa H 20 (ad4 (ar H 20) c3 (nI a) (nI b) (nI y) z)) 19 2 (.int (nI (c3 + 1)))) := by
  obtain ⟨hS, hr, ⟨d2, d3, d4, d5, d6, d7⟩, hT, h9, e0, e1, e6, zz⟩ := h
  have hV := hT.2.2.2.2.2.2.2.2
  have l0 : R.length = 211 := hV.1
  have b2 := hT.1.2.2.2.2.2.2.1
  have s1 : Shp (hpa H 20 (ad4 (ar H 20) c3 (nI a) (nI b) (nI y) z)) := sa_20 hS (by rw [ad4_len, gn_20 hS])
  have hF : Fg [20] [(19, 2)] H (hpf (hpa H 20 (ad4 (ar H 20) c3 (nI a) (nI b) (nI y) z)) 19 2 (.int (nI (c3 + 1)))) := ((fg_hpa hS (by rw [ad4_len]) (by decide)).trans (fg_hpf (a := 19) (f := 2) (ci := 9) s1 rfl (by decide)))
  have a1 : ar (hpf (hpa H 20 (ad4 (ar H 20) c3 (nI a) (nI b) (nI y) z)) 19 2 (.int (nI (c3 + 1)))) 20 = ad4 (ar H 20) c3 (nI a) (nI b) (nI y) z := by rw [ar_hpf]; exact ae_20 hS
  have a2 : fi (hpf (hpa H 20 (ad4 (ar H 20) c3 (nI a) (nI b) (nI y) z)) 19 2 (.int (nI (c3 + 1)))) 19 2 = nI (c3 + 1) := fe_19_2 s1
  generalize (hpf (hpa H 20 (ad4 (ar H 20) c3 (nI a) (nI b) (nI y) z)) 19 2 (.int (nI (c3 + 1)))) = X at hF a1 a2 ⊢
  have hD := dt_sees (z := z) hT hc (gn_20 hS) ha hb hab y1 y9 hno (Nat.le_refl n)
  generalize hR' : ((R.set (30 + 7 * a + b) (nI y)).set 3 (nI (c3 + 1))) = R' at hD ⊢
  have o0 : rg R' 0 = rg R 0 := by rw [← hR']; repeat rw [rgset (by omega)]
  have o1 : rg R' 1 = rg R 1 := by rw [← hR']; repeat rw [rgset (by omega)]
  have o8 : rg R' 8 = rg R 8 := by rw [← hR']; repeat rw [rgset (by omega)]
  refine ⟨⟨hF.shp, hr.og hF (by decide) (by decide), ⟨?_, ?_, ?_, ?_, ?_, ?_⟩, ?_, h9, ?_, ?_, ?_, fun q => absurd (o8 ▸ q) h8⟩, hF⟩
  · rw [hF.int (by decide) (by decide)]; exact d2
  · exact a2
  · rw [hF.int (by decide) (by decide)]; exact d4
  · rw [hF.int (by decide) (by decide)]; exact d5
  · rw [hF.int (by decide) (by decide)]; exact d6
  · rw [hF.int (by decide) (by decide)]; exact d7
  · rw [hF.arr (a := 18) (by decide), a1, hF.arr (a := 22) (by decide), hF.arr (a := 24) (by decide), hF.arr (a := 26) (by decide), hF.arr (a := 28) (by decide)]; exact hD
  · rw [hF.int (by decide) (by decide), o0]; exact e0
  · rw [hF.int (by decide) (by decide), o1]; exact e1
  · rw [hF.int (by decide) (by decide), o8]; exact e6
theorem DH_row {kd x g : Nat} (h : DH H xs n R c2 c3 c4 c5 c6 c7) (h8 : ¬ rg R 8 = 0) (hc : c2 < 7) (ht : Wlt xs t) (h0 : 0 < t.2.1 - t.1) (hz : isL (xs.getD t.2.1 0) = false) (hk : kd < 4) (hx : x ≤ 30) (hg : g ≤ 99) (hp2 : t.2.1 ≤ n) : DH (hpf (hpa H 18 (ad4 (ar H 18) c2 (nI kd) (nI x) (nI g) (nI t.1))) 17 2 (.int (nI (c2 + 1)))) xs n (((((nmW xs R t c2).set (9 + 3 * c2) (nI kd)).set (9 + 3 * c2 + 1) (nI x)).set (9 + 3 * c2 + 2) (nI g)).set 2 (nI (c2 + 1))) (c2 + 1) c3 c4 c5 c6 c7 ∧ Fg [18] [(17, 2)] H (hpf (hpa H 18 (ad4 (ar H 18) c2 (nI kd) (nI x) (nI g) (nI t.1))) 17 2 (.int (nI (c2 + 1)))) := by
  obtain ⟨hS, hr, ⟨d2, d3, d4, d5, d6, d7⟩, hT, h9, e0, e1, e6, zz⟩ := h
  have hV := hT.2.2.2.2.2.2.2.2
  have l0 : R.length = 211 := hV.1
  have b2 := hT.1.2.2.2.2.2.2.1
  have s1 : Shp (hpa H 18 (ad4 (ar H 18) c2 (nI kd) (nI x) (nI g) (nI t.1))) := sa_18 hS (by rw [ad4_len, gn_18 hS])
  have hF : Fg [18] [(17, 2)] H (hpf (hpa H 18 (ad4 (ar H 18) c2 (nI kd) (nI x) (nI g) (nI t.1))) 17 2 (.int (nI (c2 + 1)))) := ((fg_hpa hS (by rw [ad4_len]) (by decide)).trans (fg_hpf (a := 17) (f := 2) (ci := 9) s1 rfl (by decide)))
  have a1 : ar (hpf (hpa H 18 (ad4 (ar H 18) c2 (nI kd) (nI x) (nI g) (nI t.1))) 17 2 (.int (nI (c2 + 1)))) 18 = ad4 (ar H 18) c2 (nI kd) (nI x) (nI g) (nI t.1) := by rw [ar_hpf]; exact ae_18 hS
  have a2 : fi (hpf (hpa H 18 (ad4 (ar H 18) c2 (nI kd) (nI x) (nI g) (nI t.1))) 17 2 (.int (nI (c2 + 1)))) 17 2 = nI (c2 + 1) := fe_17_2 s1
  generalize (hpf (hpa H 18 (ad4 (ar H 18) c2 (nI kd) (nI x) (nI g) (nI t.1))) 17 2 (.int (nI (c2 + 1)))) = X at hF a1 a2 ⊢
  have hD := dt_row hT hc (gn_18 hS) ht h0 hz hk hx hg (Nat.le_refl n) hp2
  generalize hR' : (((((nmW xs R t c2).set (9 + 3 * c2) (nI kd)).set (9 + 3 * c2 + 1) (nI x)).set (9 + 3 * c2 + 2) (nI g)).set 2 (nI (c2 + 1))) = R' at hD ⊢
  have o0 : rg R' 0 = rg R 0 := by rw [← hR']; rw [rgset (by omega), rgset (by omega), rgset (by omega), rgset (by omega)]; unfold nmW; rw [rgset (by omega)]; exact nmF_old _ _ (Or.inl (by omega))
  have o1 : rg R' 1 = rg R 1 := by rw [← hR']; rw [rgset (by omega), rgset (by omega), rgset (by omega), rgset (by omega)]; unfold nmW; rw [rgset (by omega)]; exact nmF_old _ _ (Or.inl (by omega))
  have o8 : rg R' 8 = rg R 8 := by rw [← hR']; rw [rgset (by omega), rgset (by omega), rgset (by omega), rgset (by omega)]; unfold nmW; rw [rgset (by omega)]; exact nmF_old _ _ (Or.inl (by omega))
  refine ⟨⟨hF.shp, hr.og hF (by decide) (by decide), ⟨?_, ?_, ?_, ?_, ?_, ?_⟩, ?_, h9, ?_, ?_, ?_, fun q => absurd (o8 ▸ q) h8⟩, hF⟩
  · exact a2
  · rw [hF.int (by decide) (by decide)]; exact d3
  · rw [hF.int (by decide) (by decide)]; exact d4
  · rw [hF.int (by decide) (by decide)]; exact d5
  · rw [hF.int (by decide) (by decide)]; exact d6
  · rw [hF.int (by decide) (by decide)]; exact d7
  · rw [a1, hF.arr (a := 20) (by decide), hF.arr (a := 22) (by decide), hF.arr (a := 24) (by decide), hF.arr (a := 26) (by decide), hF.arr (a := 28) (by decide)]; exact hD
  · rw [hF.int (by decide) (by decide), o0]; exact e0
  · rw [hF.int (by decide) (by decide), o1]; exact e1
  · rw [hF.int (by decide) (by decide), o8]; exact e6
end DHA
