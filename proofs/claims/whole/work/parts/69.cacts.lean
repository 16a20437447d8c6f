/-! ===== the class: acts, undoing, images, what is told ===== -/
def CUn (H : List AC) (Us : List (List Int32)) (n : Nat) : Prop := ∃ t, t < 16 ∧ fi H 62 0 = nI 16 ∧ fi H 62 3 = nI t ∧ fi H 62 2 = nI Us.length ∧ Us.length ≤ 16 ∧ ∀ i, i < Us.length → Slot (ar H 64) ((t + 16 - Us.length + i) % 16) (Us.getD i []) n
def CIm (H : List AC) (Ks : List (List Int32)) (n : Nat) : Prop := fi H 65 0 = nI 3 ∧ fi H 65 3 = nI (Ks.length % 3) ∧ fi H 65 2 = nI Ks.length ∧ Ks.length ≤ 3 ∧ ∀ i, i < Ks.length → Slot (ar H 67) i (Ks.getD i []) n
abbrev SCa : List Nat := [30, 32, 33, 34, 36, 38, 40, 42, 64, 67]
abbrev FCa : List (Nat × Nat) := [(0, 13), (62, 2), (62, 3), (65, 2), (65, 3)]
/-- an act's end -/
def CA (H : List AC) (Q : Option Value → List AC → Prop) (n : Nat) (res tr : Int32) (st : List Int32) (Us Ks : List (List Int32)) : Prop := ∀ H', Fg SCa FCa H H' → fi H' 0 13 = tr → Sn H' 30 32 st n → CUn H' Us n → CIm H' Ks n → Q (some (.int res)) H'
theorem Slot.cg {xs ys ws : List Int32} {j n : Nat} (h : Slot xs j ws n) (hn : n ≤ 7) (e : ∀ q, 10 * j ≤ q → q < 10 * j + 10 → ys.getD q 0 = xs.getD q 0) : Slot ys j ws n := by
  obtain ⟨h1, h2, h3, h4⟩ := h
  refine ⟨fun i hi => ?_, ?_, ?_, ?_⟩
  · rw [e _ (by omega) (by omega), h1 i hi]
  · rw [e _ (by omega) (by omega), h2]
  · rw [e _ (by omega) (by omega), h3]
  · rw [e _ (by omega) (by omega), h4]
section CACTS
variable {S : List Nat} {F : List (Nat × Nat)} {scr : List Int32} {d n nS nW nG nU nN : Nat} {H H' : List AC} {R st ws : List Int32} {Us Ks : List (List Int32)} {Q : Option Value → List AC → Prop}
theorem CUn.of (h : CUn H Us n) (hF : Fg S F H H') (h1 : 62 ∉ S) (h2 : 64 ∉ S) (h3 : ∀ p ∈ F, ¬ p.1 = 62) : CUn H' Us n := by
  have hi : ∀ f, fi H' 62 f = fi H 62 f := fun f => hF.int h1 (fun q => h3 _ q rfl)
  unfold CUn at h ⊢
  rw [hi, hi, hi, hF.arr h2]
  exact h
theorem CIm.of (h : CIm H Ks n) (hF : Fg S F H H') (h1 : 65 ∉ S) (h2 : 67 ∉ S) (h3 : ∀ p ∈ F, ¬ p.1 = 65) : CIm H' Ks n := by
  have hi : ∀ f, fi H' 65 f = fi H 65 f := fun f => hF.int h1 (fun q => h3 _ q rfl)
  unfold CIm at h ⊢
  rw [hi, hi, hi, hF.arr h2]
  exact h
/-- past.keep(now) -/
theorem c_keepU (hS : Shp H) (hN : Sn H 30 32 st n) (hn : n ≤ 7) (hU : CUn H Us n) (hQ : ∀ H', Fg [64] [(62, 2), (62, 3)] H H' → CUn H' (pushU Us st) n → Q none H') : Wp scr (d + 1) 57 0 [some (.ref 62), some (.ref 30), none, none] [] H Q := by
  obtain ⟨t, ht, u0, u3, u2, ul, us⟩ := hU
  refine c_keep62 hS hN hn u0 u3 u2 ht ul (fun H' hF f3 f2 hs hq => hQ H' hF ?_)
  refine ⟨(t + 1) % 16, Nat.mod_lt _ (by decide), by rw [hF.int (by decide) (by decide), u0], f3, ?_, ?_, ?_⟩
  · rw [f2]
    unfold pushU
    split
    · rw [List.length_append, List.length_tail, List.length_singleton]; congr 1; omega
    · rw [List.length_append, List.length_singleton]; congr 1; omega
  · unfold pushU
    split
    · rw [List.length_append, List.length_tail, List.length_singleton]; omega
    · rw [List.length_append, List.length_singleton]; omega
  · unfold pushU
    by_cases h16 : Us.length = 16
    · rw [if_pos h16]
      have hl : (Us.tail ++ [st]).length = 16 := by rw [List.length_append, List.length_tail, List.length_singleton]; omega
      rw [hl]
      intro i hi
      by_cases e : i = 15
      · subst e
        have e15 : (Us.tail ++ [st]).getD 15 [] = st := by
          have := getD_appr (l := Us.tail) (x := []) (y := st)
          rw [List.length_tail, h16] at this
          exact this
        rw [e15, show ((t + 1) % 16 + 16 - 16 + 15) % 16 = t by omega]
        exact hs
      · have et : (Us.tail ++ [st]).getD i [] = Us.getD (i + 1) [] := by
          rw [getD_app (by rw [List.length_tail]; omega), List.getD_eq_getElem?_getD, List.getD_eq_getElem?_getD, List.getElem?_tail]
        rw [et]
        have h1 := us (i + 1) (by omega)
        have e1 : (t + 16 - Us.length + (i + 1)) % 16 = ((t + 1) % 16 + 16 - 16 + i) % 16 := by omega
        rw [e1] at h1
        refine h1.cg hn (fun q q1 q2 => hq q ?_)
        have : ¬ ((t + 1) % 16 + 16 - 16 + i) % 16 = t := by omega
        omega
    · rw [if_neg h16]
      have hl : (Us ++ [st]).length = Us.length + 1 := by rw [List.length_append, List.length_singleton]
      rw [hl]
      intro i hi
      by_cases e : i = Us.length
      · subst e
        rw [getD_appr, show ((t + 1) % 16 + 16 - (Us.length + 1) + Us.length) % 16 = t by omega]
        exact hs
      · rw [getD_app (by omega)]
        have h1 := us i (by omega)
        have e1 : (t + 16 - Us.length + i) % 16 = ((t + 1) % 16 + 16 - (Us.length + 1) + i) % 16 := by omega
        rw [e1] at h1
        refine h1.cg hn (fun q q1 q2 => hq q ?_)
        have : ¬ ((t + 1) % 16 + 16 - (Us.length + 1) + i) % 16 = t := by omega
        omega
theorem c_actT {t : Nat} {m bits k : Int32} {is : Bool} (h2 : gfl H t 9 2 = some (.int m)) : Wp scr (d + 1) 175 0 [some (.ref t), some (.int bits), some (.int k), some (.int (bI is)), none] [] H Q ↔ Q (some (.int (if 0 ≤ k ∧ k < m then (if decide (¬ (bits >>> (k &&& 31)) &&& 1 = 0) = is then 5 else 0) else 1))) H := by
  refine Wp_iff ?_
  simp only [w175_0, w175_1, w175_2, w175_5, w175_8, w175_9, w175_10, w175_11, w175_12, w175_13, w175_14, w175_15, w175_18, w175_19, w175_22, w175_23, w175_25, w175_27, w175_28, w175_31, w175_32, w175_35, w175_36, oK_some, cont_int, cont_intS, cont_none, cont_noneS, cont_long, cont_longS, true_and, and_true, false_and, and_false, true_implies, false_implies, not_true_eq_false, not_false_eq_true, eq_self, or_true, true_or, Option.isSome_some, hpf_length, hpa_length, bI_eq0, fi_hpa, fl_hpa, ar_hpf, fi_hpf_ne, fl_hpf_ne, ar_hpa_ne, hpa_hpa, hpf_hpf, nI_1, two_ne, fokZ, implies_true, Nat.reduceEqDiff, rcv_of h2, c_Table_has h2, decide_eq_false_iff_not]
  by_cases hk : 0 ≤ k ∧ k < m
  · rw [if_pos hk]
    simp only [hk, oK_some, cont_int, cont_intS, cont_none, cont_noneS, cont_long, cont_longS, true_and, and_true, false_and, and_false, true_implies, false_implies, not_true_eq_false, not_false_eq_true, eq_self, or_true, true_or, Option.isSome_some, hpf_length, hpa_length, bI_eq0, fi_hpa, fl_hpa, ar_hpf, fi_hpf_ne, fl_hpf_ne, ar_hpa_ne, hpa_hpa, hpf_hpf, nI_1, two_ne, fokZ, implies_true, Nat.reduceEqDiff, and_self]
    by_cases hb : (bits >>> (k &&& 31)) &&& 1 = 0
    · cases is
      · simp [hb, bI]
      · simp [hb, bI]
    · cases is
      · simp [hb, bI]
      · simp [hb, bI]
  · rw [if_neg hk]
    simp only [hk, oK_some, cont_int, cont_intS, cont_none, cont_noneS, cont_long, cont_longS, true_and, and_true, false_and, and_false, true_implies, false_implies, not_true_eq_false, not_false_eq_true, eq_self, or_true, true_or, Option.isSome_some, hpf_length, hpa_length, bI_eq0, fi_hpa, fl_hpa, ar_hpf, fi_hpf_ne, fl_hpf_ne, ar_hpa_ne, hpa_hpa, hpf_hpf, nI_1, two_ne, fokZ, implies_true, Nat.reduceEqDiff]
theorem hb_ne0 {x k : Int32} : decide (¬ (x >>> (k &&& 31)) &&& 1 = 0) = hb x k := by
  unfold hb
  rcases bit01 (x >>> (k &&& 31)) with e | e <;> rw [e] <;> decide
/-- shape of both acts on bits -/
theorem acR_eq {f nn : Nat} {k : Int32} {is : Bool} (hz : n = 0 → nn = 0) (hnn : nn < 100) : (if 0 ≤ k ∧ k < nI nn then (if hb (st.getD f 0) k = is then (5 : Int32) else 0) else 1) = (acR (decide (0 < n ∧ 0 ≤ k ∧ k < nI nn)) st f k is).2 ∧ ((if 0 ≤ k ∧ k < nI nn then (if hb (st.getD f 0) k = is then (5 : Int32) else 0) else 1) = 0 ↔ (acR (decide (0 < n ∧ 0 ≤ k ∧ k < nI nn)) st f k is).1 = 1) ∧ (¬ (if 0 ≤ k ∧ k < nI nn then (if hb (st.getD f 0) k = is then (5 : Int32) else 0) else 1) = 0 → (acR (decide (0 < n ∧ 0 ≤ k ∧ k < nI nn)) st f k is).1 = 0) := by
  unfold acR
  by_cases hk : 0 ≤ k ∧ k < nI nn
  · have hn : 0 < n := by
      have := (of_row hk (by omega)).2
      omega
    rw [if_pos hk, decide_eq_true ⟨hn, hk⟩, if_pos rfl]
    by_cases hb' : hb (st.getD f 0) k = is
    · rw [if_pos hb', if_pos hb']
      exact ⟨rfl, by decide, fun _ => rfl⟩
    · rw [if_neg hb', if_neg hb']
      exact ⟨rfl, by decide, fun q => absurd rfl q⟩
  · rw [if_neg hk, decide_eq_false (fun q => hk q.2), if_neg (by decide)]
    exact ⟨rfl, by decide, fun _ => rfl⟩
theorem ca_no {t v : Int32} (hC : CIv H R st n nS nW nG nU nN) (hU : CUn H Us n) (hK : CIm H Ks n) (hQ : CA H Q n v t st Us Ks) : Q (some (.int v)) (hpf H 0 13 (.int t)) := by
  have hS := hC.shp
  have hF : Fg [] [(0, 13)] H (hpf H 0 13 (.int t)) := (fg_hpf (a := 0) (f := 13) (ci := 11) hS rfl (by decide))
  exact hQ _ (hF.mono (by decide) (by decide)) (fe_0_13 hS) (hC.2.1.of hF (by decide) (by decide) (by decide)) (hU.of hF (by decide) (by decide) (by decide)) (hK.of hF (by decide) (by decide) (by decide))
theorem C_show {k : Int32} {is : Bool} (hC : CIv H R st n nS nW nG nU nN) (hU : CUn H Us n) (hK : CIm H Ks n) (hz : n = 0 → nG = 0) (hQ : CA H Q n (acR (decide (0 < n ∧ 0 ≤ k ∧ k < nI nG)) st 7 k is).1 (acR (decide (0 < n ∧ 0 ≤ k ∧ k < nI nG)) st 7 k is).2 (acS (decide (0 < n ∧ 0 ≤ k ∧ k < nI nG)) st 7 k is) (acU Us (decide (0 < n ∧ 0 ≤ k ∧ k < nI nG)) st 7 k is) Ks) : Wp scr (d + 2) 173 0 [some (.ref 0), some (.int k), some (.int (bI is))] [] H Q := by
  have hS := hC.shp
  obtain ⟨c2, c3, c4, c5, c6, c7, b2, b3, b4, b5, b6, b7⟩ := id hC.1.2.1
  have hs0 := sf_0_13 (v := 0) hS
  have hC0 := hC.tr (v := 0)
  have f2 := hC.2.1.2.2.1
  have gt : gfl H 10 9 2 = some (.int (nI nG)) := by rw [g_10_2 hS, c5]
  obtain ⟨q1, q2, q3⟩ := acR_eq (n := n) (st := st) (f := 7) (nn := nG) (k := k) (is := is) hz (by omega)
  generalize hT : (if 0 ≤ k ∧ k < nI nG then (if hb (st.getD 7 0) k = is then (5 : Int32) else 0) else 1) = T at q1 q2 q3
  simp (maxDischargeDepth := 12) only [w173_0, w173_1, w173_2, w173_5, w173_8, w173_9, w173_12, w173_15, w173_16, w173_17, w173_20, w173_23, w173_24, w173_27, w173_30, w173_31, w173_32, w173_33, w173_36, w173_37, w173_40, w173_43, w173_44, w173_47, w173_48, w173_51, w173_52, w173_53, w173_54, w173_55, w173_58, w173_59, oK_some, cont_int, cont_intS, cont_none, cont_noneS, cont_long, cont_longS, true_and, and_true, false_and, and_false, true_implies, false_implies, not_true_eq_false, not_false_eq_true, eq_self, or_true, true_or, Option.isSome_some, hpf_length, hpa_length, bI_eq0, fi_hpa, fl_hpa, ar_hpf, fi_hpf_ne, fl_hpf_ne, ar_hpa_ne, hpa_hpa, hpf_hpf, nI_1, two_ne, fokZ, implies_true, Nat.reduceEqDiff, g_0_2, rc_3, g_3_5, rc_10, g_16_5, rc_23, g_0_5, rc_30, g_30_2, sf_30_2, fe_30_2, g_34_2, sf_34_2, fe_34_2, g_45_2, sf_45_2, fe_45_2, g_0_13, sf_0_13, fe_0_13, g_0_11, rc_62, rc_65, hS, f2, c_actT gt, hb_ne0, hT]
  rw [← q1] at hQ
  by_cases ht : T = 0
  · have e1 := q2.mp ht
    have es : acS (decide (0 < n ∧ 0 ≤ k ∧ k < nI nG)) st 7 k is = st.set 7 (st.getD 7 0 ^^^ (1 <<< (k &&& 31))) := by unfold acS; rw [if_pos e1]
    have eu : acU Us (decide (0 < n ∧ 0 ≤ k ∧ k < nI nG)) st 7 k is = pushU Us st := by unfold acU; rw [if_pos e1]
    rw [e1, es, eu, ht] at hQ
    simp (maxDischargeDepth := 12) only [w173_0, w173_1, w173_2, w173_5, w173_8, w173_9, w173_12, w173_15, w173_16, w173_17, w173_20, w173_23, w173_24, w173_27, w173_30, w173_31, w173_32, w173_33, w173_36, w173_37, w173_40, w173_43, w173_44, w173_47, w173_48, w173_51, w173_52, w173_53, w173_54, w173_55, w173_58, w173_59, oK_some, cont_int, cont_intS, cont_none, cont_noneS, cont_long, cont_longS, true_and, and_true, false_and, and_false, true_implies, false_implies, not_true_eq_false, not_false_eq_true, eq_self, or_true, true_or, Option.isSome_some, hpf_length, hpa_length, bI_eq0, fi_hpa, fl_hpa, ar_hpf, fi_hpf_ne, fl_hpf_ne, ar_hpa_ne, hpa_hpa, hpf_hpf, nI_1, two_ne, fokZ, implies_true, Nat.reduceEqDiff, g_0_2, rc_3, g_3_5, rc_10, g_16_5, rc_23, g_0_5, rc_30, g_30_2, sf_30_2, fe_30_2, g_34_2, sf_34_2, fe_34_2, g_45_2, sf_45_2, fe_45_2, g_0_13, sf_0_13, fe_0_13, g_0_11, rc_62, rc_65, ht, hs0]
    have hF0 : Fg [] [(0, 13)] H (hpf H 0 13 (.int 0)) := (fg_hpf (a := 0) (f := 13) (ci := 11) hS rfl (by decide))
    refine c_keepU hs0 hC0.2.1 b2 (hU.of hF0 (by decide) (by decide) (by decide)) (fun H2 hF2 hU2 => ?_)
    have hs2 := hF2.shp
    have hN2 := hC0.2.1.of hF2 (by decide) (by decide) (by decide)
    have l10 := hC.2.2.1
    have f2' := hN2.2.2.1
    simp (maxDischargeDepth := 12) only [w173_0, w173_1, w173_2, w173_5, w173_8, w173_9, w173_12, w173_15, w173_16, w173_17, w173_20, w173_23, w173_24, w173_27, w173_30, w173_31, w173_32, w173_33, w173_36, w173_37, w173_40, w173_43, w173_44, w173_47, w173_48, w173_51, w173_52, w173_53, w173_54, w173_55, w173_58, w173_59, oK_some, cont_int, cont_intS, cont_none, cont_noneS, cont_long, cont_longS, true_and, and_true, false_and, and_false, true_implies, false_implies, not_true_eq_false, not_false_eq_true, eq_self, or_true, true_or, Option.isSome_some, hpf_length, hpa_length, bI_eq0, fi_hpa, fl_hpa, ar_hpf, fi_hpf_ne, fl_hpf_ne, ar_hpa_ne, hpa_hpa, hpf_hpf, nI_1, two_ne, fokZ, implies_true, Nat.reduceEqDiff, g_0_2, rc_3, g_3_5, rc_10, g_16_5, rc_23, g_0_5, rc_30, g_30_2, sf_30_2, fe_30_2, g_34_2, sf_34_2, fe_34_2, g_45_2, sf_45_2, fe_45_2, g_0_13, sf_0_13, fe_0_13, g_0_11, rc_62, rc_65, hF2.len, hs2, f2']
    have hF3 : Fg [30] [] H2 (hpf H2 30 2 (.int (st.getD 7 0 ^^^ (1 <<< (k &&& 31))))) := (fr_hpf (S := [30]) (ci := 8) hs2 rfl (by decide)).fg
    refine hQ _ (((hF0.mono (by decide) (by decide)).trans (hF2.mono (by decide) (by decide))).trans (hF3.mono (by decide) (by decide))) ?_ ⟨fun i hi => ?_, ?_, ?_, ?_⟩ (hU2.of hF3 (by decide) (by decide) (by decide)) ?_
    · rw [hF3.int (by decide) (by decide), hF2.int (by decide) (by decide), fe_0_13 hS]
    · rw [ar_hpf, hN2.1 i hi, getD_set, if_neg (by omega)]
    · rw [fi_hpf_ne (by decide), hN2.2.1, getD_set, if_neg (by omega)]
    · rw [fe_30_2 hs2, getD_set, if_pos ⟨rfl, by omega⟩]
    · rw [fi_hpf_ne (by decide), hN2.2.2.2, getD_set, if_neg (by omega)]
    · exact ((hK.of hF0 (by decide) (by decide) (by decide)).of hF2 (by decide) (by decide) (by decide)).of hF3 (by decide) (by decide) (by decide)
  · have e1 := q3 ht
    have es : acS (decide (0 < n ∧ 0 ≤ k ∧ k < nI nG)) st 7 k is = st := by unfold acS; rw [e1, if_neg (by decide)]
    have eu : acU Us (decide (0 < n ∧ 0 ≤ k ∧ k < nI nG)) st 7 k is = Us := by unfold acU; rw [e1, if_neg (by decide)]
    rw [e1, es, eu] at hQ
    simp (maxDischargeDepth := 12) only [w173_0, w173_1, w173_2, w173_5, w173_8, w173_9, w173_12, w173_15, w173_16, w173_17, w173_20, w173_23, w173_24, w173_27, w173_30, w173_31, w173_32, w173_33, w173_36, w173_37, w173_40, w173_43, w173_44, w173_47, w173_48, w173_51, w173_52, w173_53, w173_54, w173_55, w173_58, w173_59, oK_some, cont_int, cont_intS, cont_none, cont_noneS, cont_long, cont_longS, true_and, and_true, false_and, and_false, true_implies, false_implies, not_true_eq_false, not_false_eq_true, eq_self, or_true, true_or, Option.isSome_some, hpf_length, hpa_length, bI_eq0, fi_hpa, fl_hpa, ar_hpf, fi_hpf_ne, fl_hpf_ne, ar_hpa_ne, hpa_hpa, hpf_hpf, nI_1, two_ne, fokZ, implies_true, Nat.reduceEqDiff, g_0_2, rc_3, g_3_5, rc_10, g_16_5, rc_23, g_0_5, rc_30, g_30_2, sf_30_2, fe_30_2, g_34_2, sf_34_2, fe_34_2, g_45_2, sf_45_2, fe_45_2, g_0_13, sf_0_13, fe_0_13, g_0_11, rc_62, rc_65, ht]
    exact ca_no hC hU hK hQ
theorem C_put {k : Int32} {is : Bool} (hC : CIv H R st n nS nW nG nU nN) (hU : CUn H Us n) (hK : CIm H Ks n) (hz : n = 0 → nW = 0) (hQ : CA H Q n (acR (decide (0 < n ∧ 0 ≤ k ∧ k < nI nW)) st 8 k is).1 (acR (decide (0 < n ∧ 0 ≤ k ∧ k < nI nW)) st 8 k is).2 (acS (decide (0 < n ∧ 0 ≤ k ∧ k < nI nW)) st 8 k is) (acU Us (decide (0 < n ∧ 0 ≤ k ∧ k < nI nW)) st 8 k is) Ks) : Wp scr (d + 2) 174 0 [some (.ref 0), some (.int k), some (.int (bI is))] [] H Q := by
  have hS := hC.shp
  obtain ⟨c2, c3, c4, c5, c6, c7, b2, b3, b4, b5, b6, b7⟩ := id hC.1.2.1
  have hs0 := sf_0_13 (v := 0) hS
  have hC0 := hC.tr (v := 0)
  have f2 := hC.2.1.2.2.2
  have gt : gfl H 8 9 2 = some (.int (nI nW)) := by rw [g_8_2 hS, c4]
  obtain ⟨q1, q2, q3⟩ := acR_eq (n := n) (st := st) (f := 8) (nn := nW) (k := k) (is := is) hz (by omega)
  generalize hT : (if 0 ≤ k ∧ k < nI nW then (if hb (st.getD 8 0) k = is then (5 : Int32) else 0) else 1) = T at q1 q2 q3
  simp (maxDischargeDepth := 12) only [w174_0, w174_1, w174_2, w174_5, w174_8, w174_9, w174_12, w174_15, w174_16, w174_17, w174_20, w174_23, w174_24, w174_27, w174_30, w174_31, w174_32, w174_33, w174_36, w174_37, w174_40, w174_43, w174_44, w174_47, w174_48, w174_51, w174_52, w174_53, w174_54, w174_55, w174_58, w174_59, oK_some, cont_int, cont_intS, cont_none, cont_noneS, cont_long, cont_longS, true_and, and_true, false_and, and_false, true_implies, false_implies, not_true_eq_false, not_false_eq_true, eq_self, or_true, true_or, Option.isSome_some, hpf_length, hpa_length, bI_eq0, fi_hpa, fl_hpa, ar_hpf, fi_hpf_ne, fl_hpf_ne, ar_hpa_ne, hpa_hpa, hpf_hpf, nI_1, two_ne, fokZ, implies_true, Nat.reduceEqDiff, g_0_2, rc_3, g_3_4, rc_8, g_16_4, rc_21, g_0_5, rc_30, g_30_3, sf_30_3, fe_30_3, g_34_3, sf_34_3, fe_34_3, g_45_3, sf_45_3, fe_45_3, g_0_13, sf_0_13, fe_0_13, g_0_11, rc_62, rc_65, hS, f2, c_actT gt, hb_ne0, hT]
  rw [← q1] at hQ
  by_cases ht : T = 0
  · have e1 := q2.mp ht
    have es : acS (decide (0 < n ∧ 0 ≤ k ∧ k < nI nW)) st 8 k is = st.set 8 (st.getD 8 0 ^^^ (1 <<< (k &&& 31))) := by unfold acS; rw [if_pos e1]
    have eu : acU Us (decide (0 < n ∧ 0 ≤ k ∧ k < nI nW)) st 8 k is = pushU Us st := by unfold acU; rw [if_pos e1]
    rw [e1, es, eu, ht] at hQ
    simp (maxDischargeDepth := 12) only [w174_0, w174_1, w174_2, w174_5, w174_8, w174_9, w174_12, w174_15, w174_16, w174_17, w174_20, w174_23, w174_24, w174_27, w174_30, w174_31, w174_32, w174_33, w174_36, w174_37, w174_40, w174_43, w174_44, w174_47, w174_48, w174_51, w174_52, w174_53, w174_54, w174_55, w174_58, w174_59, oK_some, cont_int, cont_intS, cont_none, cont_noneS, cont_long, cont_longS, true_and, and_true, false_and, and_false, true_implies, false_implies, not_true_eq_false, not_false_eq_true, eq_self, or_true, true_or, Option.isSome_some, hpf_length, hpa_length, bI_eq0, fi_hpa, fl_hpa, ar_hpf, fi_hpf_ne, fl_hpf_ne, ar_hpa_ne, hpa_hpa, hpf_hpf, nI_1, two_ne, fokZ, implies_true, Nat.reduceEqDiff, g_0_2, rc_3, g_3_4, rc_8, g_16_4, rc_21, g_0_5, rc_30, g_30_3, sf_30_3, fe_30_3, g_34_3, sf_34_3, fe_34_3, g_45_3, sf_45_3, fe_45_3, g_0_13, sf_0_13, fe_0_13, g_0_11, rc_62, rc_65, ht, hs0]
    have hF0 : Fg [] [(0, 13)] H (hpf H 0 13 (.int 0)) := (fg_hpf (a := 0) (f := 13) (ci := 11) hS rfl (by decide))
    refine c_keepU hs0 hC0.2.1 b2 (hU.of hF0 (by decide) (by decide) (by decide)) (fun H2 hF2 hU2 => ?_)
    have hs2 := hF2.shp
    have hN2 := hC0.2.1.of hF2 (by decide) (by decide) (by decide)
    have l10 := hC.2.2.1
    have f2' := hN2.2.2.2
    simp (maxDischargeDepth := 12) only [w174_0, w174_1, w174_2, w174_5, w174_8, w174_9, w174_12, w174_15, w174_16, w174_17, w174_20, w174_23, w174_24, w174_27, w174_30, w174_31, w174_32, w174_33, w174_36, w174_37, w174_40, w174_43, w174_44, w174_47, w174_48, w174_51, w174_52, w174_53, w174_54, w174_55, w174_58, w174_59, oK_some, cont_int, cont_intS, cont_none, cont_noneS, cont_long, cont_longS, true_and, and_true, false_and, and_false, true_implies, false_implies, not_true_eq_false, not_false_eq_true, eq_self, or_true, true_or, Option.isSome_some, hpf_length, hpa_length, bI_eq0, fi_hpa, fl_hpa, ar_hpf, fi_hpf_ne, fl_hpf_ne, ar_hpa_ne, hpa_hpa, hpf_hpf, nI_1, two_ne, fokZ, implies_true, Nat.reduceEqDiff, g_0_2, rc_3, g_3_4, rc_8, g_16_4, rc_21, g_0_5, rc_30, g_30_3, sf_30_3, fe_30_3, g_34_3, sf_34_3, fe_34_3, g_45_3, sf_45_3, fe_45_3, g_0_13, sf_0_13, fe_0_13, g_0_11, rc_62, rc_65, hF2.len, hs2, f2']
    have hF3 : Fg [30] [] H2 (hpf H2 30 3 (.int (st.getD 8 0 ^^^ (1 <<< (k &&& 31))))) := (fr_hpf (S := [30]) (ci := 8) hs2 rfl (by decide)).fg
    refine hQ _ (((hF0.mono (by decide) (by decide)).trans (hF2.mono (by decide) (by decide))).trans (hF3.mono (by decide) (by decide))) ?_ ⟨fun i hi => ?_, ?_, ?_, ?_⟩ (hU2.of hF3 (by decide) (by decide) (by decide)) ?_
    · rw [hF3.int (by decide) (by decide), hF2.int (by decide) (by decide), fe_0_13 hS]
    · rw [ar_hpf, hN2.1 i hi, getD_set, if_neg (by omega)]
    · rw [fi_hpf_ne (by decide), hN2.2.1, getD_set, if_neg (by omega)]
    · rw [fi_hpf_ne (by decide), hN2.2.2.1, getD_set, if_neg (by omega)]
    · rw [fe_30_3 hs2, getD_set, if_pos ⟨rfl, by omega⟩]
    · exact ((hK.of hF0 (by decide) (by decide) (by decide)).of hF2 (by decide) (by decide) (by decide)).of hF3 (by decide) (by decide) (by decide)
  · have e1 := q3 ht
    have es : acS (decide (0 < n ∧ 0 ≤ k ∧ k < nI nW)) st 8 k is = st := by unfold acS; rw [e1, if_neg (by decide)]
    have eu : acU Us (decide (0 < n ∧ 0 ≤ k ∧ k < nI nW)) st 8 k is = Us := by unfold acU; rw [e1, if_neg (by decide)]
    rw [e1, es, eu] at hQ
    simp (maxDischargeDepth := 12) only [w174_0, w174_1, w174_2, w174_5, w174_8, w174_9, w174_12, w174_15, w174_16, w174_17, w174_20, w174_23, w174_24, w174_27, w174_30, w174_31, w174_32, w174_33, w174_36, w174_37, w174_40, w174_43, w174_44, w174_47, w174_48, w174_51, w174_52, w174_53, w174_54, w174_55, w174_58, w174_59, oK_some, cont_int, cont_intS, cont_none, cont_noneS, cont_long, cont_longS, true_and, and_true, false_and, and_false, true_implies, false_implies, not_true_eq_false, not_false_eq_true, eq_self, or_true, true_or, Option.isSome_some, hpf_length, hpa_length, bI_eq0, fi_hpa, fl_hpa, ar_hpf, fi_hpf_ne, fl_hpf_ne, ar_hpa_ne, hpa_hpa, hpf_hpf, nI_1, two_ne, fokZ, implies_true, Nat.reduceEqDiff, g_0_2, rc_3, g_3_4, rc_8, g_16_4, rc_21, g_0_5, rc_30, g_30_3, sf_30_3, fe_30_3, g_34_3, sf_34_3, fe_34_3, g_45_3, sf_45_3, fe_45_3, g_0_13, sf_0_13, fe_0_13, g_0_11, rc_62, rc_65, ht]
    exact ca_no hC hU hK hQ
theorem C_day {g : Nat} (hC : CIv H R st n nS nW nG nU nN) (hU : CUn H Us n) (hK : CIm H Ks n) (hg : st.getD 9 0 = nI g) (hg9 : g ≤ 999) (hQ : CA H Q n (if dyT n st = 0 then dbt n (dayM R (allU nU) n nW nG nU st) else -1) (dyT n st) (if dyT n st = 0 then dayM R (allU nU) n nW nG nU st else st) (if dyT n st = 0 then pushU Us st else Us) Ks) : Wp scr (d + 5) 176 0 [some (.ref 0)] [] H Q := by
  have hS := hC.shp
  obtain ⟨c2, c3, c4, c5, c6, c7, b2, b3, b4, b5, b6, b7⟩ := id hC.1.2.1
  have hs0 := sf_0_13 (v := 0) hS
  have hC0 := hC.tr (v := 0)
  have f1 := hC.2.1.2.1
  have e999 : (nI g < 999) = (g < 999) := propext (nI_ltI (b := 999) (by omega) (by decide))
  have e999' : (nI g = 999) = (g = 999) := propext (nI_eq (b := 999) (by omega) (by decide))
  by_cases hp : 0 < n
  · by_cases h9 : g = 999
    · have e : dyT n st = 3 := by unfold dyT; rw [if_pos hp, if_pos (by rw [hg]; exact e999'.mpr h9)]
      rw [e, if_neg (by decide), if_neg (by decide), if_neg (by decide)] at hQ
      have h9' : ¬ g < 999 := by omega
      simp (maxDischargeDepth := 12) only [w176_0, w176_1, w176_2, w176_5, w176_8, w176_9, w176_12, w176_13, w176_16, w176_19, w176_22, w176_25, w176_26, w176_29, w176_30, w176_33, w176_34, w176_37, w176_40, w176_41, w176_42, w176_43, w176_46, w176_47, w176_50, w176_53, w176_54, w176_57, w176_58, w176_61, w176_64, w176_65, w176_68, w176_71, w176_72, w176_73, w176_76, w176_77, w176_80, w176_83, w176_84, w176_87, w176_88, w176_91, w176_94, oK_some, cont_int, cont_intS, cont_none, cont_noneS, cont_long, cont_longS, true_and, and_true, false_and, and_false, true_implies, false_implies, not_true_eq_false, not_false_eq_true, eq_self, or_true, true_or, Option.isSome_some, hpf_length, hpa_length, bI_eq0, fi_hpa, fl_hpa, ar_hpf, fi_hpf_ne, fl_hpf_ne, ar_hpa_ne, hpa_hpa, hpf_hpf, nI_1, two_ne, fokZ, implies_true, Nat.reduceEqDiff, rc_0, g_0_5, rc_30, g_30_1, sf_30_1, fe_30_1, g_34_1, sf_34_1, fe_34_1, g_45_1, sf_45_1, fe_45_1, g_0_13, sf_0_13, fe_0_13, g_0_11, rc_62, rc_65, g_0_6, rc_33, g_0_2, rc_3, rc_16, hS, c_slopeTrouble hC, hp, if_true, f1, hg, e999, h9', show ((3 : Int32) = 0) = False from eq_false (by decide)]
      exact ca_no hC hU hK hQ
    · have e : dyT n st = 0 := by unfold dyT; rw [if_pos hp, if_neg (by rw [hg]; exact fun q => h9 (e999'.mp q))]
      rw [e, if_pos rfl, if_pos rfl, if_pos rfl] at hQ
      have h9' : g < 999 := by omega
      simp (maxDischargeDepth := 12) only [w176_0, w176_1, w176_2, w176_5, w176_8, w176_9, w176_12, w176_13, w176_16, w176_19, w176_22, w176_25, w176_26, w176_29, w176_30, w176_33, w176_34, w176_37, w176_40, w176_41, w176_42, w176_43, w176_46, w176_47, w176_50, w176_53, w176_54, w176_57, w176_58, w176_61, w176_64, w176_65, w176_68, w176_71, w176_72, w176_73, w176_76, w176_77, w176_80, w176_83, w176_84, w176_87, w176_88, w176_91, w176_94, oK_some, cont_int, cont_intS, cont_none, cont_noneS, cont_long, cont_longS, true_and, and_true, false_and, and_false, true_implies, false_implies, not_true_eq_false, not_false_eq_true, eq_self, or_true, true_or, Option.isSome_some, hpf_length, hpa_length, bI_eq0, fi_hpa, fl_hpa, ar_hpf, fi_hpf_ne, fl_hpf_ne, ar_hpa_ne, hpa_hpa, hpf_hpf, nI_1, two_ne, fokZ, implies_true, Nat.reduceEqDiff, rc_0, g_0_5, rc_30, g_30_1, sf_30_1, fe_30_1, g_34_1, sf_34_1, fe_34_1, g_45_1, sf_45_1, fe_45_1, g_0_13, sf_0_13, fe_0_13, g_0_11, rc_62, rc_65, g_0_6, rc_33, g_0_2, rc_3, rc_16, hS, c_slopeTrouble hC, hp, if_true, f1, hg, e999, h9', hs0]
      have hF0 : Fg [] [(0, 13)] H (hpf H 0 13 (.int 0)) := (fg_hpf (a := 0) (f := 13) (ci := 11) hS rfl (by decide))
      refine c_keepU hs0 hC0.2.1 b2 (hU.of hF0 (by decide) (by decide) (by decide)) (fun H2 hF2 hU2 => ?_)
      have hs2 := hF2.shp
      have hC2 := hC0.of hF2 (by decide) (by decide)
      simp (maxDischargeDepth := 12) only [w176_0, w176_1, w176_2, w176_5, w176_8, w176_9, w176_12, w176_13, w176_16, w176_19, w176_22, w176_25, w176_26, w176_29, w176_30, w176_33, w176_34, w176_37, w176_40, w176_41, w176_42, w176_43, w176_46, w176_47, w176_50, w176_53, w176_54, w176_57, w176_58, w176_61, w176_64, w176_65, w176_68, w176_71, w176_72, w176_73, w176_76, w176_77, w176_80, w176_83, w176_84, w176_87, w176_88, w176_91, w176_94, oK_some, cont_int, cont_intS, cont_none, cont_noneS, cont_long, cont_longS, true_and, and_true, false_and, and_false, true_implies, false_implies, not_true_eq_false, not_false_eq_true, eq_self, or_true, true_or, Option.isSome_some, hpf_length, hpa_length, bI_eq0, fi_hpa, fl_hpa, ar_hpf, fi_hpf_ne, fl_hpf_ne, ar_hpa_ne, hpa_hpa, hpf_hpf, nI_1, two_ne, fokZ, implies_true, Nat.reduceEqDiff, rc_0, g_0_5, rc_30, g_30_1, sf_30_1, fe_30_1, g_34_1, sf_34_1, fe_34_1, g_45_1, sf_45_1, fe_45_1, g_0_13, sf_0_13, fe_0_13, g_0_11, rc_62, rc_65, g_0_6, rc_33, g_0_2, rc_3, rc_16, hF2.len, hs2]
      refine w_start hC2 (fun H3 hF3 hW3 => ?_)
      have hs3 := hF3.shp
      have hC3 := hC2.of hF3 (by decide) (by decide)
      simp (maxDischargeDepth := 12) only [w176_0, w176_1, w176_2, w176_5, w176_8, w176_9, w176_12, w176_13, w176_16, w176_19, w176_22, w176_25, w176_26, w176_29, w176_30, w176_33, w176_34, w176_37, w176_40, w176_41, w176_42, w176_43, w176_46, w176_47, w176_50, w176_53, w176_54, w176_57, w176_58, w176_61, w176_64, w176_65, w176_68, w176_71, w176_72, w176_73, w176_76, w176_77, w176_80, w176_83, w176_84, w176_87, w176_88, w176_91, w176_94, oK_some, cont_int, cont_intS, cont_none, cont_noneS, cont_long, cont_longS, true_and, and_true, false_and, and_false, true_implies, false_implies, not_true_eq_false, not_false_eq_true, eq_self, or_true, true_or, Option.isSome_some, hpf_length, hpa_length, bI_eq0, fi_hpa, fl_hpa, ar_hpf, fi_hpf_ne, fl_hpf_ne, ar_hpa_ne, hpa_hpa, hpf_hpf, nI_1, two_ne, fokZ, implies_true, Nat.reduceEqDiff, rc_0, g_0_5, rc_30, g_30_1, sf_30_1, fe_30_1, g_34_1, sf_34_1, fe_34_1, g_45_1, sf_45_1, fe_45_1, g_0_13, sf_0_13, fe_0_13, g_0_11, rc_62, rc_65, g_0_6, rc_33, g_0_2, rc_3, rc_16, hF3.len, hs3]
      refine w_pass hC3.1 hW3 (fun H4 hF4 hW4 => ?_)
      have hs4 := hF4.shp
      have hC4 := hC3.of hF4 (by decide) (by decide)
      simp (maxDischargeDepth := 12) only [w176_0, w176_1, w176_2, w176_5, w176_8, w176_9, w176_12, w176_13, w176_16, w176_19, w176_22, w176_25, w176_26, w176_29, w176_30, w176_33, w176_34, w176_37, w176_40, w176_41, w176_42, w176_43, w176_46, w176_47, w176_50, w176_53, w176_54, w176_57, w176_58, w176_61, w176_64, w176_65, w176_68, w176_71, w176_72, w176_73, w176_76, w176_77, w176_80, w176_83, w176_84, w176_87, w176_88, w176_91, w176_94, oK_some, cont_int, cont_intS, cont_none, cont_noneS, cont_long, cont_longS, true_and, and_true, false_and, and_false, true_implies, false_implies, not_true_eq_false, not_false_eq_true, eq_self, or_true, true_or, Option.isSome_some, hpf_length, hpa_length, bI_eq0, fi_hpa, fl_hpa, ar_hpf, fi_hpf_ne, fl_hpf_ne, ar_hpa_ne, hpa_hpa, hpf_hpf, nI_1, two_ne, fokZ, implies_true, Nat.reduceEqDiff, rc_0, g_0_5, rc_30, g_30_1, sf_30_1, fe_30_1, g_34_1, sf_34_1, fe_34_1, g_45_1, sf_45_1, fe_45_1, g_0_13, sf_0_13, fe_0_13, g_0_11, rc_62, rc_65, g_0_6, rc_33, g_0_2, rc_3, rc_16, w102_0, w102_1, w102_2, w102_5, w102_8, hF4.len, hs4, g_33_1, rc_30]
      refine c_State_copy (S := [30, 32]) hs4 (s := 30) (c := 31) (b := 32) rfl rfl rfl (by decide) rfl rfl rfl (s' := 34) (c' := 35) (b' := 36) rfl rfl rfl (by decide) rfl rfl rfl (by decide) (by decide) (by decide) (by decide) (fun H5 hF5 ⟨a1, a2, a3, a4⟩ => ?_)
      have hs5 := hF5.2.1
      obtain ⟨⟨w1, w2, w3, w4⟩, _⟩ := hW4
      have hN5 : Sn H5 30 32 (dayM R (allU nU) n nW nG nU st) n := ⟨fun i hi => by rw [a1, w1 i hi], by rw [a2, w2], by rw [a3, w3], by rw [a4, w4]⟩
      have hC5 := hC4.1.of (hF5.fg (F := [])) (by decide) (by decide)
      have hx : (ar H5 32).length < 2147483648 := by rw [gn_32 hs5]; decide
      simp (maxDischargeDepth := 12) only [w176_0, w176_1, w176_2, w176_5, w176_8, w176_9, w176_12, w176_13, w176_16, w176_19, w176_22, w176_25, w176_26, w176_29, w176_30, w176_33, w176_34, w176_37, w176_40, w176_41, w176_42, w176_43, w176_46, w176_47, w176_50, w176_53, w176_54, w176_57, w176_58, w176_61, w176_64, w176_65, w176_68, w176_71, w176_72, w176_73, w176_76, w176_77, w176_80, w176_83, w176_84, w176_87, w176_88, w176_91, w176_94, oK_some, cont_int, cont_intS, cont_none, cont_noneS, cont_long, cont_longS, true_and, and_true, false_and, and_false, true_implies, false_implies, not_true_eq_false, not_false_eq_true, eq_self, or_true, true_or, Option.isSome_some, hpf_length, hpa_length, bI_eq0, fi_hpa, fl_hpa, ar_hpf, fi_hpf_ne, fl_hpf_ne, ar_hpa_ne, hpa_hpa, hpf_hpf, nI_1, two_ne, fokZ, implies_true, Nat.reduceEqDiff, rc_0, g_0_5, rc_30, g_30_1, sf_30_1, fe_30_1, g_34_1, sf_34_1, fe_34_1, g_45_1, sf_45_1, fe_45_1, g_0_13, sf_0_13, fe_0_13, g_0_11, rc_62, rc_65, g_0_6, rc_33, g_0_2, rc_3, rc_16, w102_0, w102_1, w102_2, w102_5, w102_8, hF5.1, hs5, c_doubtersOf hs5 hC5.2.1.1 (by omega : n < 100000) (g_30_0 hs5) (g_31_0 hs5) (ga_32 hs5) hx, dbt_congr hN5.1 (by omega : n < 100000)]
      have G1 : Fg [33, 34, 36, 38, 40, 42, 30, 32] [] H2 H5 := ((hF3.mono (by decide) (by decide)).trans (hF4.mono (by decide) (by decide))).trans ((hF5.fg (F := [])).mono (by decide) (by decide))
      refine hQ H5 (((hF0.mono (by decide) (by decide)).trans (hF2.mono (by decide) (by decide))).trans (G1.mono (by decide) (by decide))) ?_ hN5 (hU2.of G1 (by decide) (by decide) (by decide)) ?_
      · rw [G1.int (by decide) (by decide), hF2.int (by decide) (by decide), fe_0_13 hS]
      · exact ((hK.of hF0 (by decide) (by decide) (by decide)).of hF2 (by decide) (by decide) (by decide)).of G1 (by decide) (by decide) (by decide)
  · have e : dyT n st = 1 := by unfold dyT; rw [if_neg hp]
    rw [e, if_neg (by decide), if_neg (by decide), if_neg (by decide)] at hQ
    simp (maxDischargeDepth := 12) only [w176_0, w176_1, w176_2, w176_5, w176_8, w176_9, w176_12, w176_13, w176_16, w176_19, w176_22, w176_25, w176_26, w176_29, w176_30, w176_33, w176_34, w176_37, w176_40, w176_41, w176_42, w176_43, w176_46, w176_47, w176_50, w176_53, w176_54, w176_57, w176_58, w176_61, w176_64, w176_65, w176_68, w176_71, w176_72, w176_73, w176_76, w176_77, w176_80, w176_83, w176_84, w176_87, w176_88, w176_91, w176_94, oK_some, cont_int, cont_intS, cont_none, cont_noneS, cont_long, cont_longS, true_and, and_true, false_and, and_false, true_implies, false_implies, not_true_eq_false, not_false_eq_true, eq_self, or_true, true_or, Option.isSome_some, hpf_length, hpa_length, bI_eq0, fi_hpa, fl_hpa, ar_hpf, fi_hpf_ne, fl_hpf_ne, ar_hpa_ne, hpa_hpa, hpf_hpf, nI_1, two_ne, fokZ, implies_true, Nat.reduceEqDiff, rc_0, g_0_5, rc_30, g_30_1, sf_30_1, fe_30_1, g_34_1, sf_34_1, fe_34_1, g_45_1, sf_45_1, fe_45_1, g_0_13, sf_0_13, fe_0_13, g_0_11, rc_62, rc_65, g_0_6, rc_33, g_0_2, rc_3, rc_16, hS, c_slopeTrouble hC, hp, if_false, show ((1 : Int32) = 0) = False from eq_false (by decide)]
    exact ca_no hC hU hK hQ
theorem C_undo (hC : CIv H R st n nS nW nG nU nN) (hU : CUn H Us n) (hK : CIm H Ks n) (hQ : CA H Q n (if Us.length = 0 then 0 else 1) (if Us.length = 0 then 6 else 0) (if Us.length = 0 then st else Us.getD (Us.length - 1) []) (Us.take (Us.length - 1)) Ks) : Wp scr (d + 3) 177 0 [some (.ref 0), none] [] H Q := by
  have hS := hC.shp
  obtain ⟨c2, c3, c4, c5, c6, c7, b2, b3, b4, b5, b6, b7⟩ := id hC.1.2.1
  have hs0 := sf_0_13 (v := 0) hS
  have hC0 := hC.tr (v := 0)
  obtain ⟨t, ht, u0, u3, u2, ul, us⟩ := id hU
  have e0 : (nI Us.length = 0) = (Us.length = 0) := propext (nI_eq (b := 0) (by omega) (by decide))
  have et0 : (nI t = 0) = (t = 0) := propext (nI_eq (b := 0) (by omega) (by decide))
  by_cases hz : Us.length = 0
  · have eu : Us.take (Us.length - 1) = Us := by
      rw [List.length_eq_zero_iff] at hz
      subst hz
      rfl
    rw [if_pos hz, if_pos hz, if_pos hz, eu] at hQ
    simp (maxDischargeDepth := 12) only [w177_0, w177_1, w177_4, w177_5, w177_8, w177_11, w177_12, w177_13, w177_14, w177_17, w177_18, w177_21, w177_23, w177_26, w177_27, oK_some, cont_int, cont_intS, cont_none, cont_noneS, cont_long, cont_longS, true_and, and_true, false_and, and_false, true_implies, false_implies, not_true_eq_false, not_false_eq_true, eq_self, or_true, true_or, Option.isSome_some, hpf_length, hpa_length, bI_eq0, fi_hpa, fl_hpa, ar_hpf, fi_hpf_ne, fl_hpf_ne, ar_hpa_ne, hpa_hpa, hpf_hpf, nI_1, two_ne, fokZ, implies_true, Nat.reduceEqDiff, g_0_11, rc_62, g_0_5, rc_30, rc_65, g_0_13, sf_0_13, fe_0_13, w59_0, w59_1, w59_4, w59_7, w59_8, w59_9, w59_10, w59_11, w59_14, w59_17, w59_18, w59_21, w59_22, w59_23, w59_26, w59_27, w59_30, w59_31, w59_32, w59_35, w59_36, w59_37, w59_40, w59_41, w59_42, w59_45, w59_46, w59_47, w59_50, w59_51, w59_54, w59_55, oK_some, cont_int, cont_intS, cont_none, cont_noneS, cont_long, cont_longS, true_and, and_true, false_and, and_false, true_implies, false_implies, not_true_eq_false, not_false_eq_true, eq_self, or_true, true_or, Option.isSome_some, hpf_length, hpa_length, bI_eq0, fi_hpa, fl_hpa, ar_hpf, fi_hpf_ne, fl_hpf_ne, ar_hpa_ne, hpa_hpa, hpf_hpf, nI_1, two_ne, fokZ, implies_true, Nat.reduceEqDiff, g_62_2, sf_62_2, fe_62_2, g_65_2, sf_65_2, fe_65_2, g_62_3, sf_62_3, fe_62_3, g_65_3, sf_65_3, fe_65_3, g_62_0, sf_62_0, fe_62_0, g_65_0, sf_65_0, fe_65_0, rc_62, rc_65, hS, u2, hz, show (nI 0 = 0) = True from eq_true rfl]
    exact ca_no hC hU hK hQ
  · rw [if_neg hz, if_neg hz, if_neg hz] at hQ
    have e1 : nI Us.length - 1 = nI (Us.length - 1) := pk_sub (b := 1) (by omega)
    have tail : ∀ v : Int32, v = nI ((t + 15) % 16) → Wp scr (d + 1) 58 0 [some (.ref 62), some (.int v), some (.ref 30), none, none] [] (hpf (hpf H 62 3 (.int v)) 62 2 (.int (nI (Us.length - 1)))) (cont scr (d + 2) 59 54 [some (.ref 62), some (.ref 30)] [] 1 (hpf (hpf H 62 3 (.int v)) 62 2 (.int (nI (Us.length - 1)))) (cont scr (d + 3) 177 11 [some (.ref 0), none] [] 1 H Q)) := by
      intro v hv
      subst hv
      have t3 := sf_62_3 (v := nI ((t + 15) % 16)) hS
      have t2 := sf_62_2 (v := nI (Us.length - 1)) t3
      generalize hH1 : hpf (hpf H 62 3 (.int (nI ((t + 15) % 16)))) 62 2 (.int (nI (Us.length - 1))) = H1 at t2
      have hF1 : Fg [] [(62, 2), (62, 3)] H H1 := by
        rw [← hH1]
        exact ((fg_hpf (a := 62) (f := 3) (ci := 5) hS rfl (by decide))).trans (fg_hpf (a := 62) (f := 2) (ci := 5) t3 rfl (by decide))
      have s1 := us (Us.length - 1) (by omega)
      rw [show (t + 16 - Us.length + (Us.length - 1)) % 16 = (t + 15) % 16 by omega] at s1
      refine c_read62 t2 (Nat.mod_lt _ (by decide)) (by rw [hF1.arr (by decide)]; exact s1) b2 (fun H2 hF2 hN2 => ?_)
      have hs2 := hF2.shp
      have hl2 : H2.length = H.length := by rw [hF2.len, hF1.len]
      simp (maxDischargeDepth := 12) only [w59_0, w59_1, w59_4, w59_7, w59_8, w59_9, w59_10, w59_11, w59_14, w59_17, w59_18, w59_21, w59_22, w59_23, w59_26, w59_27, w59_30, w59_31, w59_32, w59_35, w59_36, w59_37, w59_40, w59_41, w59_42, w59_45, w59_46, w59_47, w59_50, w59_51, w59_54, w59_55, oK_some, cont_int, cont_intS, cont_none, cont_noneS, cont_long, cont_longS, true_and, and_true, false_and, and_false, true_implies, false_implies, not_true_eq_false, not_false_eq_true, eq_self, or_true, true_or, Option.isSome_some, hpf_length, hpa_length, bI_eq0, fi_hpa, fl_hpa, ar_hpf, fi_hpf_ne, fl_hpf_ne, ar_hpa_ne, hpa_hpa, hpf_hpf, nI_1, two_ne, fokZ, implies_true, Nat.reduceEqDiff, g_62_2, sf_62_2, fe_62_2, g_65_2, sf_65_2, fe_65_2, g_62_3, sf_62_3, fe_62_3, g_65_3, sf_65_3, fe_65_3, g_62_0, sf_62_0, fe_62_0, g_65_0, sf_65_0, fe_65_0, rc_62, rc_65, w177_0, w177_1, w177_4, w177_5, w177_8, w177_11, w177_12, w177_13, w177_14, w177_17, w177_18, w177_21, w177_23, w177_26, w177_27, oK_some, cont_int, cont_intS, cont_none, cont_noneS, cont_long, cont_longS, true_and, and_true, false_and, and_false, true_implies, false_implies, not_true_eq_false, not_false_eq_true, eq_self, or_true, true_or, Option.isSome_some, hpf_length, hpa_length, bI_eq0, fi_hpa, fl_hpa, ar_hpf, fi_hpf_ne, fl_hpf_ne, ar_hpa_ne, hpa_hpa, hpf_hpf, nI_1, two_ne, fokZ, implies_true, Nat.reduceEqDiff, g_0_11, rc_62, g_0_5, rc_30, rc_65, g_0_13, sf_0_13, fe_0_13, hF2.len, hF1.len, hs2, hl2, show ((1 : Int32) = 0) = False from eq_false (by decide)]
      have hF3 : Fg [] [(0, 13)] H2 (hpf H2 0 13 (.int 0)) := (fg_hpf (a := 0) (f := 13) (ci := 11) hs2 rfl (by decide))
      refine hQ _ (((hF1.mono (by decide) (by decide)).trans (hF2.mono (by decide) (by decide))).trans (hF3.mono (by decide) (by decide))) (fe_0_13 hs2) (hN2.of hF3 (by decide) (by decide) (by decide)) ?_ (((hK.of hF1 (by decide) (by decide) (by decide)).of hF2 (by decide) (by decide) (by decide)).of hF3 (by decide) (by decide) (by decide))
      have r3 : fi H1 62 3 = nI ((t + 15) % 16) := by rw [← hH1, fi_hpf_ne (by decide), fe_62_3 hS]
      have r2 : fi H1 62 2 = nI (Us.length - 1) := by rw [← hH1, fe_62_2 t3]
      have r0 : fi H1 62 0 = nI 16 := by rw [hF1.int (by decide) (by decide), u0]
      have hUa : CUn H1 (Us.take (Us.length - 1)) n := by
        refine ⟨(t + 15) % 16, Nat.mod_lt _ (by decide), r0, r3, ?_, ?_, ?_⟩
        · rw [r2, List.length_take, Nat.min_eq_left (by omega)]
        · rw [List.length_take]; omega
        · intro i hi
          rw [List.length_take] at hi
          have et : (Us.take (Us.length - 1)).getD i [] = Us.getD i [] := by rw [List.getD_eq_getElem?_getD, List.getD_eq_getElem?_getD, List.getElem?_take, if_pos (by omega)]
          rw [et, hF1.arr (by decide), List.length_take, Nat.min_eq_left (by omega), show ((t + 15) % 16 + 16 - (Us.length - 1) + i) % 16 = (t + 16 - Us.length + i) % 16 by omega]
          exact us i (by omega)
      exact (hUa.of hF2 (by decide) (by decide) (by decide)).of hF3 (by decide) (by decide) (by decide)
    have t3 := fun v => sf_62_3 (v := v) hS
    by_cases htz : t = 0
    · subst htz
      have e15 : nI 16 - 1 = nI 15 := rfl
      simp (maxDischargeDepth := 12) only [w177_0, w177_1, w177_4, w177_5, w177_8, w177_11, w177_12, w177_13, w177_14, w177_17, w177_18, w177_21, w177_23, w177_26, w177_27, oK_some, cont_int, cont_intS, cont_none, cont_noneS, cont_long, cont_longS, true_and, and_true, false_and, and_false, true_implies, false_implies, not_true_eq_false, not_false_eq_true, eq_self, or_true, true_or, Option.isSome_some, hpf_length, hpa_length, bI_eq0, fi_hpa, fl_hpa, ar_hpf, fi_hpf_ne, fl_hpf_ne, ar_hpa_ne, hpa_hpa, hpf_hpf, nI_1, two_ne, fokZ, implies_true, Nat.reduceEqDiff, g_0_11, rc_62, g_0_5, rc_30, rc_65, g_0_13, sf_0_13, fe_0_13, w59_0, w59_1, w59_4, w59_7, w59_8, w59_9, w59_10, w59_11, w59_14, w59_17, w59_18, w59_21, w59_22, w59_23, w59_26, w59_27, w59_30, w59_31, w59_32, w59_35, w59_36, w59_37, w59_40, w59_41, w59_42, w59_45, w59_46, w59_47, w59_50, w59_51, w59_54, w59_55, oK_some, cont_int, cont_intS, cont_none, cont_noneS, cont_long, cont_longS, true_and, and_true, false_and, and_false, true_implies, false_implies, not_true_eq_false, not_false_eq_true, eq_self, or_true, true_or, Option.isSome_some, hpf_length, hpa_length, bI_eq0, fi_hpa, fl_hpa, ar_hpf, fi_hpf_ne, fl_hpf_ne, ar_hpa_ne, hpa_hpa, hpf_hpf, nI_1, two_ne, fokZ, implies_true, Nat.reduceEqDiff, g_62_2, sf_62_2, fe_62_2, g_65_2, sf_65_2, fe_65_2, g_62_3, sf_62_3, fe_62_3, g_65_3, sf_65_3, fe_65_3, g_62_0, sf_62_0, fe_62_0, g_65_0, sf_65_0, fe_65_0, rc_62, rc_65, hS, u2, u0, u3, e0, hz, et0, t3, e1, e15]
      exact tail (nI 15) rfl
    · have e15 : nI t - 1 = nI (t - 1) := pk_sub (b := 1) (by omega)
      simp (maxDischargeDepth := 12) only [w177_0, w177_1, w177_4, w177_5, w177_8, w177_11, w177_12, w177_13, w177_14, w177_17, w177_18, w177_21, w177_23, w177_26, w177_27, oK_some, cont_int, cont_intS, cont_none, cont_noneS, cont_long, cont_longS, true_and, and_true, false_and, and_false, true_implies, false_implies, not_true_eq_false, not_false_eq_true, eq_self, or_true, true_or, Option.isSome_some, hpf_length, hpa_length, bI_eq0, fi_hpa, fl_hpa, ar_hpf, fi_hpf_ne, fl_hpf_ne, ar_hpa_ne, hpa_hpa, hpf_hpf, nI_1, two_ne, fokZ, implies_true, Nat.reduceEqDiff, g_0_11, rc_62, g_0_5, rc_30, rc_65, g_0_13, sf_0_13, fe_0_13, w59_0, w59_1, w59_4, w59_7, w59_8, w59_9, w59_10, w59_11, w59_14, w59_17, w59_18, w59_21, w59_22, w59_23, w59_26, w59_27, w59_30, w59_31, w59_32, w59_35, w59_36, w59_37, w59_40, w59_41, w59_42, w59_45, w59_46, w59_47, w59_50, w59_51, w59_54, w59_55, oK_some, cont_int, cont_intS, cont_none, cont_noneS, cont_long, cont_longS, true_and, and_true, false_and, and_false, true_implies, false_implies, not_true_eq_false, not_false_eq_true, eq_self, or_true, true_or, Option.isSome_some, hpf_length, hpa_length, bI_eq0, fi_hpa, fl_hpa, ar_hpf, fi_hpf_ne, fl_hpf_ne, ar_hpa_ne, hpa_hpa, hpf_hpf, nI_1, two_ne, fokZ, implies_true, Nat.reduceEqDiff, g_62_2, sf_62_2, fe_62_2, g_65_2, sf_65_2, fe_65_2, g_62_3, sf_62_3, fe_62_3, g_65_3, sf_65_3, fe_65_3, g_62_0, sf_62_0, fe_62_0, g_65_0, sf_65_0, fe_65_0, rc_62, rc_65, hS, u2, u0, u3, e0, hz, et0, htz, t3, e1, e15]
      exact tail _ (by congr 1; omega)
end CACTS
