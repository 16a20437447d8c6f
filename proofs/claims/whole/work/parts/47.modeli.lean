/-! ===== the Model: mean, all, doubt; nights of grafts ===== -/
def MRl (H : List AC) (Q : Option Value → List AC → Prop) (res : Int64) (tr : Int32) : Prop := ∀ H', Fg SM FM H H' → fi H' 68 0 = 0 → fi H' 68 11 = tr → Q (some (.long res)) H'
theorem hl_up {D : Nat → List Int32} {n hl m k : Nat} (hl1 : hl ≤ 100) (hm : m ≤ 6) (hn : n ≤ 7) : hlS (hBe D n hl m) (2 ^ m) < 2 ^ 63 ∧ hlS (hAl D n hl m) (2 ^ m) < 2 ^ 63 ∧ hlS (hDo D k hl m) (2 ^ m) < 2 ^ 63 := by
  have h100 : 100 ^ m ≤ 100 ^ 6 := Nat.pow_le_pow_right (by decide) hm
  have hp : 2 ^ m ≤ 2 ^ 6 := p2_lt hm
  have hw := fun set => hlW_le (set := set) hl1 m
  have hb : 2 ^ m * (100 ^ 6 * 7) ≤ 2 ^ 6 * (100 ^ 6 * 7) := Nat.mul_le_mul_right _ hp
  have h1 : ∀ s, hBe D n hl m s ≤ 100 ^ 6 * 7 := fun s => by
    unfold hBe
    exact Nat.mul_le_mul (Nat.le_trans (hw s) h100) (by omega)
  have h2 : ∀ s, hAl D n hl m s ≤ 100 ^ 6 * 7 := fun s => by
    unfold hAl
    have := hw s
    split <;> omega
  have h3 : ∀ s, hDo D k hl m s ≤ 100 ^ 6 * 7 := fun s => by
    unfold hDo
    have := hw s
    split <;> omega
  have g1 := hlS_le h1 (2 ^ m)
  have g2 := hlS_le h2 (2 ^ m)
  have g3 := hlS_le h3 (2 ^ m)
  refine ⟨?_, ?_, ?_⟩ <;> omega
theorem p100 {m : Nat} (hm : m ≤ 6) : 0 < 100 ^ m ∧ 100 ^ m < 2 ^ 63 := by
  have h100 : 100 ^ m ≤ 100 ^ 6 := Nat.pow_le_pow_right (by decide) hm
  have : 0 < 100 ^ m := Nat.pow_pos (by decide)
  omega
section MODELI
variable {scr : List Int32} {d n nS nW nG nU nN w hl : Nat} {H : List AC} {R st : List Int32} {Q : Option Value → List AC → Prop}
theorem mrl_ok {res : Int64} {S : List Nat} {F : List (Nat × Nat)} {H2 : List AC} (hS : Shp H) (hF : Fg S F (gd H) H2) (hs : ∀ a ∈ S, a ∈ SM) (hf : ∀ p ∈ F, p ∈ FM ∨ p.1 ∈ SM) (h68 : 68 ∉ S) (h0 : (68, 0) ∉ F) (h11 : (68, 11) ∉ F) (hQ : MRl H Q res 0) : Q (some (.long res)) H2 := by
  refine hQ _ ((gd_fg hS).trans (hF.mono hs hf)) ?_ ?_
  · rw [hF.int h68 h0, gd_0 hS]
  · rw [hF.int h68 h11, gd_11 hS]
theorem mrl_no {tr : Int32} (hS : Shp H) {H1 : List AC} (hF : Fg SM FM H H1) (h0 : fi H1 68 0 = 0) (hQ : MRl H Q (-1) tr) : Q (some (.long (-1))) (hpf H1 68 11 (.int tr)) := by
  refine hQ _ (hF.trans (fg_hpf (a := 68) (f := 11) (ci := 12) hF.shp rfl (by decide))) ?_ ?_
  · rw [fi_hpf_ne (by decide), h0]
  · rw [fe_68_11 hF.shp]
theorem l_m1 : (-1 : Int32).toInt64 = -1 := by decide
theorem M_mean {m : Int32} {lw : Bool} (hI : MIv H R st n nS nW nG nU nN) (hH : rg R 1 = nI hl) (hl1 : hl ≤ 100) (hQ : MRl H Q (if whyF (decide (0 < n)) m 6 = 0 then hlR (hlS (hBe (fun set => hlD R (allU nU) n nW nG nU set m.toNatClampNeg st) n hl m.toNatClampNeg) (2 ^ m.toNatClampNeg)) (100 ^ m.toNatClampNeg) lw else -1) (whyF (decide (0 < n)) m 6)) : Wp scr (d + 6) 287 0 [some (.ref 68), some (.int m), some (.int (bI lw)), none] [] H Q := by
  have hS := hI.shp
  have hg := gd_fg hS
  have hI1 := hI.q hg
  have hs1 := hI1.shp
  have hM1 : Mn (ar (gd H) 71) n nS nW nG nU nN := by rw [hI1.2.1]; exact hI1.mn
  have h14 := hI1.2.2.2.2
  have e73 := hI1.2.2.1
  have rgR : ∀ j, R.getD j 0 = rg R j := fun _ => rfl
  have l73 := hI1.l
  obtain ⟨c2, c3, c4, c5, c6, c7, b2, b3, b4, b5, b6, b7⟩ := hI1.mn
  simp (maxDischargeDepth := 12) only [w287_0, w287_1, w287_4, w287_5, w287_6, w287_9, w287_10, w287_12, w287_15, w287_16, w287_17, w287_20, w287_21, w287_22, w287_25, w287_26, w287_27, w287_28, w287_29, w287_30, w287_33, w287_34, w287_37, w287_38, w287_41, w287_42, w287_45, oK_some, cont_int, cont_intS, cont_none, cont_noneS, cont_long, cont_longS, true_and, and_true, false_and, and_false, true_implies, false_implies, not_true_eq_false, not_false_eq_true, eq_self, or_true, true_or, Option.isSome_some, hpf_length, hpa_length, bI_eq0, fi_hpa, fl_hpa, ar_hpf, fi_hpf_ne, fl_hpf_ne, ar_hpa_ne, hpa_hpa, hpf_hpf, nI_1, two_ne, fokZ, implies_true, Nat.reduceEqDiff, rc_68, g_68_14, sf_68_14, fe_68_14, g_68_36, sf_68_36, fe_68_36, g_68_35, sf_68_35, fe_68_35, hS, m_good, gd_len, hs1, h14, e73, l73, hI1.2.1, rgR, hI1.lr, m_no, decide_eq_false_iff_not, gn_71, jb_7_10, jb_8_10, jb_9_10, m_why, l_m1]
  by_cases hw : whyF (decide (0 < n)) m 6 = 0
  · simp only [hw, if_true] at hQ
    simp only [hw, oK_some, cont_int, cont_intS, cont_none, cont_noneS, cont_long, cont_longS, true_and, and_true, false_and, and_false, true_implies, false_implies, not_true_eq_false, not_false_eq_true, eq_self, or_true, true_or, Option.isSome_some, hpf_length, hpa_length, bI_eq0, fi_hpa, fl_hpa, ar_hpf, fi_hpf_ne, fl_hpf_ne, ar_hpa_ne, hpa_hpa, hpf_hpf, nI_1, two_ne, fokZ, implies_true, Nat.reduceEqDiff]
    obtain ⟨hk, hm⟩ := whyF_0 hw
    obtain ⟨em, lm⟩ := of_in (n := 6) hm (by omega)
    generalize m.toNatClampNeg = mm at em lm hQ
    subst em
    refine m_tryHail (dd := 0) (hl := hl) hI1 lm (by decide) hH hl1 (fun H2 hF2 g5 g6 g7 g8 => ?_)
    have hs2 := hF2.shp
    have hb := hl_up (D := fun set => hlD R (allU nU) n nW nG nU set mm st) (n := n) (k := 0) hl1 lm b2
    simp (maxDischargeDepth := 12) only [w287_0, w287_1, w287_4, w287_5, w287_6, w287_9, w287_10, w287_12, w287_15, w287_16, w287_17, w287_20, w287_21, w287_22, w287_25, w287_26, w287_27, w287_28, w287_29, w287_30, w287_33, w287_34, w287_37, w287_38, w287_41, w287_42, w287_45, oK_some, cont_int, cont_intS, cont_none, cont_noneS, cont_long, cont_longS, true_and, and_true, false_and, and_false, true_implies, false_implies, not_true_eq_false, not_false_eq_true, eq_self, or_true, true_or, Option.isSome_some, hpf_length, hpa_length, bI_eq0, fi_hpa, fl_hpa, ar_hpf, fi_hpf_ne, fl_hpf_ne, ar_hpa_ne, hpa_hpa, hpf_hpf, nI_1, two_ne, fokZ, implies_true, Nat.reduceEqDiff, rc_68, g_68_14, sf_68_14, fe_68_14, g_68_36, sf_68_36, fe_68_36, g_68_35, sf_68_35, fe_68_35, hF2.len, hs2, g5, g6, m_lowest (p100 lm).1 (p100 lm).2 hb.1]
    exact mrl_ok hS hF2 (by decide) (by decide) (by decide) (by decide) (by decide) hQ
  · simp only [hw, if_false] at hQ
    simp only [hw, oK_some, cont_int, cont_intS, cont_none, cont_noneS, cont_long, cont_longS, true_and, and_true, false_and, and_false, true_implies, false_implies, not_true_eq_false, not_false_eq_true, eq_self, or_true, true_or, Option.isSome_some, hpf_length, hpa_length, bI_eq0, fi_hpa, fl_hpa, ar_hpf, fi_hpf_ne, fl_hpf_ne, ar_hpa_ne, hpa_hpa, hpf_hpf, nI_1, two_ne, fokZ, implies_true, Nat.reduceEqDiff]
    exact mrl_no hS hg (gd_0 hS) hQ
theorem M_all {m : Int32} {lw : Bool} (hI : MIv H R st n nS nW nG nU nN) (hH : rg R 1 = nI hl) (hl1 : hl ≤ 100) (hQ : MRl H Q (if whyF (decide (0 < n)) m 6 = 0 then hlR (hlS (hAl (fun set => hlD R (allU nU) n nW nG nU set m.toNatClampNeg st) n hl m.toNatClampNeg) (2 ^ m.toNatClampNeg)) (100 ^ m.toNatClampNeg) lw else -1) (whyF (decide (0 < n)) m 6)) : Wp scr (d + 6) 288 0 [some (.ref 68), some (.int m), some (.int (bI lw)), none] [] H Q := by
  have hS := hI.shp
  have hg := gd_fg hS
  have hI1 := hI.q hg
  have hs1 := hI1.shp
  have hM1 : Mn (ar (gd H) 71) n nS nW nG nU nN := by rw [hI1.2.1]; exact hI1.mn
  have h14 := hI1.2.2.2.2
  have e73 := hI1.2.2.1
  have rgR : ∀ j, R.getD j 0 = rg R j := fun _ => rfl
  have l73 := hI1.l
  obtain ⟨c2, c3, c4, c5, c6, c7, b2, b3, b4, b5, b6, b7⟩ := hI1.mn
  simp (maxDischargeDepth := 12) only [w288_0, w288_1, w288_4, w288_5, w288_6, w288_9, w288_10, w288_12, w288_15, w288_16, w288_17, w288_20, w288_21, w288_22, w288_25, w288_26, w288_27, w288_28, w288_29, w288_30, w288_33, w288_34, w288_37, w288_38, w288_41, w288_42, w288_45, oK_some, cont_int, cont_intS, cont_none, cont_noneS, cont_long, cont_longS, true_and, and_true, false_and, and_false, true_implies, false_implies, not_true_eq_false, not_false_eq_true, eq_self, or_true, true_or, Option.isSome_some, hpf_length, hpa_length, bI_eq0, fi_hpa, fl_hpa, ar_hpf, fi_hpf_ne, fl_hpf_ne, ar_hpa_ne, hpa_hpa, hpf_hpf, nI_1, two_ne, fokZ, implies_true, Nat.reduceEqDiff, rc_68, g_68_14, sf_68_14, fe_68_14, g_68_37, sf_68_37, fe_68_37, g_68_35, sf_68_35, fe_68_35, hS, m_good, gd_len, hs1, h14, e73, l73, hI1.2.1, rgR, hI1.lr, m_no, decide_eq_false_iff_not, gn_71, jb_7_10, jb_8_10, jb_9_10, m_why, l_m1]
  by_cases hw : whyF (decide (0 < n)) m 6 = 0
  · simp only [hw, if_true] at hQ
    simp only [hw, oK_some, cont_int, cont_intS, cont_none, cont_noneS, cont_long, cont_longS, true_and, and_true, false_and, and_false, true_implies, false_implies, not_true_eq_false, not_false_eq_true, eq_self, or_true, true_or, Option.isSome_some, hpf_length, hpa_length, bI_eq0, fi_hpa, fl_hpa, ar_hpf, fi_hpf_ne, fl_hpf_ne, ar_hpa_ne, hpa_hpa, hpf_hpf, nI_1, two_ne, fokZ, implies_true, Nat.reduceEqDiff]
    obtain ⟨hk, hm⟩ := whyF_0 hw
    obtain ⟨em, lm⟩ := of_in (n := 6) hm (by omega)
    generalize m.toNatClampNeg = mm at em lm hQ
    subst em
    refine m_tryHail (dd := 0) (hl := hl) hI1 lm (by decide) hH hl1 (fun H2 hF2 g5 g6 g7 g8 => ?_)
    have hs2 := hF2.shp
    have hb := hl_up (D := fun set => hlD R (allU nU) n nW nG nU set mm st) (n := n) (k := 0) hl1 lm b2
    simp (maxDischargeDepth := 12) only [w288_0, w288_1, w288_4, w288_5, w288_6, w288_9, w288_10, w288_12, w288_15, w288_16, w288_17, w288_20, w288_21, w288_22, w288_25, w288_26, w288_27, w288_28, w288_29, w288_30, w288_33, w288_34, w288_37, w288_38, w288_41, w288_42, w288_45, oK_some, cont_int, cont_intS, cont_none, cont_noneS, cont_long, cont_longS, true_and, and_true, false_and, and_false, true_implies, false_implies, not_true_eq_false, not_false_eq_true, eq_self, or_true, true_or, Option.isSome_some, hpf_length, hpa_length, bI_eq0, fi_hpa, fl_hpa, ar_hpf, fi_hpf_ne, fl_hpf_ne, ar_hpa_ne, hpa_hpa, hpf_hpf, nI_1, two_ne, fokZ, implies_true, Nat.reduceEqDiff, rc_68, g_68_14, sf_68_14, fe_68_14, g_68_37, sf_68_37, fe_68_37, g_68_35, sf_68_35, fe_68_35, hF2.len, hs2, g5, g7, m_lowest (p100 lm).1 (p100 lm).2 hb.2.1]
    exact mrl_ok hS hF2 (by decide) (by decide) (by decide) (by decide) (by decide) hQ
  · simp only [hw, if_false] at hQ
    simp only [hw, oK_some, cont_int, cont_intS, cont_none, cont_noneS, cont_long, cont_longS, true_and, and_true, false_and, and_false, true_implies, false_implies, not_true_eq_false, not_false_eq_true, eq_self, or_true, true_or, Option.isSome_some, hpf_length, hpa_length, bI_eq0, fi_hpa, fl_hpa, ar_hpf, fi_hpf_ne, fl_hpf_ne, ar_hpa_ne, hpa_hpa, hpf_hpf, nI_1, two_ne, fokZ, implies_true, Nat.reduceEqDiff]
    exact mrl_no hS hg (gd_0 hS) hQ
theorem M_doubt {k m : Int32} {lw : Bool} (hI : MIv H R st n nS nW nG nU nN) (hH : rg R 1 = nI hl) (hl1 : hl ≤ 100) (hQ : MRl H Q (if whyF (decide (0 ≤ k ∧ k < nI n)) m 6 = 0 then hlR (hlS (hDo (fun set => hlD R (allU nU) n nW nG nU set m.toNatClampNeg st) k.toNatClampNeg hl m.toNatClampNeg) (2 ^ m.toNatClampNeg)) (100 ^ m.toNatClampNeg) lw else -1) (whyF (decide (0 ≤ k ∧ k < nI n)) m 6)) : Wp scr (d + 6) 289 0 [some (.ref 68), some (.int k), some (.int m), some (.int (bI lw)), none] [] H Q := by
  have hS := hI.shp
  have hg := gd_fg hS
  have hI1 := hI.q hg
  have hs1 := hI1.shp
  have hM1 : Mn (ar (gd H) 71) n nS nW nG nU nN := by rw [hI1.2.1]; exact hI1.mn
  have h14 := hI1.2.2.2.2
  have e73 := hI1.2.2.1
  have rgR : ∀ j, R.getD j 0 = rg R j := fun _ => rfl
  have l73 := hI1.l
  obtain ⟨c2, c3, c4, c5, c6, c7, b2, b3, b4, b5, b6, b7⟩ := hI1.mn
  simp (maxDischargeDepth := 12) only [w289_0, w289_1, w289_4, w289_5, w289_6, w289_7, w289_10, w289_11, w289_13, w289_16, w289_18, w289_20, w289_23, w289_24, w289_26, w289_29, w289_30, w289_31, w289_32, w289_33, w289_34, w289_37, w289_38, w289_41, w289_42, w289_45, w289_46, w289_49, oK_some, cont_int, cont_intS, cont_none, cont_noneS, cont_long, cont_longS, true_and, and_true, false_and, and_false, true_implies, false_implies, not_true_eq_false, not_false_eq_true, eq_self, or_true, true_or, Option.isSome_some, hpf_length, hpa_length, bI_eq0, fi_hpa, fl_hpa, ar_hpf, fi_hpf_ne, fl_hpf_ne, ar_hpa_ne, hpa_hpa, hpf_hpf, nI_1, two_ne, fokZ, implies_true, Nat.reduceEqDiff, rc_68, g_68_38, sf_68_38, fe_68_38, g_68_35, sf_68_35, fe_68_35, hS, m_good, gd_len, hs1, h14, e73, l73, hI1.2.1, rgR, hI1.lr, m_no, decide_eq_false_iff_not, gn_71, jb_7_10, jb_8_10, jb_9_10, m_why, m_isRow hI1, l_m1]
  by_cases hw : whyF (decide (0 ≤ k ∧ k < nI n)) m 6 = 0
  · simp only [hw, if_true] at hQ
    simp only [hw, oK_some, cont_int, cont_intS, cont_none, cont_noneS, cont_long, cont_longS, true_and, and_true, false_and, and_false, true_implies, false_implies, not_true_eq_false, not_false_eq_true, eq_self, or_true, true_or, Option.isSome_some, hpf_length, hpa_length, bI_eq0, fi_hpa, fl_hpa, ar_hpf, fi_hpf_ne, fl_hpf_ne, ar_hpa_ne, hpa_hpa, hpf_hpf, nI_1, two_ne, fokZ, implies_true, Nat.reduceEqDiff]
    obtain ⟨hk, hm⟩ := whyF_0 hw
    obtain ⟨em, lm⟩ := of_in (n := 6) hm (by omega)
    obtain ⟨ek, lk⟩ := of_row (of_decide_eq_true hk) (by omega)
    generalize m.toNatClampNeg = mm at em lm hQ
    generalize k.toNatClampNeg = kk at ek lk hQ
    subst em
    subst ek
    refine m_tryHail (dd := kk) (hl := hl) hI1 lm (by omega) hH hl1 (fun H2 hF2 g5 g6 g7 g8 => ?_)
    have hs2 := hF2.shp
    have hb := hl_up (D := fun set => hlD R (allU nU) n nW nG nU set mm st) (n := n) (k := kk) hl1 lm b2
    simp (maxDischargeDepth := 12) only [w289_0, w289_1, w289_4, w289_5, w289_6, w289_7, w289_10, w289_11, w289_13, w289_16, w289_18, w289_20, w289_23, w289_24, w289_26, w289_29, w289_30, w289_31, w289_32, w289_33, w289_34, w289_37, w289_38, w289_41, w289_42, w289_45, w289_46, w289_49, oK_some, cont_int, cont_intS, cont_none, cont_noneS, cont_long, cont_longS, true_and, and_true, false_and, and_false, true_implies, false_implies, not_true_eq_false, not_false_eq_true, eq_self, or_true, true_or, Option.isSome_some, hpf_length, hpa_length, bI_eq0, fi_hpa, fl_hpa, ar_hpf, fi_hpf_ne, fl_hpf_ne, ar_hpa_ne, hpa_hpa, hpf_hpf, nI_1, two_ne, fokZ, implies_true, Nat.reduceEqDiff, rc_68, g_68_38, sf_68_38, fe_68_38, g_68_35, sf_68_35, fe_68_35, hF2.len, hs2, g5, g8, m_lowest (p100 lm).1 (p100 lm).2 hb.2.2]
    exact mrl_ok hS hF2 (by decide) (by decide) (by decide) (by decide) (by decide) hQ
  · simp only [hw, if_false] at hQ
    simp only [hw, oK_some, cont_int, cont_intS, cont_none, cont_noneS, cont_long, cont_longS, true_and, and_true, false_and, and_false, true_implies, false_implies, not_true_eq_false, not_false_eq_true, eq_self, or_true, true_or, Option.isSome_some, hpf_length, hpa_length, bI_eq0, fi_hpa, fl_hpa, ar_hpf, fi_hpf_ne, fl_hpf_ne, ar_hpa_ne, hpa_hpa, hpf_hpf, nI_1, two_ne, fokZ, implies_true, Nat.reduceEqDiff]
    exact mrl_no hS hg (gd_0 hS) hQ
end MODELI
/-- a seed's draws -/
def grS (seed : Nat) : Nat → Nat
  | 0 => seed
  | i + 1 => (75 * grS seed i + 74) % 65537
theorem grS_lt {seed : Nat} (h : seed < 65537) : ∀ i, grS seed i < 65537
  | 0 => h
  | _ + 1 => Nat.mod_lt _ (by decide)
def grK (g : Nat) (ws : List Int32) : List Int32 := ws.set g (if ws.getD g 0 < 3 then 0 else ws.getD g 0 - 3)
def grD (R : List Int32) (rum : Int32) (n nW nG nU : Nat) (seed m : Nat) (ws : List Int32) : List Int32 := forN (fun i ys => dayM R rum n nW nG nU (grK (grS seed (i + 1) % n) ys)) m ws
theorem grD_len {R : List Int32} {rum : Int32} {n nW nG nU seed : Nat} {ws : List Int32} (h : ws.length = 10) : ∀ m, (grD R rum n nW nG nU seed m ws).length = 10
  | 0 => h
  | m + 1 => by unfold grD; rw [forN]; exact dayM_len
def gwF (there : Bool) (seed m : Int32) : Int32 := if there = false then 1 else if (0 ≤ seed ∧ seed ≤ 65536) ∧ (0 ≤ m ∧ m ≤ 40) then 0 else 2
theorem gwF_0 {there : Bool} {seed m : Int32} (h : gwF there seed m = 0) : there = true ∧ (0 ≤ seed ∧ seed ≤ 65536) ∧ 0 ≤ m ∧ m ≤ 40 := by
  unfold gwF at h
  cases there
  · simp at h
  · rw [if_neg (by decide)] at h
    by_cases c : (0 ≤ seed ∧ seed ≤ 65536) ∧ (0 ≤ m ∧ m ≤ 40)
    · exact ⟨rfl, c⟩
    · rw [if_neg c] at h
      exact absurd h (by decide)
/-- behind which night (1, 2, ..); 0 behind none -/
def grW (p : Nat → Bool) (m : Nat) : Int32 := fnd p m (-1) + 1
section MODELJ
variable {scr : List Int32} {d n nS nW nG nU nN w hl : Nat} {H : List AC} {R st : List Int32} {Q : Option Value → List AC → Prop}
theorem m_graftWhy {th : Bool} {k : Nat} {seed m : Int32} (hI : MIv H R st n nS nW nG nU nN) (hth : th = true → 0 < n) (hk : k < 7) (hQ : ∀ H', Fg [76, 77] [(68, 22), (68, 39)] H H' → (gwF th seed m = 0 → ar H' 77 = grD R (allU nU) n nW nG nU seed.toNatClampNeg m.toNatClampNeg st ∧ fi H' 68 39 = grW (fun i => decide ((grD R (allU nU) n nW nG nU seed.toNatClampNeg (i + 1) st).getD k 0 < 10)) m.toNatClampNeg) → Q (some (.int (gwF th seed m))) H') : Wp scr (d + 5) 290 0 [some (.ref 68), some (.int (bI th)), some (.int (nI k)), some (.int seed), some (.int m), none, none, none] [] H Q := by
  have hS := hI.shp
  have rgR : ∀ j, R.getD j 0 = rg R j := fun _ => rfl
  obtain ⟨c2, c3, c4, c5, c6, c7, b2, b3, b4, b5, b6, b7⟩ := hI.mn
  simp (maxDischargeDepth := 12) only [w290_0, w290_1, w290_4, w290_5, w290_6, w290_7, w290_8, w290_11, w290_14, w290_17, w290_19, w290_20, w290_22, w290_25, w290_28, w290_29, w290_30, w290_31, w290_34, w290_35, w290_36, w290_39, w290_40, w290_42, w290_43, w290_47, w290_49, w290_52, w290_54, w290_56, w290_57, w290_59, w290_60, w290_63, w290_64, w290_66, w290_68, w290_69, w290_72, w290_73, w290_74, w290_75, w290_77, w290_78, w290_81, w290_83, w290_84, w290_87, w290_89, w290_90, w290_91, w290_94, w290_95, w290_98, w290_99, w290_102, w290_104, w290_105, w290_106, w290_107, w290_108, w290_109, w290_110, w290_113, w290_116, w290_117, w290_120, w290_123, w290_124, w290_127, w290_128, w290_131, w290_134, w290_135, w290_137, w290_140, w290_143, w290_146, w290_147, oK_some, cont_int, cont_intS, cont_none, cont_noneS, cont_long, cont_longS, true_and, and_true, false_and, and_false, true_implies, false_implies, not_true_eq_false, not_false_eq_true, eq_self, or_true, true_or, Option.isSome_some, hpf_length, hpa_length, bI_eq0, fi_hpa, fl_hpa, ar_hpf, fi_hpf_ne, fl_hpf_ne, ar_hpa_ne, hpa_hpa, hpf_hpf, nI_1, two_ne, fokZ, implies_true, Nat.reduceEqDiff, rc_68, g_68_39, sf_68_39, fe_68_39, g_68_15, ga_71, gn_71, sa_71, ae_71, g_68_24, ga_77, gn_77, sa_77, ae_77, kl_0, kl_1, kl_2, kl_3, kl_4, kl_5, kl_6, kl_7, kl_8, kl_9, kl_10, kl_11, kl_12, jb_0_10, jb_1_10, jb_2_10, jb_3_10, jb_4_10, jb_5_10, jb_6_10, jb_7_10, jb_8_10, jb_9_10, jb_0_211, jb_1_211, jb_2_211, jb_3_211, jb_4_211, jb_5_211, jb_6_211, jb_7_211, jb_8_211, jb_9_211, jb_10_211, jb_11_211, jb_12_211, m_in, hS, decide_eq_false_iff_not]
  cases th with
  | false =>
    simp only [oK_some, cont_int, cont_intS, cont_none, cont_noneS, cont_long, cont_longS, true_and, and_true, false_and, and_false, true_implies, false_implies, not_true_eq_false, not_false_eq_true, eq_self, or_true, true_or, Option.isSome_some, hpf_length, hpa_length, bI_eq0, fi_hpa, fl_hpa, ar_hpf, fi_hpf_ne, fl_hpf_ne, ar_hpa_ne, hpa_hpa, hpf_hpf, nI_1, two_ne, fokZ, implies_true, Nat.reduceEqDiff]
    exact hQ H (Fg.rfl' hS) (fun q => absurd q (by unfold gwF; simp))
  | true =>
    have hn := hth rfl
    simp only [Bool.true_eq_false, oK_some, cont_int, cont_intS, cont_none, cont_noneS, cont_long, cont_longS, true_and, and_true, false_and, and_false, true_implies, false_implies, not_true_eq_false, not_false_eq_true, eq_self, or_true, true_or, Option.isSome_some, hpf_length, hpa_length, bI_eq0, fi_hpa, fl_hpa, ar_hpf, fi_hpf_ne, fl_hpf_ne, ar_hpa_ne, hpa_hpa, hpf_hpf, nI_1, two_ne, fokZ, implies_true, Nat.reduceEqDiff]
    by_cases hs : 0 ≤ seed ∧ seed ≤ 65536
    · by_cases hm : 0 ≤ m ∧ m ≤ 40
      · have e0 : gwF true seed m = 0 := by unfold gwF; rw [if_neg (by decide), if_pos ⟨hs, hm⟩]
        rw [e0] at hQ
        simp only [hs, hm, and_self, oK_some, cont_int, cont_intS, cont_none, cont_noneS, cont_long, cont_longS, true_and, and_true, false_and, and_false, true_implies, false_implies, not_true_eq_false, not_false_eq_true, eq_self, or_true, true_or, Option.isSome_some, hpf_length, hpa_length, bI_eq0, fi_hpa, fl_hpa, ar_hpf, fi_hpf_ne, fl_hpf_ne, ar_hpa_ne, hpa_hpa, hpf_hpf, nI_1, two_ne, fokZ, implies_true, Nat.reduceEqDiff]
        obtain ⟨em, lm⟩ := of_in (n := 40) hm (by omega)
        obtain ⟨es, ls⟩ := of_in (n := 65536) hs (by omega)
        generalize m.toNatClampNeg = mm at em lm hQ
        generalize seed.toNatClampNeg = sd at es ls hQ
        subst em
        subst es
        generalize hp : (fun i => decide ((grD R (allU nU) n nW nG nU sd (i + 1) st).getD k 0 < 10)) = p at hQ
        have hpi : ∀ i, decide ((grD R (allU nU) n nW nG nU sd (i + 1) st).getD k 0 < 10) = p i := fun i => by rw [← hp]
        refine m_begin' hI (fun H1 hF1 a1 f1 => ?_)
        have hs1 := hF1.shp
        simp (maxDischargeDepth := 12) only [w290_0, w290_1, w290_4, w290_5, w290_6, w290_7, w290_8, w290_11, w290_14, w290_17, w290_19, w290_20, w290_22, w290_25, w290_28, w290_29, w290_30, w290_31, w290_34, w290_35, w290_36, w290_39, w290_40, w290_42, w290_43, w290_47, w290_49, w290_52, w290_54, w290_56, w290_57, w290_59, w290_60, w290_63, w290_64, w290_66, w290_68, w290_69, w290_72, w290_73, w290_74, w290_75, w290_77, w290_78, w290_81, w290_83, w290_84, w290_87, w290_89, w290_90, w290_91, w290_94, w290_95, w290_98, w290_99, w290_102, w290_104, w290_105, w290_106, w290_107, w290_108, w290_109, w290_110, w290_113, w290_116, w290_117, w290_120, w290_123, w290_124, w290_127, w290_128, w290_131, w290_134, w290_135, w290_137, w290_140, w290_143, w290_146, w290_147, oK_some, cont_int, cont_intS, cont_none, cont_noneS, cont_long, cont_longS, true_and, and_true, false_and, and_false, true_implies, false_implies, not_true_eq_false, not_false_eq_true, eq_self, or_true, true_or, Option.isSome_some, hpf_length, hpa_length, bI_eq0, fi_hpa, fl_hpa, ar_hpf, fi_hpf_ne, fl_hpf_ne, ar_hpa_ne, hpa_hpa, hpf_hpf, nI_1, two_ne, fokZ, implies_true, Nat.reduceEqDiff, rc_68, g_68_39, sf_68_39, fe_68_39, g_68_15, ga_71, gn_71, sa_71, ae_71, g_68_24, ga_77, gn_77, sa_77, ae_77, kl_0, kl_1, kl_2, kl_3, kl_4, kl_5, kl_6, kl_7, kl_8, kl_9, kl_10, kl_11, kl_12, jb_0_10, jb_1_10, jb_2_10, jb_3_10, jb_4_10, jb_5_10, jb_6_10, jb_7_10, jb_8_10, jb_9_10, jb_0_211, jb_1_211, jb_2_211, jb_3_211, jb_4_211, jb_5_211, jb_6_211, jb_7_211, jb_8_211, jb_9_211, jb_10_211, jb_11_211, jb_12_211, hF1.len, hs1]
        have key := down (P := fun i => ∀ H2, ∀ o7 : Option Value, Fg [76, 77] [(68, 22), (68, 39)] H H2 → fi H2 68 22 = allU nU → ar H2 77 = grD R (allU nU) n nW nG nU sd i st → ((fi H2 68 39 = 0 ∧ ∀ j, j < i → p j = false) ∨ (∃ j, j < i ∧ p j = true ∧ (∀ q, q < j → p q = false) ∧ fi H2 68 39 = nI (j + 1))) → Wp scr (d + 5) 290 45 [some (.ref 68), some (.int (bI true)), some (.int (nI k)), some (.int (nI sd)), some (.int (nI mm)), some (.int (nI (grS sd i))), some (.int (nI (i + 1))), o7] [] H2 Q) mm ?_ ?_
        · exact key _ none ((hF1.mono (by decide) (by decide)).trans (fg_hpf (a := 68) (f := 39) (ci := 12) hs1 rfl (by decide))) (by rw [fi_hpf_ne (by decide), f1]) (by rw [ar_hpf, a1]; rfl) (Or.inl ⟨fe_68_39 hs1, fun j hj => absurd hj (Nat.not_lt_zero _)⟩)
        · intro H2 o7 hF2 f2 a2 hg
          rw [w290_45]
          simp (maxDischargeDepth := 12) only [w290_0, w290_1, w290_4, w290_5, w290_6, w290_7, w290_8, w290_11, w290_14, w290_17, w290_19, w290_20, w290_22, w290_25, w290_28, w290_29, w290_30, w290_31, w290_34, w290_35, w290_36, w290_39, w290_40, w290_42, w290_43, w290_47, w290_49, w290_52, w290_54, w290_56, w290_57, w290_59, w290_60, w290_63, w290_64, w290_66, w290_68, w290_69, w290_72, w290_73, w290_74, w290_75, w290_77, w290_78, w290_81, w290_83, w290_84, w290_87, w290_89, w290_90, w290_91, w290_94, w290_95, w290_98, w290_99, w290_102, w290_104, w290_105, w290_106, w290_107, w290_108, w290_109, w290_110, w290_113, w290_116, w290_117, w290_120, w290_123, w290_124, w290_127, w290_128, w290_131, w290_134, w290_135, w290_137, w290_140, w290_143, w290_146, w290_147, oK_some, cont_int, cont_intS, cont_none, cont_noneS, cont_long, cont_longS, true_and, and_true, false_and, and_false, true_implies, false_implies, not_true_eq_false, not_false_eq_true, eq_self, or_true, true_or, Option.isSome_some, hpf_length, hpa_length, bI_eq0, fi_hpa, fl_hpa, ar_hpf, fi_hpf_ne, fl_hpf_ne, ar_hpa_ne, hpa_hpa, hpf_hpf, nI_1, two_ne, fokZ, implies_true, Nat.reduceEqDiff, rc_68, g_68_39, sf_68_39, fe_68_39, g_68_15, ga_71, gn_71, sa_71, ae_71, g_68_24, ga_77, gn_77, sa_77, ae_77, kl_0, kl_1, kl_2, kl_3, kl_4, kl_5, kl_6, kl_7, kl_8, kl_9, kl_10, kl_11, kl_12, jb_0_10, jb_1_10, jb_2_10, jb_3_10, jb_4_10, jb_5_10, jb_6_10, jb_7_10, jb_8_10, jb_9_10, jb_0_211, jb_1_211, jb_2_211, jb_3_211, jb_4_211, jb_5_211, jb_6_211, jb_7_211, jb_8_211, jb_9_211, jb_10_211, jb_11_211, jb_12_211, show (nI mm < nI (mm + 1)) = True from eq_true (nI_lt (by omega) (by omega))]
          refine hQ H2 hF2 (fun _ => ⟨a2, ?_⟩)
          unfold grW
          rcases hg with ⟨h1, h2⟩ | ⟨j, h1, h2, h3, h4⟩
          · rw [fnd_miss h2, h1]; rfl
          · rw [fnd_hit h1 h2 h3, h4, nI_1]
        · intro i hi hw H2 o7 hF2 f2 a2 hg
          have hI2 := hI.of hF2 (by decide) (by decide) (by decide) (by decide)
          have hs2 := hF2.shp
          have hsl := grS_lt (seed := sd) (by omega) i
          have hsl2 := grS_lt (seed := sd) (by omega) (i + 1)
          have e1 : (75 : Int32) * nI (grS sd i) + 74 = nI (75 * grS sd i + 74) := by rw [show (75 : Int32) = nI 75 from rfl, show (74 : Int32) = nI 74 from rfl, pk_mul, nI_add]
          have e2 : nI (75 * grS sd i + 74) - nI (75 * grS sd i + 74) / 65537 * 65537 = nI (grS sd (i + 1)) := pk_rem (a := 75 * grS sd i + 74) (d := 65537) (by omega) (by decide) (by decide)
          have e3 : nI (grS sd (i + 1)) - nI (grS sd (i + 1)) / nI n * nI n = nI (grS sd (i + 1) % n) := pk_rem (by omega) hn (by omega)
          have hgl : grS sd (i + 1) % n < n := Nat.mod_lt _ hn
          have l77 : (ar H2 77).length = 10 := gn_77 hs2
          generalize hgg : grS sd (i + 1) % n = g at e3 hgl
          rw [w290_45]
          simp (maxDischargeDepth := 12) only [w290_0, w290_1, w290_4, w290_5, w290_6, w290_7, w290_8, w290_11, w290_14, w290_17, w290_19, w290_20, w290_22, w290_25, w290_28, w290_29, w290_30, w290_31, w290_34, w290_35, w290_36, w290_39, w290_40, w290_42, w290_43, w290_47, w290_49, w290_52, w290_54, w290_56, w290_57, w290_59, w290_60, w290_63, w290_64, w290_66, w290_68, w290_69, w290_72, w290_73, w290_74, w290_75, w290_77, w290_78, w290_81, w290_83, w290_84, w290_87, w290_89, w290_90, w290_91, w290_94, w290_95, w290_98, w290_99, w290_102, w290_104, w290_105, w290_106, w290_107, w290_108, w290_109, w290_110, w290_113, w290_116, w290_117, w290_120, w290_123, w290_124, w290_127, w290_128, w290_131, w290_134, w290_135, w290_137, w290_140, w290_143, w290_146, w290_147, oK_some, cont_int, cont_intS, cont_none, cont_noneS, cont_long, cont_longS, true_and, and_true, false_and, and_false, true_implies, false_implies, not_true_eq_false, not_false_eq_true, eq_self, or_true, true_or, Option.isSome_some, hpf_length, hpa_length, bI_eq0, fi_hpa, fl_hpa, ar_hpf, fi_hpf_ne, fl_hpf_ne, ar_hpa_ne, hpa_hpa, hpf_hpf, nI_1, two_ne, fokZ, implies_true, Nat.reduceEqDiff, rc_68, g_68_39, sf_68_39, fe_68_39, g_68_15, ga_71, gn_71, sa_71, ae_71, g_68_24, ga_77, gn_77, sa_77, ae_77, kl_0, kl_1, kl_2, kl_3, kl_4, kl_5, kl_6, kl_7, kl_8, kl_9, kl_10, kl_11, kl_12, jb_0_10, jb_1_10, jb_2_10, jb_3_10, jb_4_10, jb_5_10, jb_6_10, jb_7_10, jb_8_10, jb_9_10, jb_0_211, jb_1_211, jb_2_211, jb_3_211, jb_4_211, jb_5_211, jb_6_211, jb_7_211, jb_8_211, jb_9_211, jb_10_211, jb_11_211, jb_12_211, hs2, hI2.2.1, hI2.lr, rgR, c2, show (nI mm < nI (i + 1)) = False from eq_false (nI_nlt (by omega) (by omega)), e1, e2, e3, show ((65537 : Int32) = 0) = False from eq_false (by decide), nI_ne0 hn (by omega : n < 2 ^ 31), l77, inb_nI (i := g) (by omega), decide_eq_true (by omega : g < 10), nI_clamp (n := g) (by omega)]
          have fin : ∀ v : Int32, v = (if (ar H2 77).getD g 0 < 3 then 0 else (ar H2 77).getD g 0 - 3) → Wp scr (d + 4) 229 0 [some (.ref 68), some (.ref 77), none, none] [] (hpa H2 77 ((ar H2 77).set g v)) (cont scr (d + 5) 290 116 [some (.ref 68), some (.int (bI true)), some (.int (nI k)), some (.int (nI sd)), some (.int (nI mm)), some (.int (nI (grS sd (i + 1)))), some (.int (nI (i + 1))), some (.int (nI g))] [] 1 (hpa H2 77 ((ar H2 77).set g v)) Q) := by
            intro v hv
            have hF3 : Fg [76, 77] [(68, 22), (68, 39)] H (hpa H2 77 ((ar H2 77).set g v)) := hF2.trans (fg_hpa hs2 (by rw [List.length_set]) (by decide))
            have hI3 := hI.of hF3 (by decide) (by decide) (by decide) (by decide)
            refine m_dayT hI3 (fun H4 hF4 a4 => ?_)
            have hs4 := hF4.shp
            have hF5 := hF3.trans (hF4.mono (T := [76, 77]) (G := [(68, 22), (68, 39)]) (by decide) (by decide))
            have f4 : fi H4 68 22 = allU nU := by rw [hF4.int (by decide) (by decide), fi_hpa, f2]
            have g4 : fi H4 68 39 = fi H2 68 39 := by rw [hF4.int (by decide) (by decide), fi_hpa]
            have a4' : ar H4 77 = grD R (allU nU) n nW nG nU sd (i + 1) st := by
              rw [a4, fi_hpa, f2, ae_77 hs2, hv]
              show _ = dayM R (allU nU) n nW nG nU (grK (grS sd (i + 1) % n) (grD R (allU nU) n nW nG nU sd i st))
              rw [hgg, ← a2]
              rfl
            simp (maxDischargeDepth := 12) only [w290_0, w290_1, w290_4, w290_5, w290_6, w290_7, w290_8, w290_11, w290_14, w290_17, w290_19, w290_20, w290_22, w290_25, w290_28, w290_29, w290_30, w290_31, w290_34, w290_35, w290_36, w290_39, w290_40, w290_42, w290_43, w290_47, w290_49, w290_52, w290_54, w290_56, w290_57, w290_59, w290_60, w290_63, w290_64, w290_66, w290_68, w290_69, w290_72, w290_73, w290_74, w290_75, w290_77, w290_78, w290_81, w290_83, w290_84, w290_87, w290_89, w290_90, w290_91, w290_94, w290_95, w290_98, w290_99, w290_102, w290_104, w290_105, w290_106, w290_107, w290_108, w290_109, w290_110, w290_113, w290_116, w290_117, w290_120, w290_123, w290_124, w290_127, w290_128, w290_131, w290_134, w290_135, w290_137, w290_140, w290_143, w290_146, w290_147, oK_some, cont_int, cont_intS, cont_none, cont_noneS, cont_long, cont_longS, true_and, and_true, false_and, and_false, true_implies, false_implies, not_true_eq_false, not_false_eq_true, eq_self, or_true, true_or, Option.isSome_some, hpf_length, hpa_length, bI_eq0, fi_hpa, fl_hpa, ar_hpf, fi_hpf_ne, fl_hpf_ne, ar_hpa_ne, hpa_hpa, hpf_hpf, nI_1, two_ne, fokZ, implies_true, Nat.reduceEqDiff, rc_68, g_68_39, sf_68_39, fe_68_39, g_68_15, ga_71, gn_71, sa_71, ae_71, g_68_24, ga_77, gn_77, sa_77, ae_77, kl_0, kl_1, kl_2, kl_3, kl_4, kl_5, kl_6, kl_7, kl_8, kl_9, kl_10, kl_11, kl_12, jb_0_10, jb_1_10, jb_2_10, jb_3_10, jb_4_10, jb_5_10, jb_6_10, jb_7_10, jb_8_10, jb_9_10, jb_0_211, jb_1_211, jb_2_211, jb_3_211, jb_4_211, jb_5_211, jb_6_211, jb_7_211, jb_8_211, jb_9_211, jb_10_211, jb_11_211, jb_12_211, hF4.len, hs4, m_doubts (ga_77 hs4) (gn_77 hs4) (by omega : k < 10), a4', hpi, g4]
            rcases hg with ⟨h1, h2⟩ | ⟨j, h1, h2, h3, h4⟩
            · simp only [h1, oK_some, cont_int, cont_intS, cont_none, cont_noneS, cont_long, cont_longS, true_and, and_true, false_and, and_false, true_implies, false_implies, not_true_eq_false, not_false_eq_true, eq_self, or_true, true_or, Option.isSome_some, hpf_length, hpa_length, bI_eq0, fi_hpa, fl_hpa, ar_hpf, fi_hpf_ne, fl_hpf_ne, ar_hpa_ne, hpa_hpa, hpf_hpf, nI_1, two_ne, fokZ, implies_true, Nat.reduceEqDiff]
              cases hpv : p i
              · simp only [oK_some, cont_int, cont_intS, cont_none, cont_noneS, cont_long, cont_longS, true_and, and_true, false_and, and_false, true_implies, false_implies, not_true_eq_false, not_false_eq_true, eq_self, or_true, true_or, Option.isSome_some, hpf_length, hpa_length, bI_eq0, fi_hpa, fl_hpa, ar_hpf, fi_hpf_ne, fl_hpf_ne, ar_hpa_ne, hpa_hpa, hpf_hpf, nI_1, two_ne, fokZ, implies_true, Nat.reduceEqDiff]
                refine hw H4 _ hF5 f4 a4' (Or.inl ⟨by rw [g4, h1], fun j hj => ?_⟩)
                rcases Nat.lt_or_ge j i with q | q
                · exact h2 j q
                · rw [show j = i by omega]; exact hpv
              · simp only [oK_some, cont_int, cont_intS, cont_none, cont_noneS, cont_long, cont_longS, true_and, and_true, false_and, and_false, true_implies, false_implies, not_true_eq_false, not_false_eq_true, eq_self, or_true, true_or, Option.isSome_some, hpf_length, hpa_length, bI_eq0, fi_hpa, fl_hpa, ar_hpf, fi_hpf_ne, fl_hpf_ne, ar_hpa_ne, hpa_hpa, hpf_hpf, nI_1, two_ne, fokZ, implies_true, Nat.reduceEqDiff, Bool.true_eq_false]
                exact hw _ _ (hF5.trans (fg_hpf (a := 68) (f := 39) (ci := 12) hs4 rfl (by decide))) (by rw [fi_hpf_ne (by decide), f4]) (by rw [ar_hpf, a4']) (Or.inr ⟨i, by omega, hpv, h2, by rw [fe_68_39 hs4]⟩)
            · have hne : (nI (j + 1) = 0) = False := eq_false (nI_ne0 (by omega) (by omega))
              simp only [h4, hne, oK_some, cont_int, cont_intS, cont_none, cont_noneS, cont_long, cont_longS, true_and, and_true, false_and, and_false, true_implies, false_implies, not_true_eq_false, not_false_eq_true, eq_self, or_true, true_or, Option.isSome_some, hpf_length, hpa_length, bI_eq0, fi_hpa, fl_hpa, ar_hpf, fi_hpf_ne, fl_hpf_ne, ar_hpa_ne, hpa_hpa, hpf_hpf, nI_1, two_ne, fokZ, implies_true, Nat.reduceEqDiff]
              exact hw H4 _ hF5 f4 a4' (Or.inr ⟨j, by omega, h2, h3, by rw [g4, h4]⟩)
          by_cases hc : (ar H2 77).getD g 0 < 3
          · have hc' : ¬ 3 ≤ (ar H2 77).getD g 0 := by rw [Int32.not_le]; exact hc
            have hsx := sa_77 (xs := (ar H2 77).set g 0) hs2 (by rw [List.length_set, l77])
            simp only [hc', w290_0, w290_1, w290_4, w290_5, w290_6, w290_7, w290_8, w290_11, w290_14, w290_17, w290_19, w290_20, w290_22, w290_25, w290_28, w290_29, w290_30, w290_31, w290_34, w290_35, w290_36, w290_39, w290_40, w290_42, w290_43, w290_47, w290_49, w290_52, w290_54, w290_56, w290_57, w290_59, w290_60, w290_63, w290_64, w290_66, w290_68, w290_69, w290_72, w290_73, w290_74, w290_75, w290_77, w290_78, w290_81, w290_83, w290_84, w290_87, w290_89, w290_90, w290_91, w290_94, w290_95, w290_98, w290_99, w290_102, w290_104, w290_105, w290_106, w290_107, w290_108, w290_109, w290_110, w290_113, w290_116, w290_117, w290_120, w290_123, w290_124, w290_127, w290_128, w290_131, w290_134, w290_135, w290_137, w290_140, w290_143, w290_146, w290_147, oK_some, cont_int, cont_intS, cont_none, cont_noneS, cont_long, cont_longS, true_and, and_true, false_and, and_false, true_implies, false_implies, not_true_eq_false, not_false_eq_true, eq_self, or_true, true_or, Option.isSome_some, hpf_length, hpa_length, bI_eq0, fi_hpa, fl_hpa, ar_hpf, fi_hpf_ne, fl_hpf_ne, ar_hpa_ne, hpa_hpa, hpf_hpf, nI_1, two_ne, fokZ, implies_true, Nat.reduceEqDiff, rc_68, g_68_39, sf_68_39, fe_68_39, g_68_15, ga_71, gn_71, sa_71, ae_71, g_68_24, ga_77, gn_77, sa_77, ae_77, kl_0, kl_1, kl_2, kl_3, kl_4, kl_5, kl_6, kl_7, kl_8, kl_9, kl_10, kl_11, kl_12, jb_0_10, jb_1_10, jb_2_10, jb_3_10, jb_4_10, jb_5_10, jb_6_10, jb_7_10, jb_8_10, jb_9_10, jb_0_211, jb_1_211, jb_2_211, jb_3_211, jb_4_211, jb_5_211, jb_6_211, jb_7_211, jb_8_211, jb_9_211, jb_10_211, jb_11_211, jb_12_211, hsx]
            exact fin 0 (by rw [if_pos hc])
          · have hc' : 3 ≤ (ar H2 77).getD g 0 := by rw [← Int32.not_lt]; exact hc
            have hsx := sa_77 (xs := (ar H2 77).set g ((ar H2 77).getD g 0 - 3)) hs2 (by rw [List.length_set, l77])
            simp only [hc', w290_0, w290_1, w290_4, w290_5, w290_6, w290_7, w290_8, w290_11, w290_14, w290_17, w290_19, w290_20, w290_22, w290_25, w290_28, w290_29, w290_30, w290_31, w290_34, w290_35, w290_36, w290_39, w290_40, w290_42, w290_43, w290_47, w290_49, w290_52, w290_54, w290_56, w290_57, w290_59, w290_60, w290_63, w290_64, w290_66, w290_68, w290_69, w290_72, w290_73, w290_74, w290_75, w290_77, w290_78, w290_81, w290_83, w290_84, w290_87, w290_89, w290_90, w290_91, w290_94, w290_95, w290_98, w290_99, w290_102, w290_104, w290_105, w290_106, w290_107, w290_108, w290_109, w290_110, w290_113, w290_116, w290_117, w290_120, w290_123, w290_124, w290_127, w290_128, w290_131, w290_134, w290_135, w290_137, w290_140, w290_143, w290_146, w290_147, oK_some, cont_int, cont_intS, cont_none, cont_noneS, cont_long, cont_longS, true_and, and_true, false_and, and_false, true_implies, false_implies, not_true_eq_false, not_false_eq_true, eq_self, or_true, true_or, Option.isSome_some, hpf_length, hpa_length, bI_eq0, fi_hpa, fl_hpa, ar_hpf, fi_hpf_ne, fl_hpf_ne, ar_hpa_ne, hpa_hpa, hpf_hpf, nI_1, two_ne, fokZ, implies_true, Nat.reduceEqDiff, rc_68, g_68_39, sf_68_39, fe_68_39, g_68_15, ga_71, gn_71, sa_71, ae_71, g_68_24, ga_77, gn_77, sa_77, ae_77, kl_0, kl_1, kl_2, kl_3, kl_4, kl_5, kl_6, kl_7, kl_8, kl_9, kl_10, kl_11, kl_12, jb_0_10, jb_1_10, jb_2_10, jb_3_10, jb_4_10, jb_5_10, jb_6_10, jb_7_10, jb_8_10, jb_9_10, jb_0_211, jb_1_211, jb_2_211, jb_3_211, jb_4_211, jb_5_211, jb_6_211, jb_7_211, jb_8_211, jb_9_211, jb_10_211, jb_11_211, jb_12_211, hsx]
            exact fin _ (by rw [if_neg hc])
      · have e0 : gwF true seed m = 2 := by unfold gwF; rw [if_neg (by decide), if_neg (fun q => hm q.2)]
        rw [e0] at hQ
        simp only [hs, hm, and_self, oK_some, cont_int, cont_intS, cont_none, cont_noneS, cont_long, cont_longS, true_and, and_true, false_and, and_false, true_implies, false_implies, not_true_eq_false, not_false_eq_true, eq_self, or_true, true_or, Option.isSome_some, hpf_length, hpa_length, bI_eq0, fi_hpa, fl_hpa, ar_hpf, fi_hpf_ne, fl_hpf_ne, ar_hpa_ne, hpa_hpa, hpf_hpf, nI_1, two_ne, fokZ, implies_true, Nat.reduceEqDiff]
        exact hQ H (Fg.rfl' hS) (fun q => absurd q (by decide))
    · have e0 : gwF true seed m = 2 := by unfold gwF; rw [if_neg (by decide), if_neg (fun q => hs q.1)]
      rw [e0] at hQ
      simp only [hs, oK_some, cont_int, cont_intS, cont_none, cont_noneS, cont_long, cont_longS, true_and, and_true, false_and, and_false, true_implies, false_implies, not_true_eq_false, not_false_eq_true, eq_self, or_true, true_or, Option.isSome_some, hpf_length, hpa_length, bI_eq0, fi_hpa, fl_hpa, ar_hpf, fi_hpf_ne, fl_hpf_ne, ar_hpa_ne, hpa_hpa, hpf_hpf, nI_1, two_ne, fokZ, implies_true, Nat.reduceEqDiff]
      exact hQ H (Fg.rfl' hS) (fun q => absurd q (by decide))
theorem M_grafted {k seed m : Int32} (hI : MIv H R st n nS nW nG nU nN) (hQ : MR H Q (if gwF (decide (0 ≤ k ∧ k < nI n)) seed m = 0 then (grD R (allU nU) n nW nG nU seed.toNatClampNeg m.toNatClampNeg st).getD k.toNatClampNeg 0 else -1) (gwF (decide (0 ≤ k ∧ k < nI n)) seed m)) : Wp scr (d + 6) 291 0 [some (.ref 68), some (.int k), some (.int seed), some (.int m), none] [] H Q := by
  have hS := hI.shp
  have hg := gd_fg hS
  have hI1 := hI.q hg
  have hs1 := hI1.shp
  have hM1 : Mn (ar (gd H) 71) n nS nW nG nU nN := by rw [hI1.2.1]; exact hI1.mn
  have h14 := hI1.2.2.2.2
  have e73 := hI1.2.2.1
  have rgR : ∀ j, R.getD j 0 = rg R j := fun _ => rfl
  have l73 := hI1.l
  obtain ⟨c2, c3, c4, c5, c6, c7, b2, b3, b4, b5, b6, b7⟩ := hI1.mn
  simp (maxDischargeDepth := 12) only [w291_0, w291_1, w291_4, w291_5, w291_6, w291_7, w291_10, w291_11, w291_12, w291_13, w291_16, w291_18, w291_20, w291_23, w291_24, w291_26, w291_29, w291_32, w291_33, w291_36, w291_37, w291_38, oK_some, cont_int, cont_intS, cont_none, cont_noneS, cont_long, cont_longS, true_and, and_true, false_and, and_false, true_implies, false_implies, not_true_eq_false, not_false_eq_true, eq_self, or_true, true_or, Option.isSome_some, hpf_length, hpa_length, bI_eq0, fi_hpa, fl_hpa, ar_hpf, fi_hpf_ne, fl_hpf_ne, ar_hpa_ne, hpa_hpa, hpf_hpf, nI_1, two_ne, fokZ, implies_true, Nat.reduceEqDiff, rc_68, g_68_24, ga_77, gn_77, sa_77, ae_77, kl_0, kl_1, kl_2, kl_3, kl_4, kl_5, kl_6, kl_7, kl_8, kl_9, kl_10, kl_11, kl_12, jb_0_10, jb_1_10, jb_2_10, jb_3_10, jb_4_10, jb_5_10, jb_6_10, jb_7_10, jb_8_10, jb_9_10, hS, m_good, gd_len, hs1, h14, e73, l73, hI1.2.1, rgR, hI1.lr, m_no, decide_eq_false_iff_not, gn_71, jb_7_10, jb_8_10, jb_9_10, m_isRow hI1]
  have hth : decide (0 ≤ k ∧ k < nI n) = true → 0 < n := fun q => by
    have := (of_row (of_decide_eq_true q) (by omega)).2
    omega
  refine m_graftWhy (k := 0) hI1 hth (by decide) (fun H2 hF2 hz => ?_)
  have hs2 := hF2.shp
  simp (maxDischargeDepth := 12) only [w291_0, w291_1, w291_4, w291_5, w291_6, w291_7, w291_10, w291_11, w291_12, w291_13, w291_16, w291_18, w291_20, w291_23, w291_24, w291_26, w291_29, w291_32, w291_33, w291_36, w291_37, w291_38, oK_some, cont_int, cont_intS, cont_none, cont_noneS, cont_long, cont_longS, true_and, and_true, false_and, and_false, true_implies, false_implies, not_true_eq_false, not_false_eq_true, eq_self, or_true, true_or, Option.isSome_some, hpf_length, hpa_length, bI_eq0, fi_hpa, fl_hpa, ar_hpf, fi_hpf_ne, fl_hpf_ne, ar_hpa_ne, hpa_hpa, hpf_hpf, nI_1, two_ne, fokZ, implies_true, Nat.reduceEqDiff, rc_68, g_68_24, ga_77, gn_77, sa_77, ae_77, kl_0, kl_1, kl_2, kl_3, kl_4, kl_5, kl_6, kl_7, kl_8, kl_9, kl_10, kl_11, kl_12, jb_0_10, jb_1_10, jb_2_10, jb_3_10, jb_4_10, jb_5_10, jb_6_10, jb_7_10, jb_8_10, jb_9_10, hF2.len, hs2, m_no]
  by_cases hw : gwF (decide (0 ≤ k ∧ k < nI n)) seed m = 0
  · obtain ⟨a2, _⟩ := hz hw
    simp only [hw, if_true] at hQ
    obtain ⟨hk, _⟩ := gwF_0 hw
    obtain ⟨ek, lk⟩ := of_row (of_decide_eq_true hk) (by omega)
    have ib : inb k 10 = true := by rw [ek, inb_nI (by omega)]; exact decide_eq_true (by omega)
    simp only [hw, oK_some, cont_int, cont_intS, cont_none, cont_noneS, cont_long, cont_longS, true_and, and_true, false_and, and_false, true_implies, false_implies, not_true_eq_false, not_false_eq_true, eq_self, or_true, true_or, Option.isSome_some, hpf_length, hpa_length, bI_eq0, fi_hpa, fl_hpa, ar_hpf, fi_hpf_ne, fl_hpf_ne, ar_hpa_ne, hpa_hpa, hpf_hpf, nI_1, two_ne, fokZ, implies_true, Nat.reduceEqDiff, a2, grD_len hI1.l, ib]
    exact mr_ok hS hF2 (by decide) (by decide) (by decide) (by decide) (by decide) hQ
  · simp only [hw, if_false] at hQ
    simp only [hw, oK_some, cont_int, cont_intS, cont_none, cont_noneS, cont_long, cont_longS, true_and, and_true, false_and, and_false, true_implies, false_implies, not_true_eq_false, not_false_eq_true, eq_self, or_true, true_or, Option.isSome_some, hpf_length, hpa_length, bI_eq0, fi_hpa, fl_hpa, ar_hpf, fi_hpf_ne, fl_hpf_ne, ar_hpa_ne, hpa_hpa, hpf_hpf, nI_1, two_ne, fokZ, implies_true, Nat.reduceEqDiff]
    exact mr_no hS (hg.trans (hF2.mono (by decide) (by decide))) (by rw [hF2.int (by decide) (by decide), gd_0 hS]) hQ
theorem M_graftDoubters {seed m : Int32} (hI : MIv H R st n nS nW nG nU nN) (hQ : MR H Q (if gwF (decide (0 < n)) seed m = 0 then dbt n (grD R (allU nU) n nW nG nU seed.toNatClampNeg m.toNatClampNeg st) else -1) (gwF (decide (0 < n)) seed m)) : Wp scr (d + 6) 292 0 [some (.ref 68), some (.int seed), some (.int m), none] [] H Q := by
  have hS := hI.shp
  have hg := gd_fg hS
  have hI1 := hI.q hg
  have hs1 := hI1.shp
  have hM1 : Mn (ar (gd H) 71) n nS nW nG nU nN := by rw [hI1.2.1]; exact hI1.mn
  have h14 := hI1.2.2.2.2
  have e73 := hI1.2.2.1
  have rgR : ∀ j, R.getD j 0 = rg R j := fun _ => rfl
  have l73 := hI1.l
  obtain ⟨c2, c3, c4, c5, c6, c7, b2, b3, b4, b5, b6, b7⟩ := hI1.mn
  simp (maxDischargeDepth := 12) only [w292_0, w292_1, w292_4, w292_5, w292_6, w292_9, w292_10, w292_11, w292_12, w292_15, w292_16, w292_17, w292_20, w292_21, w292_22, w292_25, w292_28, w292_29, w292_30, w292_33, w292_36, oK_some, cont_int, cont_intS, cont_none, cont_noneS, cont_long, cont_longS, true_and, and_true, false_and, and_false, true_implies, false_implies, not_true_eq_false, not_false_eq_true, eq_self, or_true, true_or, Option.isSome_some, hpf_length, hpa_length, bI_eq0, fi_hpa, fl_hpa, ar_hpf, fi_hpf_ne, fl_hpf_ne, ar_hpa_ne, hpa_hpa, hpf_hpf, nI_1, two_ne, fokZ, implies_true, Nat.reduceEqDiff, rc_68, g_68_14, sf_68_14, fe_68_14, g_68_24, ga_77, gn_77, sa_77, ae_77, kl_0, kl_1, kl_2, kl_3, kl_4, kl_5, kl_6, kl_7, kl_8, kl_9, kl_10, kl_11, kl_12, jb_0_10, jb_1_10, jb_2_10, jb_3_10, jb_4_10, jb_5_10, jb_6_10, jb_7_10, jb_8_10, jb_9_10, hS, m_good, gd_len, hs1, h14, e73, l73, hI1.2.1, rgR, hI1.lr, m_no, decide_eq_false_iff_not, gn_71, jb_7_10, jb_8_10, jb_9_10]
  refine m_graftWhy (k := 0) hI1 (fun q => of_decide_eq_true q) (by decide) (fun H2 hF2 hz => ?_)
  have hs2 := hF2.shp
  have hI2 := hI1.of hF2 (by decide) (by decide) (by decide) (by decide)
  simp (maxDischargeDepth := 12) only [w292_0, w292_1, w292_4, w292_5, w292_6, w292_9, w292_10, w292_11, w292_12, w292_15, w292_16, w292_17, w292_20, w292_21, w292_22, w292_25, w292_28, w292_29, w292_30, w292_33, w292_36, oK_some, cont_int, cont_intS, cont_none, cont_noneS, cont_long, cont_longS, true_and, and_true, false_and, and_false, true_implies, false_implies, not_true_eq_false, not_false_eq_true, eq_self, or_true, true_or, Option.isSome_some, hpf_length, hpa_length, bI_eq0, fi_hpa, fl_hpa, ar_hpf, fi_hpf_ne, fl_hpf_ne, ar_hpa_ne, hpa_hpa, hpf_hpf, nI_1, two_ne, fokZ, implies_true, Nat.reduceEqDiff, rc_68, g_68_14, sf_68_14, fe_68_14, g_68_24, ga_77, gn_77, sa_77, ae_77, kl_0, kl_1, kl_2, kl_3, kl_4, kl_5, kl_6, kl_7, kl_8, kl_9, kl_10, kl_11, kl_12, jb_0_10, jb_1_10, jb_2_10, jb_3_10, jb_4_10, jb_5_10, jb_6_10, jb_7_10, jb_8_10, jb_9_10, hF2.len, hs2, m_no, m_dbtT hI2]
  by_cases hw : gwF (decide (0 < n)) seed m = 0
  · obtain ⟨a2, _⟩ := hz hw
    simp only [hw, if_true] at hQ
    simp only [hw, oK_some, cont_int, cont_intS, cont_none, cont_noneS, cont_long, cont_longS, true_and, and_true, false_and, and_false, true_implies, false_implies, not_true_eq_false, not_false_eq_true, eq_self, or_true, true_or, Option.isSome_some, hpf_length, hpa_length, bI_eq0, fi_hpa, fl_hpa, ar_hpf, fi_hpf_ne, fl_hpf_ne, ar_hpa_ne, hpa_hpa, hpf_hpf, nI_1, two_ne, fokZ, implies_true, Nat.reduceEqDiff, a2]
    exact mr_ok hS hF2 (by decide) (by decide) (by decide) (by decide) (by decide) hQ
  · simp only [hw, if_false] at hQ
    simp only [hw, oK_some, cont_int, cont_intS, cont_none, cont_noneS, cont_long, cont_longS, true_and, and_true, false_and, and_false, true_implies, false_implies, not_true_eq_false, not_false_eq_true, eq_self, or_true, true_or, Option.isSome_some, hpf_length, hpa_length, bI_eq0, fi_hpa, fl_hpa, ar_hpf, fi_hpf_ne, fl_hpf_ne, ar_hpa_ne, hpa_hpa, hpf_hpf, nI_1, two_ne, fokZ, implies_true, Nat.reduceEqDiff]
    exact mr_no hS (hg.trans (hF2.mono (by decide) (by decide))) (by rw [hF2.int (by decide) (by decide), gd_0 hS]) hQ
theorem M_graftWhen {k seed m : Int32} (hI : MIv H R st n nS nW nG nU nN) (hQ : MR H Q (if gwF (decide (0 ≤ k ∧ k < nI n)) seed m = 0 then grW (fun i => decide ((grD R (allU nU) n nW nG nU seed.toNatClampNeg (i + 1) st).getD k.toNatClampNeg 0 < 10)) m.toNatClampNeg else -1) (gwF (decide (0 ≤ k ∧ k < nI n)) seed m)) : Wp scr (d + 6) 293 0 [some (.ref 68), some (.int k), some (.int seed), some (.int m), none] [] H Q := by
  have hS := hI.shp
  have hg := gd_fg hS
  have hI1 := hI.q hg
  have hs1 := hI1.shp
  have hM1 : Mn (ar (gd H) 71) n nS nW nG nU nN := by rw [hI1.2.1]; exact hI1.mn
  have h14 := hI1.2.2.2.2
  have e73 := hI1.2.2.1
  have rgR : ∀ j, R.getD j 0 = rg R j := fun _ => rfl
  have l73 := hI1.l
  obtain ⟨c2, c3, c4, c5, c6, c7, b2, b3, b4, b5, b6, b7⟩ := hI1.mn
  by_cases hk : 0 ≤ k ∧ k < nI n
  · obtain ⟨ek, lk⟩ := of_row hk (by omega)
    generalize k.toNatClampNeg = kk at ek lk hQ
    subst ek
    simp (maxDischargeDepth := 12) only [w293_0, w293_1, w293_4, w293_5, w293_6, w293_7, w293_10, w293_11, w293_12, w293_13, w293_16, w293_18, w293_20, w293_23, w293_24, w293_26, w293_29, w293_32, w293_33, w293_36, oK_some, cont_int, cont_intS, cont_none, cont_noneS, cont_long, cont_longS, true_and, and_true, false_and, and_false, true_implies, false_implies, not_true_eq_false, not_false_eq_true, eq_self, or_true, true_or, Option.isSome_some, hpf_length, hpa_length, bI_eq0, fi_hpa, fl_hpa, ar_hpf, fi_hpf_ne, fl_hpf_ne, ar_hpa_ne, hpa_hpa, hpf_hpf, nI_1, two_ne, fokZ, implies_true, Nat.reduceEqDiff, rc_68, g_68_39, sf_68_39, fe_68_39, hS, m_good, gd_len, hs1, h14, e73, l73, hI1.2.1, rgR, hI1.lr, m_no, decide_eq_false_iff_not, gn_71, jb_7_10, jb_8_10, jb_9_10, m_isRow hI1]
    refine m_graftWhy (k := kk) hI1 (fun _ => by omega) (by omega) (fun H2 hF2 hz => ?_)
    have hs2 := hF2.shp
    simp (maxDischargeDepth := 12) only [w293_0, w293_1, w293_4, w293_5, w293_6, w293_7, w293_10, w293_11, w293_12, w293_13, w293_16, w293_18, w293_20, w293_23, w293_24, w293_26, w293_29, w293_32, w293_33, w293_36, oK_some, cont_int, cont_intS, cont_none, cont_noneS, cont_long, cont_longS, true_and, and_true, false_and, and_false, true_implies, false_implies, not_true_eq_false, not_false_eq_true, eq_self, or_true, true_or, Option.isSome_some, hpf_length, hpa_length, bI_eq0, fi_hpa, fl_hpa, ar_hpf, fi_hpf_ne, fl_hpf_ne, ar_hpa_ne, hpa_hpa, hpf_hpf, nI_1, two_ne, fokZ, implies_true, Nat.reduceEqDiff, rc_68, g_68_39, sf_68_39, fe_68_39, hF2.len, hs2, m_no]
    by_cases hw : gwF (decide (0 ≤ nI kk ∧ nI kk < nI n)) seed m = 0
    · obtain ⟨_, a2⟩ := hz hw
      simp only [hw, if_true] at hQ
      simp only [hw, oK_some, cont_int, cont_intS, cont_none, cont_noneS, cont_long, cont_longS, true_and, and_true, false_and, and_false, true_implies, false_implies, not_true_eq_false, not_false_eq_true, eq_self, or_true, true_or, Option.isSome_some, hpf_length, hpa_length, bI_eq0, fi_hpa, fl_hpa, ar_hpf, fi_hpf_ne, fl_hpf_ne, ar_hpa_ne, hpa_hpa, hpf_hpf, nI_1, two_ne, fokZ, implies_true, Nat.reduceEqDiff, a2]
      exact mr_ok hS hF2 (by decide) (by decide) (by decide) (by decide) (by decide) hQ
    · simp only [hw, if_false] at hQ
      simp only [hw, oK_some, cont_int, cont_intS, cont_none, cont_noneS, cont_long, cont_longS, true_and, and_true, false_and, and_false, true_implies, false_implies, not_true_eq_false, not_false_eq_true, eq_self, or_true, true_or, Option.isSome_some, hpf_length, hpa_length, bI_eq0, fi_hpa, fl_hpa, ar_hpf, fi_hpf_ne, fl_hpf_ne, ar_hpa_ne, hpa_hpa, hpf_hpf, nI_1, two_ne, fokZ, implies_true, Nat.reduceEqDiff]
      exact mr_no hS (hg.trans (hF2.mono (by decide) (by decide))) (by rw [hF2.int (by decide) (by decide), gd_0 hS]) hQ
  · have e1 : gwF (decide (0 ≤ k ∧ k < nI n)) seed m = 1 := by unfold gwF; rw [decide_eq_false hk, if_pos rfl]
    rw [e1] at hQ
    have hd : decide (0 ≤ k ∧ k < nI n) = false := decide_eq_false hk
    simp (maxDischargeDepth := 12) only [w293_0, w293_1, w293_4, w293_5, w293_6, w293_7, w293_10, w293_11, w293_12, w293_13, w293_16, w293_18, w293_20, w293_23, w293_24, w293_26, w293_29, w293_32, w293_33, w293_36, oK_some, cont_int, cont_intS, cont_none, cont_noneS, cont_long, cont_longS, true_and, and_true, false_and, and_false, true_implies, false_implies, not_true_eq_false, not_false_eq_true, eq_self, or_true, true_or, Option.isSome_some, hpf_length, hpa_length, bI_eq0, fi_hpa, fl_hpa, ar_hpf, fi_hpf_ne, fl_hpf_ne, ar_hpa_ne, hpa_hpa, hpf_hpf, nI_1, two_ne, fokZ, implies_true, Nat.reduceEqDiff, rc_68, g_68_39, sf_68_39, fe_68_39, hS, m_good, gd_len, hs1, h14, e73, l73, hI1.2.1, rgR, hI1.lr, m_no, decide_eq_false_iff_not, gn_71, jb_7_10, jb_8_10, jb_9_10, m_isRow hI1, hd, w290_0, w290_1, w290_4, w290_5, w290_6, w290_7, w290_8, w290_11, w290_14, w290_17, w290_19, w290_20, w290_22, w290_25, w290_28, w290_29, w290_30, w290_31, w290_34, w290_35, w290_36, w290_39, w290_40, w290_42, w290_43, w290_47, w290_49, w290_52, w290_54, w290_56, w290_57, w290_59, w290_60, w290_63, w290_64, w290_66, w290_68, w290_69, w290_72, w290_73, w290_74, w290_75, w290_77, w290_78, w290_81, w290_83, w290_84, w290_87, w290_89, w290_90, w290_91, w290_94, w290_95, w290_98, w290_99, w290_102, w290_104, w290_105, w290_106, w290_107, w290_108, w290_109, w290_110, w290_113, w290_116, w290_117, w290_120, w290_123, w290_124, w290_127, w290_128, w290_131, w290_134, w290_135, w290_137, w290_140, w290_143, w290_146, w290_147, oK_some, cont_int, cont_intS, cont_none, cont_noneS, cont_long, cont_longS, true_and, and_true, false_and, and_false, true_implies, false_implies, not_true_eq_false, not_false_eq_true, eq_self, or_true, true_or, Option.isSome_some, hpf_length, hpa_length, bI_eq0, fi_hpa, fl_hpa, ar_hpf, fi_hpf_ne, fl_hpf_ne, ar_hpa_ne, hpa_hpa, hpf_hpf, nI_1, two_ne, fokZ, implies_true, Nat.reduceEqDiff, rc_68, g_68_39, sf_68_39, fe_68_39, g_68_15, ga_71, gn_71, sa_71, ae_71, g_68_24, ga_77, gn_77, sa_77, ae_77, kl_0, kl_1, kl_2, kl_3, kl_4, kl_5, kl_6, kl_7, kl_8, kl_9, kl_10, kl_11, kl_12, jb_0_10, jb_1_10, jb_2_10, jb_3_10, jb_4_10, jb_5_10, jb_6_10, jb_7_10, jb_8_10, jb_9_10, jb_0_211, jb_1_211, jb_2_211, jb_3_211, jb_4_211, jb_5_211, jb_6_211, jb_7_211, jb_8_211, jb_9_211, jb_10_211, jb_11_211, jb_12_211, show ((1 : Int32) = 0) = False from eq_false (by decide)]
    rw [if_neg (by decide)] at hQ
    exact mr_no hS hg (gd_0 hS) hQ
end MODELJ
