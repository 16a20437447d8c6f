/-! ===== the Model: the fewest coins ===== -/
theorem p2 {k : Nat} (h : k ≤ 10) : (1 : Int32) <<< (nI k &&& 31) = nI (2 ^ k) := by
  have c : k = 0 ∨ k = 1 ∨ k = 2 ∨ k = 3 ∨ k = 4 ∨ k = 5 ∨ k = 6 ∨ k = 7 ∨ k = 8 ∨ k = 9 ∨ k = 10 := by omega
  rcases c with rfl | rfl | rfl | rfl | rfl | rfl | rfl | rfl | rfl | rfl | rfl <;> decide
theorem p2_lt {k m : Nat} (h : k ≤ m) : 2 ^ k ≤ 2 ^ m := Nat.pow_le_pow_right (by decide) h
def mor (c : Int32 → Int32) (s b : Int32) : Int32 := if b < 0 then -1 else c s - c b
def mBet (c : Int32 → Int32) (s b : Int32) : Bool := decide (¬ 0 < mor c s b ∧ (mor c s b = 0 → ones s < ones b))
/-- a step of the search for the best set -/
def chF (c : Int32 → Int32) (T : Nat → Bool) (mask : Int32) (set : Nat) (best : Int32) : Int32 := if nI set &&& mask = 0 then (if mBet c (nI set) best = true then (if T set = true then nI set else best) else best) else best
def bsF (mask : Int32) (g : Nat → Int32) (k : Nat) (p : Int32 × Int32) : Int32 × Int32 := if p.2 < (if hb mask (nI k) = true then -1 else g k) then (nI k, if hb mask (nI k) = true then -1 else g k) else p
section MODELA
variable {scr : List Int32} {d n nS nW nG nU nN w : Nat} {H : List AC} {R st : List Int32} {Q : Option Value → List AC → Prop}
def sgT (R st : List Int32) (n nW nG nU m : Nat) (rows : Int32) (set : Nat) : Bool := decide (dbt n (daysM R (allU nU) n nW nG nU m (wOr st (nI set) 0)) &&& rows = 0)
def waT (R st : List Int32) (n nW nG nU m : Nat) (set : Nat) : Bool := decide (dbt n (daysM R (allU nU) n nW nG nU m (wOr st 0 (nI set))) = 0)
def sgB (R st : List Int32) (n nW nG nU m : Nat) (rows : Int32) : Int32 := forN (chF (fun s => forN (cosF R s 94 4) nG 0) (sgT R st n nW nG nU m rows) (st.getD 7 0)) (2 ^ nG) (-2)
def waB (R st : List Int32) (n nW nG nU m : Nat) : Int32 := forN (chF (fun s => forN (cosF R s 79 3) nW 0) (waT R st n nW nG nU m) (st.getD 8 0)) (2 ^ nW) (-2)
theorem m_allRows (hI : MIv H R st n nS nW nG nU nN) : Wp scr d 257 0 [some (.ref 68)] [] H Q ↔ Q (some (.int ((1 <<< (nI n &&& 31)) - 1))) H := by
  have hS := hI.shp
  simp (maxDischargeDepth := 12) only [w257_0, w257_1, w257_2, w257_5, w257_6, w257_7, w257_8, w257_9, w257_10, oK_some, cont_int, cont_intS, cont_none, cont_noneS, cont_long, cont_longS, true_and, and_true, false_and, and_false, true_implies, false_implies, not_true_eq_false, not_false_eq_true, eq_self, or_true, true_or, Option.isSome_some, hpf_length, hpa_length, bI_eq0, fi_hpa, fl_hpa, ar_hpf, fi_hpf_ne, fl_hpf_ne, ar_hpa_ne, hpa_hpa, hpf_hpf, nI_1, two_ne, fokZ, implies_true, Nat.reduceEqDiff, g_68_15, ga_71, gn_71, sa_71, ae_71, kl_0, kl_1, kl_2, kl_3, kl_4, kl_5, kl_6, kl_7, kl_8, kl_9, kl_10, kl_11, kl_12, jb_0_211, jb_1_211, jb_2_211, jb_3_211, jb_4_211, jb_5_211, jb_6_211, jb_7_211, jb_8_211, jb_9_211, jb_10_211, jb_11_211, jb_12_211, hS, hI.r, hI.mn.1]
theorem m_signsFor {m : Nat} {rows : Int32} (hI : MIv H R st n nS nW nG nU nN) (hm : m < 100000) (hQ : ∀ H', Fg [76, 77] [(68, 22)] H H' → Q (some (.int (sgB R st n nW nG nU m rows))) H') : Wp scr (d + 6) 258 0 [some (.ref 68), some (.int rows), some (.int (nI m)), none, none, none] [] H Q := by
  obtain ⟨c2, c3, c4, c5, c6, c7, b2, b3, b4, b5, b6, b7⟩ := hI.mn
  have hpw : 2 ^ nG ≤ 2 ^ 6 := p2_lt b5
  have rgR : ∀ j, R.getD j 0 = rg R j := fun _ => rfl
  unfold sgB at hQ
  generalize hc : (fun s => forN (cosF R s 94 4) nG 0) = c at hQ
  have hci : ∀ s, forN (cosF R s 94 4) nG 0 = c s := fun s => by rw [← hc]
  generalize hT : sgT R st n nW nG nU m rows = T at hQ
  simp only [w258_0, w258_2, w258_3, w258_4]
  have key := down (P := fun i => ∀ H2, ∀ o5 : Option Value, Fg [76, 77] [(68, 22)] H H2 → Wp scr (d + 6) 258 6 [some (.ref 68), some (.int rows), some (.int (nI m)), some (.int (forN (chF c T (st.getD 7 0)) i (-2))), some (.int (nI i)), o5] [] H2 Q) (2 ^ nG) ?_ ?_
  · exact key H none (Fg.rfl' hI.shp)
  · intro H2 o5 hF2
    have hI2 := hI.of hF2 (by decide) (by decide) (by decide) (by decide)
    have hs2 := hF2.shp
    rw [w258_6]
    simp (maxDischargeDepth := 12) only [w258_0, w258_2, w258_3, w258_4, w258_8, w258_9, w258_10, w258_13, w258_14, w258_15, w258_16, w258_19, w258_21, w258_22, w258_25, w258_27, w258_28, w258_29, w258_32, w258_35, w258_36, w258_39, w258_40, w258_43, w258_44, w258_46, w258_49, w258_50, w258_51, w258_54, w258_55, w258_57, w258_59, w258_62, w258_64, w258_67, w258_69, w258_72, w258_73, w258_76, w258_79, w258_82, w258_83, w258_85, w258_86, w258_87, w258_90, w258_91, w258_92, w258_95, w258_98, w258_99, w258_100, w258_103, w258_105, w258_106, w258_109, w258_112, w258_113, oK_some, cont_int, cont_intS, cont_none, cont_noneS, cont_long, cont_longS, true_and, and_true, false_and, and_false, true_implies, false_implies, not_true_eq_false, not_false_eq_true, eq_self, or_true, true_or, Option.isSome_some, hpf_length, hpa_length, bI_eq0, fi_hpa, fl_hpa, ar_hpf, fi_hpf_ne, fl_hpf_ne, ar_hpa_ne, hpa_hpa, hpf_hpf, nI_1, two_ne, fokZ, implies_true, Nat.reduceEqDiff, g_68_15, ga_71, gn_71, sa_71, ae_71, g_68_17, ga_73, gn_73, sa_73, ae_73, rc_68, g_68_24, ga_77, gn_77, sa_77, ae_77, kl_0, kl_1, kl_2, kl_3, kl_4, kl_5, kl_6, kl_7, kl_8, kl_9, kl_10, kl_11, kl_12, jb_0_10, jb_1_10, jb_2_10, jb_3_10, jb_4_10, jb_5_10, jb_6_10, jb_7_10, jb_8_10, jb_9_10, jb_0_211, jb_1_211, jb_2_211, jb_3_211, jb_4_211, jb_5_211, jb_6_211, jb_7_211, jb_8_211, jb_9_211, jb_10_211, jb_11_211, jb_12_211, hs2, hI2.2.1, hI2.lr, rgR, c5, p2 (by omega : nG ≤ 10), nI_les]
    exact hQ H2 hF2
  · intro i hi hw H2 o5 hF2
    have hI2 := hI.of hF2 (by decide) (by decide) (by decide) (by decide)
    have hs2 := hF2.shp
    rw [forN_succ] at hw
    generalize forN (chF c T (st.getD 7 0)) i (-2) = best at hw ⊢
    have sk : ∀ (v : Int32) (o5 : Option Value) H3, Fg [76, 77] [(68, 22)] H H3 → chF c T (st.getD 7 0) i best = v → Wp scr (d + 6) 258 106 [some (.ref 68), some (.int rows), some (.int (nI m)), some (.int v), some (.int (nI i)), o5] [] H3 Q := by
      intro v o5 H3 hF3 e
      simp only [w258_106, w258_109, nI_1]
      rw [← e]
      exact hw H3 o5 hF3
    have go : ∀ x5 : Int32, nI i &&& st.getD 7 0 = 0 → mBet c (nI i) best = true → Wp scr (d + 6) 258 82 [some (.ref 68), some (.int rows), some (.int (nI m)), some (.int best), some (.int (nI i)), some (.int x5)] [] H2 Q := by
      intro x5 h1 h2
      simp only [w258_82, w258_83, w258_85, w258_86, w258_87, rc_68 hs2, true_and]
      refine m_goOver' hI2 hm (fun H3 hF3 a3 => ?_)
      have hI3 := hI2.of hF3 (by decide) (by decide) (by decide) (by decide)
      have hs3 := hF3.shp
      have hF4 := hF2.trans hF3
      have eT : T i = decide (dbt n (daysM R (allU nU) n nW nG nU m (wOr st (nI i) 0)) &&& rows = 0) := by rw [← hT]; rfl
      simp (maxDischargeDepth := 12) only [w258_0, w258_2, w258_3, w258_4, w258_8, w258_9, w258_10, w258_13, w258_14, w258_15, w258_16, w258_19, w258_21, w258_22, w258_25, w258_27, w258_28, w258_29, w258_32, w258_35, w258_36, w258_39, w258_40, w258_43, w258_44, w258_46, w258_49, w258_50, w258_51, w258_54, w258_55, w258_57, w258_59, w258_62, w258_64, w258_67, w258_69, w258_72, w258_73, w258_76, w258_79, w258_83, w258_85, w258_86, w258_87, w258_90, w258_91, w258_92, w258_95, w258_98, w258_99, w258_100, w258_103, w258_105, w258_109, w258_112, w258_113, oK_some, cont_int, cont_intS, cont_none, cont_noneS, cont_long, cont_longS, true_and, and_true, false_and, and_false, true_implies, false_implies, not_true_eq_false, not_false_eq_true, eq_self, or_true, true_or, Option.isSome_some, hpf_length, hpa_length, bI_eq0, fi_hpa, fl_hpa, ar_hpf, fi_hpf_ne, fl_hpf_ne, ar_hpa_ne, hpa_hpa, hpf_hpf, nI_1, two_ne, fokZ, implies_true, Nat.reduceEqDiff, g_68_15, ga_71, gn_71, sa_71, ae_71, g_68_17, ga_73, gn_73, sa_73, ae_73, rc_68, g_68_24, ga_77, gn_77, sa_77, ae_77, kl_0, kl_1, kl_2, kl_3, kl_4, kl_5, kl_6, kl_7, kl_8, kl_9, kl_10, kl_11, kl_12, jb_0_10, jb_1_10, jb_2_10, jb_3_10, jb_4_10, jb_5_10, jb_6_10, jb_7_10, jb_8_10, jb_9_10, jb_0_211, jb_1_211, jb_2_211, jb_3_211, jb_4_211, jb_5_211, jb_6_211, jb_7_211, jb_8_211, jb_9_211, jb_10_211, jb_11_211, jb_12_211, hF3.len, hs3, m_dbtT hI3, a3]
      by_cases hz : dbt n (daysM R (allU nU) n nW nG nU m (wOr st (nI i) 0)) &&& rows = 0
      · simp only [hz, oK_some, cont_int, cont_intS, cont_none, cont_noneS, cont_long, cont_longS, true_and, and_true, false_and, and_false, true_implies, false_implies, not_true_eq_false, not_false_eq_true, eq_self, or_true, true_or, Option.isSome_some, hpf_length, hpa_length, bI_eq0, fi_hpa, fl_hpa, ar_hpf, fi_hpf_ne, fl_hpf_ne, ar_hpa_ne, hpa_hpa, hpf_hpf, nI_1, two_ne, fokZ, implies_true, Nat.reduceEqDiff]
        refine sk _ _ H3 hF4 ?_
        unfold chF
        rw [if_pos h1, if_pos h2, if_pos (by rw [eT]; exact decide_eq_true hz)]
      · simp only [hz, oK_some, cont_int, cont_intS, cont_none, cont_noneS, cont_long, cont_longS, true_and, and_true, false_and, and_false, true_implies, false_implies, not_true_eq_false, not_false_eq_true, eq_self, or_true, true_or, Option.isSome_some, hpf_length, hpa_length, bI_eq0, fi_hpa, fl_hpa, ar_hpf, fi_hpf_ne, fl_hpf_ne, ar_hpa_ne, hpa_hpa, hpf_hpf, nI_1, two_ne, fokZ, implies_true, Nat.reduceEqDiff]
        refine sk _ _ H3 hF4 ?_
        unfold chF
        rw [if_pos h1, if_pos h2, if_neg (by rw [eT]; simpa using hz)]
    rw [w258_6]
    simp (maxDischargeDepth := 12) only [w258_0, w258_2, w258_3, w258_4, w258_8, w258_9, w258_10, w258_13, w258_14, w258_15, w258_16, w258_19, w258_21, w258_22, w258_25, w258_27, w258_28, w258_29, w258_32, w258_35, w258_36, w258_39, w258_40, w258_43, w258_44, w258_46, w258_49, w258_50, w258_51, w258_54, w258_55, w258_57, w258_59, w258_62, w258_64, w258_67, w258_69, w258_72, w258_73, w258_76, w258_79, w258_83, w258_85, w258_86, w258_87, w258_90, w258_91, w258_92, w258_95, w258_98, w258_99, w258_100, w258_103, w258_105, w258_109, w258_112, w258_113, oK_some, cont_int, cont_intS, cont_none, cont_noneS, cont_long, cont_longS, true_and, and_true, false_and, and_false, true_implies, false_implies, not_true_eq_false, not_false_eq_true, eq_self, or_true, true_or, Option.isSome_some, hpf_length, hpa_length, bI_eq0, fi_hpa, fl_hpa, ar_hpf, fi_hpf_ne, fl_hpf_ne, ar_hpa_ne, hpa_hpa, hpf_hpf, nI_1, two_ne, fokZ, implies_true, Nat.reduceEqDiff, g_68_15, ga_71, gn_71, sa_71, ae_71, g_68_17, ga_73, gn_73, sa_73, ae_73, rc_68, g_68_24, ga_77, gn_77, sa_77, ae_77, kl_0, kl_1, kl_2, kl_3, kl_4, kl_5, kl_6, kl_7, kl_8, kl_9, kl_10, kl_11, kl_12, jb_0_10, jb_1_10, jb_2_10, jb_3_10, jb_4_10, jb_5_10, jb_6_10, jb_7_10, jb_8_10, jb_9_10, jb_0_211, jb_1_211, jb_2_211, jb_3_211, jb_4_211, jb_5_211, jb_6_211, jb_7_211, jb_8_211, jb_9_211, jb_10_211, jb_11_211, jb_12_211, hs2, hI2.2.1, hI2.2.2.1, hI2.l, hI2.lr, jb_7_10, rgR, c5, p2 (by omega : nG ≤ 10), nI_lef hi (by omega : 2 ^ nG < 2147483648), m_costOf hI2, hci, m_ones]
    by_cases h1 : nI i &&& st.getD 7 0 = 0
    · simp only [h1, oK_some, cont_int, cont_intS, cont_none, cont_noneS, cont_long, cont_longS, true_and, and_true, false_and, and_false, true_implies, false_implies, not_true_eq_false, not_false_eq_true, eq_self, or_true, true_or, Option.isSome_some, hpf_length, hpa_length, bI_eq0, fi_hpa, fl_hpa, ar_hpf, fi_hpf_ne, fl_hpf_ne, ar_hpa_ne, hpa_hpa, hpf_hpf, nI_1, two_ne, fokZ, implies_true, Nat.reduceEqDiff]
      have skb : mBet c (nI i) best = false → chF c T (st.getD 7 0) i best = best := fun h => by unfold chF; rw [if_pos h1, h]; simp
      by_cases h2 : best < 0
      · have h2' : ¬ 0 ≤ best := by rw [Int32.not_le]; exact h2
        have hmb : mBet c (nI i) best = true := by unfold mBet mor; rw [if_pos h2]; exact decide_eq_true ⟨by decide, fun q => absurd q (by decide)⟩
        simp only [h2', oK_some, cont_int, cont_intS, cont_none, cont_noneS, cont_long, cont_longS, true_and, and_true, false_and, and_false, true_implies, false_implies, not_true_eq_false, not_false_eq_true, eq_self, or_true, true_or, Option.isSome_some, hpf_length, hpa_length, bI_eq0, fi_hpa, fl_hpa, ar_hpf, fi_hpf_ne, fl_hpf_ne, ar_hpa_ne, hpa_hpa, hpf_hpf, nI_1, two_ne, fokZ, implies_true, Nat.reduceEqDiff, show ((0 : Int32) < -1) = False from eq_false (by decide), show ((-1 : Int32) = 0) = False from eq_false (by decide)]
        exact go _ h1 hmb
      · have h2' : 0 ≤ best := by rw [← Int32.not_lt]; exact h2
        have em : mor c (nI i) best = c (nI i) - c best := by unfold mor; rw [if_neg h2]
        simp only [h2', oK_some, cont_int, cont_intS, cont_none, cont_noneS, cont_long, cont_longS, true_and, and_true, false_and, and_false, true_implies, false_implies, not_true_eq_false, not_false_eq_true, eq_self, or_true, true_or, Option.isSome_some, hpf_length, hpa_length, bI_eq0, fi_hpa, fl_hpa, ar_hpf, fi_hpf_ne, fl_hpf_ne, ar_hpa_ne, hpa_hpa, hpf_hpf, nI_1, two_ne, fokZ, implies_true, Nat.reduceEqDiff]
        rw [← em]
        by_cases h3 : 0 < mor c (nI i) best
        · simp only [h3, oK_some, cont_int, cont_intS, cont_none, cont_noneS, cont_long, cont_longS, true_and, and_true, false_and, and_false, true_implies, false_implies, not_true_eq_false, not_false_eq_true, eq_self, or_true, true_or, Option.isSome_some, hpf_length, hpa_length, bI_eq0, fi_hpa, fl_hpa, ar_hpf, fi_hpf_ne, fl_hpf_ne, ar_hpa_ne, hpa_hpa, hpf_hpf, nI_1, two_ne, fokZ, implies_true, Nat.reduceEqDiff]
          exact sk _ _ H2 hF2 (skb (by unfold mBet; simp [h3]))
        · by_cases h4 : mor c (nI i) best = 0
          · by_cases h5 : ones (nI i) < ones best
            · simp only [h3, h4, h5, oK_some, cont_int, cont_intS, cont_none, cont_noneS, cont_long, cont_longS, true_and, and_true, false_and, and_false, true_implies, false_implies, not_true_eq_false, not_false_eq_true, eq_self, or_true, true_or, Option.isSome_some, hpf_length, hpa_length, bI_eq0, fi_hpa, fl_hpa, ar_hpf, fi_hpf_ne, fl_hpf_ne, ar_hpa_ne, hpa_hpa, hpf_hpf, nI_1, two_ne, fokZ, implies_true, Nat.reduceEqDiff, Int32.lt_irrefl]
              exact go _ h1 (by unfold mBet; simp [h4, h5])
            · simp only [h3, h4, h5, oK_some, cont_int, cont_intS, cont_none, cont_noneS, cont_long, cont_longS, true_and, and_true, false_and, and_false, true_implies, false_implies, not_true_eq_false, not_false_eq_true, eq_self, or_true, true_or, Option.isSome_some, hpf_length, hpa_length, bI_eq0, fi_hpa, fl_hpa, ar_hpf, fi_hpf_ne, fl_hpf_ne, ar_hpa_ne, hpa_hpa, hpf_hpf, nI_1, two_ne, fokZ, implies_true, Nat.reduceEqDiff, Int32.lt_irrefl]
              exact sk _ _ H2 hF2 (skb (by unfold mBet; simp [h4, h5]))
          · simp only [h3, h4, oK_some, cont_int, cont_intS, cont_none, cont_noneS, cont_long, cont_longS, true_and, and_true, false_and, and_false, true_implies, false_implies, not_true_eq_false, not_false_eq_true, eq_self, or_true, true_or, Option.isSome_some, hpf_length, hpa_length, bI_eq0, fi_hpa, fl_hpa, ar_hpf, fi_hpf_ne, fl_hpf_ne, ar_hpa_ne, hpa_hpa, hpf_hpf, nI_1, two_ne, fokZ, implies_true, Nat.reduceEqDiff]
            exact go _ h1 (by unfold mBet; simp [h3, h4])
    · simp only [h1, oK_some, cont_int, cont_intS, cont_none, cont_noneS, cont_long, cont_longS, true_and, and_true, false_and, and_false, true_implies, false_implies, not_true_eq_false, not_false_eq_true, eq_self, or_true, true_or, Option.isSome_some, hpf_length, hpa_length, bI_eq0, fi_hpa, fl_hpa, ar_hpf, fi_hpf_ne, fl_hpf_ne, ar_hpa_ne, hpa_hpa, hpf_hpf, nI_1, two_ne, fokZ, implies_true, Nat.reduceEqDiff]
      exact sk _ _ H2 hF2 (by unfold chF; rw [if_neg h1])
theorem m_wallsFor {m : Nat} (hI : MIv H R st n nS nW nG nU nN) (hm : m < 100000) (hQ : ∀ H', Fg [76, 77] [(68, 22)] H H' → Q (some (.int (waB R st n nW nG nU m))) H') : Wp scr (d + 6) 263 0 [some (.ref 68), some (.int (nI m)), none, none, none] [] H Q := by
  obtain ⟨c2, c3, c4, c5, c6, c7, b2, b3, b4, b5, b6, b7⟩ := hI.mn
  have hpw : 2 ^ nW ≤ 2 ^ 5 := p2_lt b4
  have rgR : ∀ j, R.getD j 0 = rg R j := fun _ => rfl
  unfold waB at hQ
  generalize hc : (fun s => forN (cosF R s 79 3) nW 0) = c at hQ
  have hci : ∀ s, forN (cosF R s 79 3) nW 0 = c s := fun s => by rw [← hc]
  generalize hT : waT R st n nW nG nU m = T at hQ
  simp only [w263_0, w263_2, w263_3, w263_4]
  have key := down (P := fun i => ∀ H2, ∀ o5 : Option Value, Fg [76, 77] [(68, 22)] H H2 → Wp scr (d + 6) 263 5 [some (.ref 68), some (.int (nI m)), some (.int (forN (chF c T (st.getD 8 0)) i (-2))), some (.int (nI i)), o5] [] H2 Q) (2 ^ nW) ?_ ?_
  · exact key H none (Fg.rfl' hI.shp)
  · intro H2 o5 hF2
    have hI2 := hI.of hF2 (by decide) (by decide) (by decide) (by decide)
    have hs2 := hF2.shp
    rw [w263_5]
    simp (maxDischargeDepth := 12) only [w263_0, w263_2, w263_3, w263_4, w263_6, w263_7, w263_8, w263_11, w263_12, w263_13, w263_14, w263_17, w263_18, w263_19, w263_22, w263_24, w263_25, w263_26, w263_29, w263_32, w263_33, w263_36, w263_37, w263_40, w263_41, w263_42, w263_45, w263_46, w263_47, w263_50, w263_51, w263_53, w263_55, w263_58, w263_60, w263_63, w263_64, w263_67, w263_68, w263_71, w263_74, w263_77, w263_78, w263_79, w263_80, w263_81, w263_84, w263_85, w263_86, w263_89, w263_92, w263_95, w263_96, w263_97, w263_100, w263_103, w263_104, oK_some, cont_int, cont_intS, cont_none, cont_noneS, cont_long, cont_longS, true_and, and_true, false_and, and_false, true_implies, false_implies, not_true_eq_false, not_false_eq_true, eq_self, or_true, true_or, Option.isSome_some, hpf_length, hpa_length, bI_eq0, fi_hpa, fl_hpa, ar_hpf, fi_hpf_ne, fl_hpf_ne, ar_hpa_ne, hpa_hpa, hpf_hpf, nI_1, two_ne, fokZ, implies_true, Nat.reduceEqDiff, g_68_15, ga_71, gn_71, sa_71, ae_71, g_68_17, ga_73, gn_73, sa_73, ae_73, rc_68, g_68_24, ga_77, gn_77, sa_77, ae_77, kl_0, kl_1, kl_2, kl_3, kl_4, kl_5, kl_6, kl_7, kl_8, kl_9, kl_10, kl_11, kl_12, jb_0_10, jb_1_10, jb_2_10, jb_3_10, jb_4_10, jb_5_10, jb_6_10, jb_7_10, jb_8_10, jb_9_10, jb_0_211, jb_1_211, jb_2_211, jb_3_211, jb_4_211, jb_5_211, jb_6_211, jb_7_211, jb_8_211, jb_9_211, jb_10_211, jb_11_211, jb_12_211, hs2, hI2.2.1, hI2.lr, rgR, c4, p2 (by omega : nW ≤ 10), nI_les]
    exact hQ H2 hF2
  · intro i hi hw H2 o5 hF2
    have hI2 := hI.of hF2 (by decide) (by decide) (by decide) (by decide)
    have hs2 := hF2.shp
    rw [forN_succ] at hw
    generalize forN (chF c T (st.getD 8 0)) i (-2) = best at hw ⊢
    have sk : ∀ (v : Int32) (o5 : Option Value) H3, Fg [76, 77] [(68, 22)] H H3 → chF c T (st.getD 8 0) i best = v → Wp scr (d + 6) 263 97 [some (.ref 68), some (.int (nI m)), some (.int v), some (.int (nI i)), o5] [] H3 Q := by
      intro v o5 H3 hF3 e
      simp only [w263_97, w263_100, nI_1]
      rw [← e]
      exact hw H3 o5 hF3
    have go : ∀ x5 : Int32, nI i &&& st.getD 8 0 = 0 → mBet c (nI i) best = true → Wp scr (d + 6) 263 77 [some (.ref 68), some (.int (nI m)), some (.int best), some (.int (nI i)), some (.int x5)] [] H2 Q := by
      intro x5 h1 h2
      simp only [w263_77, w263_78, w263_79, w263_80, w263_81, rc_68 hs2, true_and]
      refine m_goOver' hI2 hm (fun H3 hF3 a3 => ?_)
      have hI3 := hI2.of hF3 (by decide) (by decide) (by decide) (by decide)
      have hs3 := hF3.shp
      have hF4 := hF2.trans hF3
      have eT : T i = decide (dbt n (daysM R (allU nU) n nW nG nU m (wOr st 0 (nI i))) = 0) := by rw [← hT]; rfl
      simp (maxDischargeDepth := 12) only [w263_0, w263_2, w263_3, w263_4, w263_6, w263_7, w263_8, w263_11, w263_12, w263_13, w263_14, w263_17, w263_18, w263_19, w263_22, w263_24, w263_25, w263_26, w263_29, w263_32, w263_33, w263_36, w263_37, w263_40, w263_41, w263_42, w263_45, w263_46, w263_47, w263_50, w263_51, w263_53, w263_55, w263_58, w263_60, w263_63, w263_64, w263_67, w263_68, w263_71, w263_74, w263_78, w263_79, w263_80, w263_81, w263_84, w263_85, w263_86, w263_89, w263_92, w263_95, w263_96, w263_100, w263_103, w263_104, oK_some, cont_int, cont_intS, cont_none, cont_noneS, cont_long, cont_longS, true_and, and_true, false_and, and_false, true_implies, false_implies, not_true_eq_false, not_false_eq_true, eq_self, or_true, true_or, Option.isSome_some, hpf_length, hpa_length, bI_eq0, fi_hpa, fl_hpa, ar_hpf, fi_hpf_ne, fl_hpf_ne, ar_hpa_ne, hpa_hpa, hpf_hpf, nI_1, two_ne, fokZ, implies_true, Nat.reduceEqDiff, g_68_15, ga_71, gn_71, sa_71, ae_71, g_68_17, ga_73, gn_73, sa_73, ae_73, rc_68, g_68_24, ga_77, gn_77, sa_77, ae_77, kl_0, kl_1, kl_2, kl_3, kl_4, kl_5, kl_6, kl_7, kl_8, kl_9, kl_10, kl_11, kl_12, jb_0_10, jb_1_10, jb_2_10, jb_3_10, jb_4_10, jb_5_10, jb_6_10, jb_7_10, jb_8_10, jb_9_10, jb_0_211, jb_1_211, jb_2_211, jb_3_211, jb_4_211, jb_5_211, jb_6_211, jb_7_211, jb_8_211, jb_9_211, jb_10_211, jb_11_211, jb_12_211, hF3.len, hs3, m_dbtT hI3, a3]
      by_cases hz : dbt n (daysM R (allU nU) n nW nG nU m (wOr st 0 (nI i))) = 0
      · simp only [hz, oK_some, cont_int, cont_intS, cont_none, cont_noneS, cont_long, cont_longS, true_and, and_true, false_and, and_false, true_implies, false_implies, not_true_eq_false, not_false_eq_true, eq_self, or_true, true_or, Option.isSome_some, hpf_length, hpa_length, bI_eq0, fi_hpa, fl_hpa, ar_hpf, fi_hpf_ne, fl_hpf_ne, ar_hpa_ne, hpa_hpa, hpf_hpf, nI_1, two_ne, fokZ, implies_true, Nat.reduceEqDiff]
        refine sk _ _ H3 hF4 ?_
        unfold chF
        rw [if_pos h1, if_pos h2, if_pos (by rw [eT]; exact decide_eq_true hz)]
      · simp only [hz, oK_some, cont_int, cont_intS, cont_none, cont_noneS, cont_long, cont_longS, true_and, and_true, false_and, and_false, true_implies, false_implies, not_true_eq_false, not_false_eq_true, eq_self, or_true, true_or, Option.isSome_some, hpf_length, hpa_length, bI_eq0, fi_hpa, fl_hpa, ar_hpf, fi_hpf_ne, fl_hpf_ne, ar_hpa_ne, hpa_hpa, hpf_hpf, nI_1, two_ne, fokZ, implies_true, Nat.reduceEqDiff]
        refine sk _ _ H3 hF4 ?_
        unfold chF
        rw [if_pos h1, if_pos h2, if_neg (by rw [eT]; simpa using hz)]
    rw [w263_5]
    simp (maxDischargeDepth := 12) only [w263_0, w263_2, w263_3, w263_4, w263_6, w263_7, w263_8, w263_11, w263_12, w263_13, w263_14, w263_17, w263_18, w263_19, w263_22, w263_24, w263_25, w263_26, w263_29, w263_32, w263_33, w263_36, w263_37, w263_40, w263_41, w263_42, w263_45, w263_46, w263_47, w263_50, w263_51, w263_53, w263_55, w263_58, w263_60, w263_63, w263_64, w263_67, w263_68, w263_71, w263_74, w263_78, w263_79, w263_80, w263_81, w263_84, w263_85, w263_86, w263_89, w263_92, w263_95, w263_96, w263_100, w263_103, w263_104, oK_some, cont_int, cont_intS, cont_none, cont_noneS, cont_long, cont_longS, true_and, and_true, false_and, and_false, true_implies, false_implies, not_true_eq_false, not_false_eq_true, eq_self, or_true, true_or, Option.isSome_some, hpf_length, hpa_length, bI_eq0, fi_hpa, fl_hpa, ar_hpf, fi_hpf_ne, fl_hpf_ne, ar_hpa_ne, hpa_hpa, hpf_hpf, nI_1, two_ne, fokZ, implies_true, Nat.reduceEqDiff, g_68_15, ga_71, gn_71, sa_71, ae_71, g_68_17, ga_73, gn_73, sa_73, ae_73, rc_68, g_68_24, ga_77, gn_77, sa_77, ae_77, kl_0, kl_1, kl_2, kl_3, kl_4, kl_5, kl_6, kl_7, kl_8, kl_9, kl_10, kl_11, kl_12, jb_0_10, jb_1_10, jb_2_10, jb_3_10, jb_4_10, jb_5_10, jb_6_10, jb_7_10, jb_8_10, jb_9_10, jb_0_211, jb_1_211, jb_2_211, jb_3_211, jb_4_211, jb_5_211, jb_6_211, jb_7_211, jb_8_211, jb_9_211, jb_10_211, jb_11_211, jb_12_211, hs2, hI2.2.1, hI2.2.2.1, hI2.l, hI2.lr, jb_8_10, rgR, c4, p2 (by omega : nW ≤ 10), nI_lef hi (by omega : 2 ^ nW < 2147483648), m_costOfWalls hI2, hci, m_ones]
    by_cases h1 : nI i &&& st.getD 8 0 = 0
    · simp only [h1, oK_some, cont_int, cont_intS, cont_none, cont_noneS, cont_long, cont_longS, true_and, and_true, false_and, and_false, true_implies, false_implies, not_true_eq_false, not_false_eq_true, eq_self, or_true, true_or, Option.isSome_some, hpf_length, hpa_length, bI_eq0, fi_hpa, fl_hpa, ar_hpf, fi_hpf_ne, fl_hpf_ne, ar_hpa_ne, hpa_hpa, hpf_hpf, nI_1, two_ne, fokZ, implies_true, Nat.reduceEqDiff]
      have skb : mBet c (nI i) best = false → chF c T (st.getD 8 0) i best = best := fun h => by unfold chF; rw [if_pos h1, h]; simp
      by_cases h2 : best < 0
      · have h2' : ¬ 0 ≤ best := by rw [Int32.not_le]; exact h2
        have hmb : mBet c (nI i) best = true := by unfold mBet mor; rw [if_pos h2]; exact decide_eq_true ⟨by decide, fun q => absurd q (by decide)⟩
        simp only [h2', oK_some, cont_int, cont_intS, cont_none, cont_noneS, cont_long, cont_longS, true_and, and_true, false_and, and_false, true_implies, false_implies, not_true_eq_false, not_false_eq_true, eq_self, or_true, true_or, Option.isSome_some, hpf_length, hpa_length, bI_eq0, fi_hpa, fl_hpa, ar_hpf, fi_hpf_ne, fl_hpf_ne, ar_hpa_ne, hpa_hpa, hpf_hpf, nI_1, two_ne, fokZ, implies_true, Nat.reduceEqDiff, show ((0 : Int32) < -1) = False from eq_false (by decide), show ((-1 : Int32) = 0) = False from eq_false (by decide)]
        exact go _ h1 hmb
      · have h2' : 0 ≤ best := by rw [← Int32.not_lt]; exact h2
        have em : mor c (nI i) best = c (nI i) - c best := by unfold mor; rw [if_neg h2]
        simp only [h2', oK_some, cont_int, cont_intS, cont_none, cont_noneS, cont_long, cont_longS, true_and, and_true, false_and, and_false, true_implies, false_implies, not_true_eq_false, not_false_eq_true, eq_self, or_true, true_or, Option.isSome_some, hpf_length, hpa_length, bI_eq0, fi_hpa, fl_hpa, ar_hpf, fi_hpf_ne, fl_hpf_ne, ar_hpa_ne, hpa_hpa, hpf_hpf, nI_1, two_ne, fokZ, implies_true, Nat.reduceEqDiff]
        rw [← em]
        by_cases h3 : 0 < mor c (nI i) best
        · simp only [h3, oK_some, cont_int, cont_intS, cont_none, cont_noneS, cont_long, cont_longS, true_and, and_true, false_and, and_false, true_implies, false_implies, not_true_eq_false, not_false_eq_true, eq_self, or_true, true_or, Option.isSome_some, hpf_length, hpa_length, bI_eq0, fi_hpa, fl_hpa, ar_hpf, fi_hpf_ne, fl_hpf_ne, ar_hpa_ne, hpa_hpa, hpf_hpf, nI_1, two_ne, fokZ, implies_true, Nat.reduceEqDiff]
          exact sk _ _ H2 hF2 (skb (by unfold mBet; simp [h3]))
        · by_cases h4 : mor c (nI i) best = 0
          · by_cases h5 : ones (nI i) < ones best
            · simp only [h3, h4, h5, oK_some, cont_int, cont_intS, cont_none, cont_noneS, cont_long, cont_longS, true_and, and_true, false_and, and_false, true_implies, false_implies, not_true_eq_false, not_false_eq_true, eq_self, or_true, true_or, Option.isSome_some, hpf_length, hpa_length, bI_eq0, fi_hpa, fl_hpa, ar_hpf, fi_hpf_ne, fl_hpf_ne, ar_hpa_ne, hpa_hpa, hpf_hpf, nI_1, two_ne, fokZ, implies_true, Nat.reduceEqDiff, Int32.lt_irrefl]
              exact go _ h1 (by unfold mBet; simp [h4, h5])
            · simp only [h3, h4, h5, oK_some, cont_int, cont_intS, cont_none, cont_noneS, cont_long, cont_longS, true_and, and_true, false_and, and_false, true_implies, false_implies, not_true_eq_false, not_false_eq_true, eq_self, or_true, true_or, Option.isSome_some, hpf_length, hpa_length, bI_eq0, fi_hpa, fl_hpa, ar_hpf, fi_hpf_ne, fl_hpf_ne, ar_hpa_ne, hpa_hpa, hpf_hpf, nI_1, two_ne, fokZ, implies_true, Nat.reduceEqDiff, Int32.lt_irrefl]
              exact sk _ _ H2 hF2 (skb (by unfold mBet; simp [h4, h5]))
          · simp only [h3, h4, oK_some, cont_int, cont_intS, cont_none, cont_noneS, cont_long, cont_longS, true_and, and_true, false_and, and_false, true_implies, false_implies, not_true_eq_false, not_false_eq_true, eq_self, or_true, true_or, Option.isSome_some, hpf_length, hpa_length, bI_eq0, fi_hpa, fl_hpa, ar_hpf, fi_hpf_ne, fl_hpf_ne, ar_hpa_ne, hpa_hpa, hpf_hpf, nI_1, two_ne, fokZ, implies_true, Nat.reduceEqDiff]
            exact go _ h1 (by unfold mBet; simp [h3, h4])
    · simp only [h1, oK_some, cont_int, cont_intS, cont_none, cont_noneS, cont_long, cont_longS, true_and, and_true, false_and, and_false, true_implies, false_implies, not_true_eq_false, not_false_eq_true, eq_self, or_true, true_or, Option.isSome_some, hpf_length, hpa_length, bI_eq0, fi_hpa, fl_hpa, ar_hpf, fi_hpf_ne, fl_hpf_ne, ar_hpa_ne, hpa_hpa, hpf_hpf, nI_1, two_ne, fokZ, implies_true, Nat.reduceEqDiff]
      exact sk _ _ H2 hF2 (by unfold chF; rw [if_neg h1])
theorem M_feign {m : Int32} (hI : MIv H R st n nS nW nG nU nN) (hQ : MR H Q (if whyF (decide (0 < n)) m 40 = 0 then (if sgB R st n nW nG nU m.toNatClampNeg ((1 <<< (nI n &&& 31)) - 1) < 0 then -2 else forN (cosF R (sgB R st n nW nG nU m.toNatClampNeg ((1 <<< (nI n &&& 31)) - 1)) 94 4) nG 0) else -1) (whyF (decide (0 < n)) m 40)) : Wp scr (d + 7) 259 0 [some (.ref 68), some (.int m), none, none] [] H Q := by
  have hS := hI.shp
  have hg := gd_fg hS
  have hI1 := hI.q hg
  have hs1 := hI1.shp
  have hM1 : Mn (ar (gd H) 71) n nS nW nG nU nN := by rw [hI1.2.1]; exact hI1.mn
  have h14 := hI1.2.2.2.2
  have e73 := hI1.2.2.1
  have rgR : ∀ j, R.getD j 0 = rg R j := fun _ => rfl
  have l73 := hI1.l
  obtain ⟨c2, c3, c4, c5, c6, c7, b2, b3, b4, b5, b6, b7⟩ := hI1.mn
  simp (maxDischargeDepth := 12) only [w259_0, w259_1, w259_4, w259_5, w259_6, w259_9, w259_10, w259_12, w259_15, w259_16, w259_17, w259_20, w259_21, w259_22, w259_25, w259_26, w259_27, w259_28, w259_31, w259_32, w259_35, w259_36, w259_37, w259_40, w259_42, w259_45, w259_46, w259_47, w259_50, oK_some, cont_int, cont_intS, cont_none, cont_noneS, cont_long, cont_longS, true_and, and_true, false_and, and_false, true_implies, false_implies, not_true_eq_false, not_false_eq_true, eq_self, or_true, true_or, Option.isSome_some, hpf_length, hpa_length, bI_eq0, fi_hpa, fl_hpa, ar_hpf, fi_hpf_ne, fl_hpf_ne, ar_hpa_ne, hpa_hpa, hpf_hpf, nI_1, two_ne, fokZ, implies_true, Nat.reduceEqDiff, rc_68, g_68_14, sf_68_14, fe_68_14, hS, m_good, gd_len, hs1, h14, e73, l73, hI1.2.1, rgR, hI1.lr, m_no, decide_eq_false_iff_not, gn_71, jb_7_10, jb_8_10, jb_9_10, m_why, m_allRows hI1]
  by_cases hw : whyF (decide (0 < n)) m 40 = 0
  · simp only [hw, if_true] at hQ
    simp only [hw, oK_some, cont_int, cont_intS, cont_none, cont_noneS, cont_long, cont_longS, true_and, and_true, false_and, and_false, true_implies, false_implies, not_true_eq_false, not_false_eq_true, eq_self, or_true, true_or, Option.isSome_some, hpf_length, hpa_length, bI_eq0, fi_hpa, fl_hpa, ar_hpf, fi_hpf_ne, fl_hpf_ne, ar_hpa_ne, hpa_hpa, hpf_hpf, nI_1, two_ne, fokZ, implies_true, Nat.reduceEqDiff]
    obtain ⟨hk, hm⟩ := whyF_0 hw
    obtain ⟨em, lm⟩ := of_in (n := 40) hm (by omega)
    rw [em]
    refine m_signsFor hI1 (by omega) (fun H2 hF2 => ?_)
    have hI2 := hI1.of hF2 (by decide) (by decide) (by decide) (by decide)
    have hs2 := hF2.shp
    simp (maxDischargeDepth := 12) only [w259_0, w259_1, w259_4, w259_5, w259_6, w259_9, w259_10, w259_12, w259_15, w259_16, w259_17, w259_20, w259_21, w259_22, w259_25, w259_26, w259_27, w259_28, w259_31, w259_32, w259_35, w259_36, w259_37, w259_40, w259_42, w259_45, w259_46, w259_47, w259_50, oK_some, cont_int, cont_intS, cont_none, cont_noneS, cont_long, cont_longS, true_and, and_true, false_and, and_false, true_implies, false_implies, not_true_eq_false, not_false_eq_true, eq_self, or_true, true_or, Option.isSome_some, hpf_length, hpa_length, bI_eq0, fi_hpa, fl_hpa, ar_hpf, fi_hpf_ne, fl_hpf_ne, ar_hpa_ne, hpa_hpa, hpf_hpf, nI_1, two_ne, fokZ, implies_true, Nat.reduceEqDiff, rc_68, g_68_14, sf_68_14, fe_68_14, hF2.len, hs2, m_costOf hI2]
    generalize sgB R st n nW nG nU m.toNatClampNeg ((1 <<< (nI n &&& 31)) - 1) = B at hQ ⊢
    by_cases hb : B < 0
    · have hb' : ¬ 0 ≤ B := by rw [Int32.not_le]; exact hb
      rw [if_pos hb] at hQ
      simp only [hb', oK_some, cont_int, cont_intS, cont_none, cont_noneS, cont_long, cont_longS, true_and, and_true, false_and, and_false, true_implies, false_implies, not_true_eq_false, not_false_eq_true, eq_self, or_true, true_or, Option.isSome_some, hpf_length, hpa_length, bI_eq0, fi_hpa, fl_hpa, ar_hpf, fi_hpf_ne, fl_hpf_ne, ar_hpa_ne, hpa_hpa, hpf_hpf, nI_1, two_ne, fokZ, implies_true, Nat.reduceEqDiff]
      exact mr_ok hS hF2 (by decide) (by decide) (by decide) (by decide) (by decide) hQ
    · have hb' : 0 ≤ B := by rw [← Int32.not_lt]; exact hb
      rw [if_neg hb] at hQ
      simp only [hb', oK_some, cont_int, cont_intS, cont_none, cont_noneS, cont_long, cont_longS, true_and, and_true, false_and, and_false, true_implies, false_implies, not_true_eq_false, not_false_eq_true, eq_self, or_true, true_or, Option.isSome_some, hpf_length, hpa_length, bI_eq0, fi_hpa, fl_hpa, ar_hpf, fi_hpf_ne, fl_hpf_ne, ar_hpa_ne, hpa_hpa, hpf_hpf, nI_1, two_ne, fokZ, implies_true, Nat.reduceEqDiff]
      exact mr_ok hS hF2 (by decide) (by decide) (by decide) (by decide) (by decide) hQ
  · simp only [hw, if_false] at hQ
    simp only [hw, oK_some, cont_int, cont_intS, cont_none, cont_noneS, cont_long, cont_longS, true_and, and_true, false_and, and_false, true_implies, false_implies, not_true_eq_false, not_false_eq_true, eq_self, or_true, true_or, Option.isSome_some, hpf_length, hpa_length, bI_eq0, fi_hpa, fl_hpa, ar_hpf, fi_hpf_ne, fl_hpf_ne, ar_hpa_ne, hpa_hpa, hpf_hpf, nI_1, two_ne, fokZ, implies_true, Nat.reduceEqDiff]
    exact mr_no hS hg (gd_0 hS) hQ
theorem M_feignSigns {m : Int32} (hI : MIv H R st n nS nW nG nU nN) (hQ : MR H Q (if whyF (decide (0 < n)) m 40 = 0 then sgB R st n nW nG nU m.toNatClampNeg ((1 <<< (nI n &&& 31)) - 1) else -1) (whyF (decide (0 < n)) m 40)) : Wp scr (d + 7) 260 0 [some (.ref 68), some (.int m), none] [] H Q := by
  have hS := hI.shp
  have hg := gd_fg hS
  have hI1 := hI.q hg
  have hs1 := hI1.shp
  have hM1 : Mn (ar (gd H) 71) n nS nW nG nU nN := by rw [hI1.2.1]; exact hI1.mn
  have h14 := hI1.2.2.2.2
  have e73 := hI1.2.2.1
  have rgR : ∀ j, R.getD j 0 = rg R j := fun _ => rfl
  have l73 := hI1.l
  obtain ⟨c2, c3, c4, c5, c6, c7, b2, b3, b4, b5, b6, b7⟩ := hI1.mn
  simp (maxDischargeDepth := 12) only [w260_0, w260_1, w260_4, w260_5, w260_6, w260_9, w260_10, w260_12, w260_15, w260_16, w260_17, w260_20, w260_21, w260_22, w260_25, w260_28, w260_29, w260_30, w260_33, w260_34, w260_37, oK_some, cont_int, cont_intS, cont_none, cont_noneS, cont_long, cont_longS, true_and, and_true, false_and, and_false, true_implies, false_implies, not_true_eq_false, not_false_eq_true, eq_self, or_true, true_or, Option.isSome_some, hpf_length, hpa_length, bI_eq0, fi_hpa, fl_hpa, ar_hpf, fi_hpf_ne, fl_hpf_ne, ar_hpa_ne, hpa_hpa, hpf_hpf, nI_1, two_ne, fokZ, implies_true, Nat.reduceEqDiff, rc_68, g_68_14, sf_68_14, fe_68_14, hS, m_good, gd_len, hs1, h14, e73, l73, hI1.2.1, rgR, hI1.lr, m_no, decide_eq_false_iff_not, gn_71, jb_7_10, jb_8_10, jb_9_10, m_why, m_allRows hI1]
  by_cases hw : whyF (decide (0 < n)) m 40 = 0
  · simp only [hw, if_true] at hQ
    simp only [hw, oK_some, cont_int, cont_intS, cont_none, cont_noneS, cont_long, cont_longS, true_and, and_true, false_and, and_false, true_implies, false_implies, not_true_eq_false, not_false_eq_true, eq_self, or_true, true_or, Option.isSome_some, hpf_length, hpa_length, bI_eq0, fi_hpa, fl_hpa, ar_hpf, fi_hpf_ne, fl_hpf_ne, ar_hpa_ne, hpa_hpa, hpf_hpf, nI_1, two_ne, fokZ, implies_true, Nat.reduceEqDiff]
    obtain ⟨hk, hm⟩ := whyF_0 hw
    obtain ⟨em, lm⟩ := of_in (n := 40) hm (by omega)
    rw [em]
    refine m_signsFor hI1 (by omega) (fun H2 hF2 => ?_)
    simp (maxDischargeDepth := 12) only [w260_0, w260_1, w260_4, w260_5, w260_6, w260_9, w260_10, w260_12, w260_15, w260_16, w260_17, w260_20, w260_21, w260_22, w260_25, w260_28, w260_29, w260_30, w260_33, w260_34, w260_37, oK_some, cont_int, cont_intS, cont_none, cont_noneS, cont_long, cont_longS, true_and, and_true, false_and, and_false, true_implies, false_implies, not_true_eq_false, not_false_eq_true, eq_self, or_true, true_or, Option.isSome_some, hpf_length, hpa_length, bI_eq0, fi_hpa, fl_hpa, ar_hpf, fi_hpf_ne, fl_hpf_ne, ar_hpa_ne, hpa_hpa, hpf_hpf, nI_1, two_ne, fokZ, implies_true, Nat.reduceEqDiff, rc_68, g_68_14, sf_68_14, fe_68_14, hF2.len]
    exact mr_ok hS hF2 (by decide) (by decide) (by decide) (by decide) (by decide) hQ
  · simp only [hw, if_false] at hQ
    simp only [hw, oK_some, cont_int, cont_intS, cont_none, cont_noneS, cont_long, cont_longS, true_and, and_true, false_and, and_false, true_implies, false_implies, not_true_eq_false, not_false_eq_true, eq_self, or_true, true_or, Option.isSome_some, hpf_length, hpa_length, bI_eq0, fi_hpa, fl_hpa, ar_hpf, fi_hpf_ne, fl_hpf_ne, ar_hpa_ne, hpa_hpa, hpf_hpf, nI_1, two_ne, fokZ, implies_true, Nat.reduceEqDiff]
    exact mr_no hS hg (gd_0 hS) hQ
theorem M_feignFor {k m : Int32} (hI : MIv H R st n nS nW nG nU nN) (hQ : MR H Q (if whyF (decide (0 ≤ k ∧ k < nI n)) m 40 = 0 then (if sgB R st n nW nG nU m.toNatClampNeg (1 <<< (k &&& 31)) < 0 then -2 else forN (cosF R (sgB R st n nW nG nU m.toNatClampNeg (1 <<< (k &&& 31))) 94 4) nG 0) else -1) (whyF (decide (0 ≤ k ∧ k < nI n)) m 40)) : Wp scr (d + 7) 261 0 [some (.ref 68), some (.int k), some (.int m), none, none] [] H Q := by
  have hS := hI.shp
  have hg := gd_fg hS
  have hI1 := hI.q hg
  have hs1 := hI1.shp
  have hM1 : Mn (ar (gd H) 71) n nS nW nG nU nN := by rw [hI1.2.1]; exact hI1.mn
  have h14 := hI1.2.2.2.2
  have e73 := hI1.2.2.1
  have rgR : ∀ j, R.getD j 0 = rg R j := fun _ => rfl
  have l73 := hI1.l
  obtain ⟨c2, c3, c4, c5, c6, c7, b2, b3, b4, b5, b6, b7⟩ := hI1.mn
  simp (maxDischargeDepth := 12) only [w261_0, w261_1, w261_4, w261_5, w261_6, w261_7, w261_10, w261_11, w261_13, w261_16, w261_17, w261_18, w261_21, w261_22, w261_23, w261_26, w261_27, w261_28, w261_29, w261_30, w261_31, w261_32, w261_35, w261_37, w261_39, w261_42, w261_44, w261_47, w261_48, w261_50, w261_53, oK_some, cont_int, cont_intS, cont_none, cont_noneS, cont_long, cont_longS, true_and, and_true, false_and, and_false, true_implies, false_implies, not_true_eq_false, not_false_eq_true, eq_self, or_true, true_or, Option.isSome_some, hpf_length, hpa_length, bI_eq0, fi_hpa, fl_hpa, ar_hpf, fi_hpf_ne, fl_hpf_ne, ar_hpa_ne, hpa_hpa, hpf_hpf, nI_1, two_ne, fokZ, implies_true, Nat.reduceEqDiff, rc_68, hS, m_good, gd_len, hs1, h14, e73, l73, hI1.2.1, rgR, hI1.lr, m_no, decide_eq_false_iff_not, gn_71, jb_7_10, jb_8_10, jb_9_10, m_why, m_isRow hI1]
  by_cases hw : whyF (decide (0 ≤ k ∧ k < nI n)) m 40 = 0
  · simp only [hw, if_true] at hQ
    simp only [hw, oK_some, cont_int, cont_intS, cont_none, cont_noneS, cont_long, cont_longS, true_and, and_true, false_and, and_false, true_implies, false_implies, not_true_eq_false, not_false_eq_true, eq_self, or_true, true_or, Option.isSome_some, hpf_length, hpa_length, bI_eq0, fi_hpa, fl_hpa, ar_hpf, fi_hpf_ne, fl_hpf_ne, ar_hpa_ne, hpa_hpa, hpf_hpf, nI_1, two_ne, fokZ, implies_true, Nat.reduceEqDiff]
    obtain ⟨hk, hm⟩ := whyF_0 hw
    obtain ⟨em, lm⟩ := of_in (n := 40) hm (by omega)
    rw [em]
    refine m_signsFor hI1 (by omega) (fun H2 hF2 => ?_)
    have hI2 := hI1.of hF2 (by decide) (by decide) (by decide) (by decide)
    have hs2 := hF2.shp
    simp (maxDischargeDepth := 12) only [w261_0, w261_1, w261_4, w261_5, w261_6, w261_7, w261_10, w261_11, w261_13, w261_16, w261_17, w261_18, w261_21, w261_22, w261_23, w261_26, w261_27, w261_28, w261_29, w261_30, w261_31, w261_32, w261_35, w261_37, w261_39, w261_42, w261_44, w261_47, w261_48, w261_50, w261_53, oK_some, cont_int, cont_intS, cont_none, cont_noneS, cont_long, cont_longS, true_and, and_true, false_and, and_false, true_implies, false_implies, not_true_eq_false, not_false_eq_true, eq_self, or_true, true_or, Option.isSome_some, hpf_length, hpa_length, bI_eq0, fi_hpa, fl_hpa, ar_hpf, fi_hpf_ne, fl_hpf_ne, ar_hpa_ne, hpa_hpa, hpf_hpf, nI_1, two_ne, fokZ, implies_true, Nat.reduceEqDiff, rc_68, hF2.len, hs2, m_costOf hI2]
    generalize sgB R st n nW nG nU m.toNatClampNeg (1 <<< (k &&& 31)) = B at hQ ⊢
    by_cases hb : B < 0
    · have hb' : ¬ 0 ≤ B := by rw [Int32.not_le]; exact hb
      rw [if_pos hb] at hQ
      simp only [hb', oK_some, cont_int, cont_intS, cont_none, cont_noneS, cont_long, cont_longS, true_and, and_true, false_and, and_false, true_implies, false_implies, not_true_eq_false, not_false_eq_true, eq_self, or_true, true_or, Option.isSome_some, hpf_length, hpa_length, bI_eq0, fi_hpa, fl_hpa, ar_hpf, fi_hpf_ne, fl_hpf_ne, ar_hpa_ne, hpa_hpa, hpf_hpf, nI_1, two_ne, fokZ, implies_true, Nat.reduceEqDiff]
      exact mr_ok hS hF2 (by decide) (by decide) (by decide) (by decide) (by decide) hQ
    · have hb' : 0 ≤ B := by rw [← Int32.not_lt]; exact hb
      rw [if_neg hb] at hQ
      simp only [hb', oK_some, cont_int, cont_intS, cont_none, cont_noneS, cont_long, cont_longS, true_and, and_true, false_and, and_false, true_implies, false_implies, not_true_eq_false, not_false_eq_true, eq_self, or_true, true_or, Option.isSome_some, hpf_length, hpa_length, bI_eq0, fi_hpa, fl_hpa, ar_hpf, fi_hpf_ne, fl_hpf_ne, ar_hpa_ne, hpa_hpa, hpf_hpf, nI_1, two_ne, fokZ, implies_true, Nat.reduceEqDiff]
      exact mr_ok hS hF2 (by decide) (by decide) (by decide) (by decide) (by decide) hQ
  · simp only [hw, if_false] at hQ
    simp only [hw, oK_some, cont_int, cont_intS, cont_none, cont_noneS, cont_long, cont_longS, true_and, and_true, false_and, and_false, true_implies, false_implies, not_true_eq_false, not_false_eq_true, eq_self, or_true, true_or, Option.isSome_some, hpf_length, hpa_length, bI_eq0, fi_hpa, fl_hpa, ar_hpf, fi_hpf_ne, fl_hpf_ne, ar_hpa_ne, hpa_hpa, hpf_hpf, nI_1, two_ne, fokZ, implies_true, Nat.reduceEqDiff]
    exact mr_no hS hg (gd_0 hS) hQ
theorem M_walls {m : Int32} (hI : MIv H R st n nS nW nG nU nN) (hQ : MR H Q (if whyF (decide (0 < n)) m 40 = 0 then (if waB R st n nW nG nU m.toNatClampNeg < 0 then -2 else forN (cosF R (waB R st n nW nG nU m.toNatClampNeg) 79 3) nW 0) else -1) (whyF (decide (0 < n)) m 40)) : Wp scr (d + 7) 264 0 [some (.ref 68), some (.int m), none, none] [] H Q := by
  have hS := hI.shp
  have hg := gd_fg hS
  have hI1 := hI.q hg
  have hs1 := hI1.shp
  have hM1 : Mn (ar (gd H) 71) n nS nW nG nU nN := by rw [hI1.2.1]; exact hI1.mn
  have h14 := hI1.2.2.2.2
  have e73 := hI1.2.2.1
  have rgR : ∀ j, R.getD j 0 = rg R j := fun _ => rfl
  have l73 := hI1.l
  obtain ⟨c2, c3, c4, c5, c6, c7, b2, b3, b4, b5, b6, b7⟩ := hI1.mn
  simp (maxDischargeDepth := 12) only [w264_0, w264_1, w264_4, w264_5, w264_6, w264_9, w264_10, w264_12, w264_15, w264_16, w264_17, w264_20, w264_21, w264_22, w264_25, w264_26, w264_27, w264_28, w264_31, w264_32, w264_33, w264_36, w264_38, w264_41, w264_42, w264_43, w264_46, oK_some, cont_int, cont_intS, cont_none, cont_noneS, cont_long, cont_longS, true_and, and_true, false_and, and_false, true_implies, false_implies, not_true_eq_false, not_false_eq_true, eq_self, or_true, true_or, Option.isSome_some, hpf_length, hpa_length, bI_eq0, fi_hpa, fl_hpa, ar_hpf, fi_hpf_ne, fl_hpf_ne, ar_hpa_ne, hpa_hpa, hpf_hpf, nI_1, two_ne, fokZ, implies_true, Nat.reduceEqDiff, rc_68, g_68_14, sf_68_14, fe_68_14, hS, m_good, gd_len, hs1, h14, e73, l73, hI1.2.1, rgR, hI1.lr, m_no, decide_eq_false_iff_not, gn_71, jb_7_10, jb_8_10, jb_9_10, m_why]
  by_cases hw : whyF (decide (0 < n)) m 40 = 0
  · simp only [hw, if_true] at hQ
    simp only [hw, oK_some, cont_int, cont_intS, cont_none, cont_noneS, cont_long, cont_longS, true_and, and_true, false_and, and_false, true_implies, false_implies, not_true_eq_false, not_false_eq_true, eq_self, or_true, true_or, Option.isSome_some, hpf_length, hpa_length, bI_eq0, fi_hpa, fl_hpa, ar_hpf, fi_hpf_ne, fl_hpf_ne, ar_hpa_ne, hpa_hpa, hpf_hpf, nI_1, two_ne, fokZ, implies_true, Nat.reduceEqDiff]
    obtain ⟨hk, hm⟩ := whyF_0 hw
    obtain ⟨em, lm⟩ := of_in (n := 40) hm (by omega)
    rw [em]
    refine m_wallsFor hI1 (by omega) (fun H2 hF2 => ?_)
    have hI2 := hI1.of hF2 (by decide) (by decide) (by decide) (by decide)
    have hs2 := hF2.shp
    simp (maxDischargeDepth := 12) only [w264_0, w264_1, w264_4, w264_5, w264_6, w264_9, w264_10, w264_12, w264_15, w264_16, w264_17, w264_20, w264_21, w264_22, w264_25, w264_26, w264_27, w264_28, w264_31, w264_32, w264_33, w264_36, w264_38, w264_41, w264_42, w264_43, w264_46, oK_some, cont_int, cont_intS, cont_none, cont_noneS, cont_long, cont_longS, true_and, and_true, false_and, and_false, true_implies, false_implies, not_true_eq_false, not_false_eq_true, eq_self, or_true, true_or, Option.isSome_some, hpf_length, hpa_length, bI_eq0, fi_hpa, fl_hpa, ar_hpf, fi_hpf_ne, fl_hpf_ne, ar_hpa_ne, hpa_hpa, hpf_hpf, nI_1, two_ne, fokZ, implies_true, Nat.reduceEqDiff, rc_68, g_68_14, sf_68_14, fe_68_14, hF2.len, hs2, m_costOfWalls hI2]
    generalize waB R st n nW nG nU m.toNatClampNeg = B at hQ ⊢
    by_cases hb : B < 0
    · have hb' : ¬ 0 ≤ B := by rw [Int32.not_le]; exact hb
      rw [if_pos hb] at hQ
      simp only [hb', oK_some, cont_int, cont_intS, cont_none, cont_noneS, cont_long, cont_longS, true_and, and_true, false_and, and_false, true_implies, false_implies, not_true_eq_false, not_false_eq_true, eq_self, or_true, true_or, Option.isSome_some, hpf_length, hpa_length, bI_eq0, fi_hpa, fl_hpa, ar_hpf, fi_hpf_ne, fl_hpf_ne, ar_hpa_ne, hpa_hpa, hpf_hpf, nI_1, two_ne, fokZ, implies_true, Nat.reduceEqDiff]
      exact mr_ok hS hF2 (by decide) (by decide) (by decide) (by decide) (by decide) hQ
    · have hb' : 0 ≤ B := by rw [← Int32.not_lt]; exact hb
      rw [if_neg hb] at hQ
      simp only [hb', oK_some, cont_int, cont_intS, cont_none, cont_noneS, cont_long, cont_longS, true_and, and_true, false_and, and_false, true_implies, false_implies, not_true_eq_false, not_false_eq_true, eq_self, or_true, true_or, Option.isSome_some, hpf_length, hpa_length, bI_eq0, fi_hpa, fl_hpa, ar_hpf, fi_hpf_ne, fl_hpf_ne, ar_hpa_ne, hpa_hpa, hpf_hpf, nI_1, two_ne, fokZ, implies_true, Nat.reduceEqDiff]
      exact mr_ok hS hF2 (by decide) (by decide) (by decide) (by decide) (by decide) hQ
  · simp only [hw, if_false] at hQ
    simp only [hw, oK_some, cont_int, cont_intS, cont_none, cont_noneS, cont_long, cont_longS, true_and, and_true, false_and, and_false, true_implies, false_implies, not_true_eq_false, not_false_eq_true, eq_self, or_true, true_or, Option.isSome_some, hpf_length, hpa_length, bI_eq0, fi_hpa, fl_hpa, ar_hpf, fi_hpf_ne, fl_hpf_ne, ar_hpa_ne, hpa_hpa, hpf_hpf, nI_1, two_ne, fokZ, implies_true, Nat.reduceEqDiff]
    exact mr_no hS hg (gd_0 hS) hQ
theorem M_wallsUp {m : Int32} (hI : MIv H R st n nS nW nG nU nN) (hQ : MR H Q (if whyF (decide (0 < n)) m 40 = 0 then waB R st n nW nG nU m.toNatClampNeg else -1) (whyF (decide (0 < n)) m 40)) : Wp scr (d + 7) 265 0 [some (.ref 68), some (.int m), none] [] H Q := by
  have hS := hI.shp
  have hg := gd_fg hS
  have hI1 := hI.q hg
  have hs1 := hI1.shp
  have hM1 : Mn (ar (gd H) 71) n nS nW nG nU nN := by rw [hI1.2.1]; exact hI1.mn
  have h14 := hI1.2.2.2.2
  have e73 := hI1.2.2.1
  have rgR : ∀ j, R.getD j 0 = rg R j := fun _ => rfl
  have l73 := hI1.l
  obtain ⟨c2, c3, c4, c5, c6, c7, b2, b3, b4, b5, b6, b7⟩ := hI1.mn
  simp (maxDischargeDepth := 12) only [w265_0, w265_1, w265_4, w265_5, w265_6, w265_9, w265_10, w265_12, w265_15, w265_16, w265_17, w265_20, w265_21, w265_22, w265_25, w265_28, w265_29, w265_30, w265_33, oK_some, cont_int, cont_intS, cont_none, cont_noneS, cont_long, cont_longS, true_and, and_true, false_and, and_false, true_implies, false_implies, not_true_eq_false, not_false_eq_true, eq_self, or_true, true_or, Option.isSome_some, hpf_length, hpa_length, bI_eq0, fi_hpa, fl_hpa, ar_hpf, fi_hpf_ne, fl_hpf_ne, ar_hpa_ne, hpa_hpa, hpf_hpf, nI_1, two_ne, fokZ, implies_true, Nat.reduceEqDiff, rc_68, g_68_14, sf_68_14, fe_68_14, hS, m_good, gd_len, hs1, h14, e73, l73, hI1.2.1, rgR, hI1.lr, m_no, decide_eq_false_iff_not, gn_71, jb_7_10, jb_8_10, jb_9_10, m_why]
  by_cases hw : whyF (decide (0 < n)) m 40 = 0
  · simp only [hw, if_true] at hQ
    simp only [hw, oK_some, cont_int, cont_intS, cont_none, cont_noneS, cont_long, cont_longS, true_and, and_true, false_and, and_false, true_implies, false_implies, not_true_eq_false, not_false_eq_true, eq_self, or_true, true_or, Option.isSome_some, hpf_length, hpa_length, bI_eq0, fi_hpa, fl_hpa, ar_hpf, fi_hpf_ne, fl_hpf_ne, ar_hpa_ne, hpa_hpa, hpf_hpf, nI_1, two_ne, fokZ, implies_true, Nat.reduceEqDiff]
    obtain ⟨hk, hm⟩ := whyF_0 hw
    obtain ⟨em, lm⟩ := of_in (n := 40) hm (by omega)
    rw [em]
    refine m_wallsFor hI1 (by omega) (fun H2 hF2 => ?_)
    simp (maxDischargeDepth := 12) only [w265_0, w265_1, w265_4, w265_5, w265_6, w265_9, w265_10, w265_12, w265_15, w265_16, w265_17, w265_20, w265_21, w265_22, w265_25, w265_28, w265_29, w265_30, w265_33, oK_some, cont_int, cont_intS, cont_none, cont_noneS, cont_long, cont_longS, true_and, and_true, false_and, and_false, true_implies, false_implies, not_true_eq_false, not_false_eq_true, eq_self, or_true, true_or, Option.isSome_some, hpf_length, hpa_length, bI_eq0, fi_hpa, fl_hpa, ar_hpf, fi_hpf_ne, fl_hpf_ne, ar_hpa_ne, hpa_hpa, hpf_hpf, nI_1, two_ne, fokZ, implies_true, Nat.reduceEqDiff, rc_68, g_68_14, sf_68_14, fe_68_14, hF2.len]
    exact mr_ok hS hF2 (by decide) (by decide) (by decide) (by decide) (by decide) hQ
  · simp only [hw, if_false] at hQ
    simp only [hw, oK_some, cont_int, cont_intS, cont_none, cont_noneS, cont_long, cont_longS, true_and, and_true, false_and, and_false, true_implies, false_implies, not_true_eq_false, not_false_eq_true, eq_self, or_true, true_or, Option.isSome_some, hpf_length, hpa_length, bI_eq0, fi_hpa, fl_hpa, ar_hpf, fi_hpf_ne, fl_hpf_ne, ar_hpa_ne, hpa_hpa, hpf_hpf, nI_1, two_ne, fokZ, implies_true, Nat.reduceEqDiff]
    exact mr_no hS hg (gd_0 hS) hQ
end MODELA
