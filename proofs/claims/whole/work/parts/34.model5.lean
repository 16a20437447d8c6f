/-! ===== the Model: frame of a query, good, no, isRow, why ===== -/
abbrev SM : List Nat := [76, 77, 78, 79, 80, 81, 82]
abbrev FM : List (Nat × Nat) := [(68, 0), (68, 11), (68, 22), (68, 28), (68, 29), (68, 30), (68, 31), (68, 32), (68, 35), (68, 36), (68, 37), (68, 38), (68, 39)]
/-- what a query of the Model reads: the slope R, the state st -/
def MIv (H : List AC) (R st : List Int32) (n nS nW nG nU nN : Nat) : Prop := Shp H ∧ ar H 71 = R ∧ ar H 73 = st ∧ Mn R n nS nW nG nU nN ∧ fi H 68 14 = bI (decide (0 < n))
section MIv
variable {H H' : List AC} {R st : List Int32} {n nS nW nG nU nN : Nat} {S : List Nat} {F : List (Nat × Nat)}
theorem MIv.of (h : MIv H R st n nS nW nG nU nN) (hF : Fg S F H H') (h71 : 71 ∉ S) (h73 : 73 ∉ S) (h68 : 68 ∉ S) (h14 : (68, 14) ∉ F) : MIv H' R st n nS nW nG nU nN :=
  ⟨hF.shp, (hF.arr h71).trans h.2.1, (hF.arr h73).trans h.2.2.1, h.2.2.2.1, (hF.int h68 h14).trans h.2.2.2.2⟩
theorem MIv.q (h : MIv H R st n nS nW nG nU nN) (hF : Fg SM FM H H') : MIv H' R st n nS nW nG nU nN := h.of hF (by decide) (by decide) (by decide) (by decide)
theorem MIv.shp (h : MIv H R st n nS nW nG nU nN) : Shp H := h.1
theorem MIv.mn (h : MIv H R st n nS nW nG nU nN) : Mn R n nS nW nG nU nN := h.2.2.2.1
theorem MIv.r (h : MIv H R st n nS nW nG nU nN) (j : Nat) : (ar H 71).getD j 0 = rg R j := by rw [h.2.1]; rfl
theorem MIv.l (h : MIv H R st n nS nW nG nU nN) : st.length = 10 := by rw [← h.2.2.1]; exact gn_73 h.1
theorem MIv.lr (h : MIv H R st n nS nW nG nU nN) : R.length = 211 := by rw [← h.2.1]; exact gn_71 h.1
end MIv
/-- a query's end -/
def MR (H : List AC) (Q : Option Value → List AC → Prop) (res tr : Int32) : Prop := ∀ H', Fg SM FM H H' → fi H' 68 0 = 0 → fi H' 68 11 = tr → Q (some (.int res)) H'
def gd (H : List AC) : List AC := hpf (hpf H 68 0 (.int 0)) 68 11 (.int 0)
theorem gd_fg {H : List AC} (hS : Shp H) : Fg SM FM H (gd H) := ((fg_hpf (a := 68) (f := 0) (ci := 12) hS rfl (by decide))).trans (fg_hpf (a := 68) (f := 11) (ci := 12) (sf_68_0 hS) rfl (by decide))
theorem gd_0 {H : List AC} (hS : Shp H) : fi (gd H) 68 0 = 0 := by unfold gd; rw [fi_hpf_ne (by decide), fe_68_0 hS]
theorem gd_11 {H : List AC} (hS : Shp H) : fi (gd H) 68 11 = 0 := by unfold gd; rw [fe_68_11 (sf_68_0 hS)]
theorem gd_len {H : List AC} : (gd H).length = H.length := by unfold gd; rw [hpf_length, hpf_length]
theorem row_in {v : Int32} {n : Nat} (hn : n < 100000) : (0 ≤ v ∧ v ≤ nI n - 1) ↔ (0 ≤ v ∧ v < nI n) := by
  rcases Nat.eq_zero_or_pos n with rfl | hp
  · rw [show nI 0 - 1 = (-1 : Int32) by decide, show nI 0 = (0 : Int32) by decide, Int32.le_iff_toInt_le, Int32.le_iff_toInt_le, Int32.lt_iff_toInt_lt, show (-1 : Int32).toInt = -1 by decide, Int32.toInt_zero]
    omega
  · have e : nI n - 1 = nI (n - 1) := by
      have : nI n = nI (n - 1) + 1 := by rw [nI_1, Nat.sub_add_cancel hp]
      rw [this]
      simp
    rw [e, Int32.le_iff_toInt_le, Int32.le_iff_toInt_le, Int32.lt_iff_toInt_lt, nI_toInt (by omega), nI_toInt (by omega)]
    omega
theorem of_row {v : Int32} {n : Nat} (h : 0 ≤ v ∧ v < nI n) (hn : n < 100000) : v = nI v.toNatClampNeg ∧ v.toNatClampNeg < n := by
  obtain ⟨h1, h2⟩ := h
  rw [Int32.le_iff_toInt_le, Int32.toInt_zero] at h1
  rw [Int32.lt_iff_toInt_lt, nI_toInt (by omega)] at h2
  have e : v.toNatClampNeg = v.toInt.toNat := rfl
  refine ⟨?_, by rw [e]; omega⟩
  apply Int32.toInt_inj.mp
  rw [nI_toInt (by rw [e]; omega), e]
  omega
theorem of_in {v : Int32} {n : Nat} (h : 0 ≤ v ∧ v ≤ nI n) (hn : n < 100000) : v = nI v.toNatClampNeg ∧ v.toNatClampNeg ≤ n := by
  obtain ⟨h1, h2⟩ := h
  rw [Int32.le_iff_toInt_le, Int32.toInt_zero] at h1
  rw [Int32.le_iff_toInt_le, nI_toInt (by omega)] at h2
  have e : v.toNatClampNeg = v.toInt.toNat := rfl
  refine ⟨?_, by rw [e]; omega⟩
  apply Int32.toInt_inj.mp
  rw [nI_toInt (by rw [e]; omega), e]
  omega
def whyF (there : Bool) (m most : Int32) : Int32 := if there = false then 1 else if 0 ≤ m ∧ m ≤ most then 0 else 2
theorem whyF_0 {there : Bool} {m most : Int32} (h : whyF there m most = 0) : there = true ∧ 0 ≤ m ∧ m ≤ most := by
  unfold whyF at h
  cases there
  · simp at h
  · rw [if_neg (by decide)] at h
    by_cases c : 0 ≤ m ∧ m ≤ most
    · exact ⟨rfl, c⟩
    · rw [if_neg c] at h
      exact absurd h (by decide)
theorem l40f {i : Nat} (h : i < 41) : ((40 : Int32) < nI i) = False := eq_false (fun q => by
  rw [Int32.lt_iff_toInt_lt, nI_toInt (by omega), show (40 : Int32).toInt = 40 by decide] at q
  omega)
theorem l40t : ((40 : Int32) < nI 41) = True := eq_true (by decide)
theorem l20f {i : Nat} (h : i < 21) : ((20 : Int32) < nI i) = False := eq_false (fun q => by
  rw [Int32.lt_iff_toInt_lt, nI_toInt (by omega), show (20 : Int32).toInt = 20 by decide] at q
  omega)
theorem l20t : ((20 : Int32) < nI 21) = True := eq_true (by decide)
/-- the first place where it holds -/
def fnd (p : Nat → Bool) (n : Nat) (dd : Int32) : Int32 := match (List.range n).find? p with
  | some i => nI i
  | none => dd
theorem fnd_hit {p : Nat → Bool} {n i : Nat} {dd : Int32} (hi : i < n) (hp : p i = true) (hb : ∀ j, j < i → p j = false) : fnd p n dd = nI i := by
  unfold fnd
  have : (List.range n).find? p = some i := by
    rw [List.find?_eq_some_iff_getElem]
    refine ⟨hp, i, by simpa using hi, by simp, fun j hj => ?_⟩
    simp [hb j hj]
  rw [this]
theorem fnd_miss {p : Nat → Bool} {n : Nat} {dd : Int32} (hb : ∀ j, j < n → p j = false) : fnd p n dd = dd := by
  unfold fnd
  have : (List.range n).find? p = none := by
    rw [List.find?_eq_none]
    intro x hx
    simp [hb x (List.mem_range.mp hx)]
  rw [this]
theorem find_congr {p q : Nat → Bool} {n : Nat} (h : ∀ i, i < n → p i = q i) : (List.range n).find? p = (List.range n).find? q := by
  have : ∀ l : List Nat, (∀ i ∈ l, p i = q i) → l.find? p = l.find? q := by
    intro l
    induction l with
    | nil => intro _; rfl
    | cons a l ih =>
      intro hl
      rw [List.find?_cons, List.find?_cons, hl a (List.mem_cons_self ..), ih (fun i hi => hl i (List.mem_cons_of_mem _ hi))]
  exact this _ (fun i hi => h i (List.mem_range.mp hi))
theorem fnd_congr {p q : Nat → Bool} {n : Nat} {dd : Int32} (h : ∀ i, i < n → p i = q i) : fnd p n dd = fnd q n dd := by
  unfold fnd; rw [find_congr h]
section MODEL5
variable {scr : List Int32} {d n nS nW nG nU nN w k : Nat} {H : List AC} {R st : List Int32} {Q : Option Value → List AC → Prop}
theorem m_good (hS : Shp H) : Wp scr d 185 0 [some (.ref 68)] [] H Q ↔ Q none (gd H) := by
  simp (maxDischargeDepth := 12) only [w185_0, w185_1, w185_2, w185_5, w185_6, w185_7, w185_10, oK_some, cont_int, cont_intS, cont_none, cont_noneS, cont_long, cont_longS, true_and, and_true, false_and, and_false, true_implies, false_implies, not_true_eq_false, not_false_eq_true, eq_self, or_true, true_or, Option.isSome_some, hpf_length, hpa_length, bI_eq0, fi_hpa, fl_hpa, ar_hpf, fi_hpf_ne, fl_hpf_ne, ar_hpa_ne, hpa_hpa, hpf_hpf, nI_1, two_ne, fokZ, implies_true, Nat.reduceEqDiff, g_68_0, sf_68_0, fe_68_0, g_68_11, sf_68_11, fe_68_11, hS]
  rfl
theorem m_no {v : Int32} (hS : Shp H) : Wp scr d 186 0 [some (.ref 68), some (.int v)] [] H Q ↔ Q (some (.int (-1))) (hpf H 68 11 (.int v)) := by
  simp (maxDischargeDepth := 12) only [w186_0, w186_1, w186_2, w186_5, w186_6, oK_some, cont_int, cont_intS, cont_none, cont_noneS, cont_long, cont_longS, true_and, and_true, false_and, and_false, true_implies, false_implies, not_true_eq_false, not_false_eq_true, eq_self, or_true, true_or, Option.isSome_some, hpf_length, hpa_length, bI_eq0, fi_hpa, fl_hpa, ar_hpf, fi_hpf_ne, fl_hpf_ne, ar_hpa_ne, hpa_hpa, hpf_hpf, nI_1, two_ne, fokZ, implies_true, Nat.reduceEqDiff, g_68_11, sf_68_11, fe_68_11, hS]
theorem m_isNot {v : Int32} (hS : Shp H) : Wp scr d 187 0 [some (.ref 68), some (.int v)] [] H Q ↔ Q (some (.int 0)) (hpf H 68 11 (.int v)) := by
  simp (maxDischargeDepth := 12) only [w187_0, w187_1, w187_2, w187_5, w187_6, oK_some, cont_int, cont_intS, cont_none, cont_noneS, cont_long, cont_longS, true_and, and_true, false_and, and_false, true_implies, false_implies, not_true_eq_false, not_false_eq_true, eq_self, or_true, true_or, Option.isSome_some, hpf_length, hpa_length, bI_eq0, fi_hpa, fl_hpa, ar_hpf, fi_hpf_ne, fl_hpf_ne, ar_hpa_ne, hpa_hpa, hpf_hpf, nI_1, two_ne, fokZ, implies_true, Nat.reduceEqDiff, g_68_11, sf_68_11, fe_68_11, hS]
theorem m_isRow {v : Int32} (hI : MIv H R st n nS nW nG nU nN) : Wp scr (d + 1) 222 0 [some (.ref 68), some (.int v)] [] H Q ↔ Q (some (.int (bI (decide (0 ≤ v ∧ v < nI n))))) H := by
  refine Wp_iff ?_
  have hS := hI.shp
  have h14 := hI.2.2.2.2
  have b2 : n ≤ 7 := hI.mn.2.2.2.2.2.2.1
  simp (maxDischargeDepth := 12) only [w222_0, w222_1, w222_4, w222_7, w222_8, w222_9, w222_10, w222_13, w222_14, w222_15, w222_16, w222_17, w222_20, w222_23, w222_24, w222_27, w222_28, oK_some, cont_int, cont_intS, cont_none, cont_noneS, cont_long, cont_longS, true_and, and_true, false_and, and_false, true_implies, false_implies, not_true_eq_false, not_false_eq_true, eq_self, or_true, true_or, Option.isSome_some, hpf_length, hpa_length, bI_eq0, fi_hpa, fl_hpa, ar_hpf, fi_hpf_ne, fl_hpf_ne, ar_hpa_ne, hpa_hpa, hpf_hpf, nI_1, two_ne, fokZ, implies_true, Nat.reduceEqDiff, g_68_14, sf_68_14, fe_68_14, g_68_15, ga_71, gn_71, sa_71, ae_71, kl_0, kl_1, kl_2, kl_3, kl_4, kl_5, kl_6, kl_7, kl_8, kl_9, kl_10, kl_11, kl_12, jb_0_211, jb_1_211, jb_2_211, jb_3_211, jb_4_211, jb_5_211, jb_6_211, jb_7_211, jb_8_211, jb_9_211, jb_10_211, jb_11_211, jb_12_211, hS, h14, hI.r, hI.mn.1, m_in, row_in (v := v) (n := n) (by omega), decide_eq_false_iff_not]
  by_cases hp : 0 < n
  · by_cases c : 0 ≤ v ∧ v < nI n
    · simp [hp, c, bI]
    · simp [hp, c, bI]
  · have c : ¬ (0 ≤ v ∧ v < nI n) := fun q => by
      have := (of_row q (by omega)).2
      omega
    simp [hp, c, bI]
theorem m_why {b : Bool} {m most : Int32} : Wp scr (d + 1) 245 0 [some (.ref 68), some (.int (bI b)), some (.int m), some (.int most)] [] H Q ↔ Q (some (.int (whyF b m most))) H := by
  refine Wp_iff ?_
  simp (maxDischargeDepth := 12) only [w245_0, w245_1, w245_4, w245_5, w245_8, w245_9, w245_10, w245_11, w245_14, w245_17, w245_18, w245_21, w245_22, oK_some, cont_int, cont_intS, cont_none, cont_noneS, cont_long, cont_longS, true_and, and_true, false_and, and_false, true_implies, false_implies, not_true_eq_false, not_false_eq_true, eq_self, or_true, true_or, Option.isSome_some, hpf_length, hpa_length, bI_eq0, fi_hpa, fl_hpa, ar_hpf, fi_hpf_ne, fl_hpf_ne, ar_hpa_ne, hpa_hpa, hpf_hpf, nI_1, two_ne, fokZ, implies_true, Nat.reduceEqDiff, m_in, decide_eq_false_iff_not]
  unfold whyF
  cases b
  · simp
  · by_cases c : 0 ≤ m ∧ m ≤ most
    · simp [c]
    · simp [c]
/-- a query that is refused -/
theorem mr_no {tr : Int32} (hS : Shp H) {H1 : List AC} (hF : Fg SM FM H H1) (h0 : fi H1 68 0 = 0) (hQ : MR H Q (-1) tr) : Q (some (.int (-1))) (hpf H1 68 11 (.int tr)) := by
  refine hQ _ (hF.trans (fg_hpf (a := 68) (f := 11) (ci := 12) hF.shp rfl (by decide))) ?_ ?_
  · rw [fi_hpf_ne (by decide), h0]
  · rw [fe_68_11 hF.shp]
theorem M_doubters (hI : MIv H R st n nS nW nG nU nN) (hQ : MR H Q (if 0 < n then dbt n st else -1) (if 0 < n then 0 else 1)) : Wp scr (d + 2) 239 0 [some (.ref 68)] [] H Q := by
  have hS := hI.shp
  have hg := gd_fg hS
  have hI1 := hI.q hg
  have hs1 := hI1.shp
  simp (maxDischargeDepth := 12) only [w239_0, w239_1, w239_4, w239_5, w239_8, w239_11, w239_12, w239_13, w239_16, w239_19, w239_22, w239_23, w239_24, w239_27, oK_some, cont_int, cont_intS, cont_none, cont_noneS, cont_long, cont_longS, true_and, and_true, false_and, and_false, true_implies, false_implies, not_true_eq_false, not_false_eq_true, eq_self, or_true, true_or, Option.isSome_some, hpf_length, hpa_length, bI_eq0, fi_hpa, fl_hpa, ar_hpf, fi_hpf_ne, fl_hpf_ne, ar_hpa_ne, hpa_hpa, hpf_hpf, nI_1, two_ne, fokZ, implies_true, Nat.reduceEqDiff, rc_68, g_68_14, sf_68_14, fe_68_14, g_68_17, ga_73, gn_73, sa_73, ae_73, kl_0, kl_1, kl_2, kl_3, kl_4, kl_5, kl_6, kl_7, kl_8, kl_9, kl_10, kl_11, kl_12, jb_0_10, jb_1_10, jb_2_10, jb_3_10, jb_4_10, jb_5_10, jb_6_10, jb_7_10, jb_8_10, jb_9_10, hS, m_good, gd_len, hs1, hI1.2.2.2.2, hI1.2.2.1, m_doubtersOf hs1 (by rw [hI1.2.1]; exact hI1.mn) (Or.inl rfl), m_no, decide_eq_false_iff_not]
  by_cases hp : 0 < n
  · simp only [hp, if_true] at hQ
    simp only [hp, oK_some, cont_int, cont_intS, cont_none, cont_noneS, cont_long, cont_longS, true_and, and_true, false_and, and_false, true_implies, false_implies, not_true_eq_false, not_false_eq_true, eq_self, or_true, true_or, Option.isSome_some, hpf_length, hpa_length, bI_eq0, fi_hpa, fl_hpa, ar_hpf, fi_hpf_ne, fl_hpf_ne, ar_hpa_ne, hpa_hpa, hpf_hpf, nI_1, two_ne, fokZ, implies_true, Nat.reduceEqDiff]
    exact hQ _ hg (gd_0 hS) (gd_11 hS)
  · simp only [hp, if_false] at hQ
    simp only [hp, oK_some, cont_int, cont_intS, cont_none, cont_noneS, cont_long, cont_longS, true_and, and_true, false_and, and_false, true_implies, false_implies, not_true_eq_false, not_false_eq_true, eq_self, or_true, true_or, Option.isSome_some, hpf_length, hpa_length, bI_eq0, fi_hpa, fl_hpa, ar_hpf, fi_hpf_ne, fl_hpf_ne, ar_hpa_ne, hpa_hpa, hpf_hpf, nI_1, two_ne, fokZ, implies_true, Nat.reduceEqDiff]
    exact mr_no hS hg (gd_0 hS) hQ
end MODEL5
