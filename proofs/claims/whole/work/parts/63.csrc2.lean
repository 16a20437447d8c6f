/-! ===== the class: sets, setAt, could, surely, look, judge ===== -/
theorem forN_tail {α : Type} {F : Nat → α → α} {m : Nat} {x : α} (h : ∀ i a, m ≤ i → F i a = a) : ∀ j, forN F (m + j) x = forN F m x
  | 0 => rfl
  | j + 1 => by rw [← Nat.add_assoc, forN_succ, forN_tail h j, h _ _ (by omega)]
theorem i_dec {i : Int32} {c : Nat} : i - nI c + (-1) = i - nI (c + 1) := by
  rw [nI_succ]
  apply Int32.toBitVec_inj.mp
  simp only [Int32.toBitVec_add, Int32.toBitVec_sub, Int32.toBitVec_neg]
  generalize i.toBitVec = a
  generalize (nI c).toBitVec = b
  generalize Int32.toBitVec 1 = e
  rw [BitVec.sub_eq_add_neg, BitVec.sub_eq_add_neg, BitVec.neg_add, BitVec.add_assoc, BitVec.sub_eq_add_neg (-b) e]
theorem i_sub0 {i : Int32} {c : Nat} : (i - nI c = 0) = (i = nI c) := by
  apply propext
  constructor
  · intro h
    have h2 : i - nI c + nI c = 0 + nI c := by rw [h]
    rw [Int32.sub_add_cancel, Int32.zero_add] at h2
    exact h2
  · intro h
    rw [h]
    exact Int32.sub_self _
section CSRC2
variable {scr : List Int32} {d n nS nW nG nU nN : Nat} {H : List AC} {R st ws : List Int32} {rum : Int32} {Q : Option Value → List AC → Prop} {fit : Nat → Bool} {m : Nat}
theorem bt_fit (hm : m ≤ 32) {s : Nat} (hs : s < 32) : bt (nI (fitN fit m)) s = (decide (s < m) && fit s) := by rw [bt_nI hs, fitN_bit]
theorem c_srcCount (hS : Shp H) (hm : m ≤ 32) (hf : fi H 44 5 = nI (fitN fit m)) : Wp scr (d + 1) 77 0 [some (.ref 44)] [] H Q ↔ Q (some (.int (nI (fcN fit m)))) H := by
  simp (maxDischargeDepth := 12) only [w77_0, w77_1, w77_4, w77_7, oK_some, cont_int, cont_intS, cont_none, cont_noneS, cont_long, cont_longS, true_and, and_true, false_and, and_false, true_implies, false_implies, not_true_eq_false, not_false_eq_true, eq_self, or_true, true_or, Option.isSome_some, hpf_length, hpa_length, bI_eq0, fi_hpa, fl_hpa, ar_hpf, fi_hpf_ne, fl_hpf_ne, ar_hpa_ne, hpa_hpa, hpf_hpf, nI_1, two_ne, fokZ, implies_true, Nat.reduceEqDiff, g_44_5, sf_44_5, fe_44_5, hS, hf, c_bcI, fitN_count hm]
/-- the i-th that fits -/
def fitAt (fit : Nat → Bool) (m : Nat) (i : Int32) : Int32 := if i < 0 then -1 else (match ((List.range m).filter fit)[i.toNatClampNeg]? with | some s => nI s | none => -1)
theorem fil_gm (hm : m ≤ 32) : (List.range 32).filter (fun s => decide (s < m) && fit s) = (List.range m).filter fit := by
  have : ∀ j, (List.range (m + j)).filter (fun s => decide (s < m) && fit s) = (List.range m).filter fit := by
    intro j
    induction j with
    | zero => exact List.filter_congr (fun s hs => by rw [decide_eq_true (show s < m from List.mem_range.mp hs), Bool.true_and])
    | succ j ih =>
      rw [← Nat.add_assoc, List.range_succ, List.filter_append, ih]
      have : [m + j].filter (fun s => decide (s < m) && fit s) = [] := by
        rw [List.filter_eq_nil_iff]
        intro s hs
        rw [List.mem_singleton.mp hs, decide_eq_false (by omega)]
        simp
      rw [this, List.append_nil]
  have := this (32 - m)
  rw [show m + (32 - m) = 32 by omega] at this
  exact this
theorem c_fitting {i : Int32} (hS : Shp H) (hm : m ≤ 32) (hf : fi H 44 5 = nI (fitN fit m)) : Wp scr d 78 0 [some (.ref 44), some (.int i), none, none] [] H Q ↔ Q (some (.int (fitAt fit m i))) H := by
  refine Wp_iff ?_
  generalize hQ : (fun (r : Option Value) (H' : List AC) => r = some (.int (fitAt fit m i)) ∧ H' = H) = Q1
  generalize hg : (fun s => decide (s < m) && fit s) = g
  have hgi : ∀ s, (decide (s < m) && fit s) = g s := fun s => by rw [← hg]
  have hgm : (List.range 32).filter g = (List.range m).filter fit := by rw [← hg]; exact fil_gm hm
  simp only [w78_0, w78_1, w78_2, w78_3]
  have key := down (P := fun s => (∀ j, j < fcN g s → ¬ i = nI j) → Wp scr d 78 4 [some (.ref 44), some (.int i), some (.int (i - nI (fcN g s))), some (.int (nI s))] [] H Q1) 32 ?_ ?_
  · have := key (fun j hj => absurd hj (Nat.not_lt_zero _))
    rw [show fcN g 0 = 0 from rfl, show nI 0 = (0 : Int32) from rfl, Int32.sub_zero] at this
    exact this
  · intro hno
    rw [w78_4]
    simp (maxDischargeDepth := 12) only [w78_0, w78_1, w78_2, w78_3, w78_5, w78_7, w78_10, w78_11, w78_14, w78_15, w78_16, w78_17, w78_18, w78_21, w78_22, w78_25, w78_26, w78_27, w78_30, w78_33, w78_36, w78_37, oK_some, cont_int, cont_intS, cont_none, cont_noneS, cont_long, cont_longS, true_and, and_true, false_and, and_false, true_implies, false_implies, not_true_eq_false, not_false_eq_true, eq_self, or_true, true_or, Option.isSome_some, hpf_length, hpa_length, bI_eq0, fi_hpa, fl_hpa, ar_hpf, fi_hpf_ne, fl_hpf_ne, ar_hpa_ne, hpa_hpa, hpf_hpf, nI_1, two_ne, fokZ, implies_true, Nat.reduceEqDiff, g_44_5, sf_44_5, fe_44_5, show ((32 : Int32) ≤ nI 32) = True from eq_true (by decide)]
    rw [← hQ]
    refine ⟨?_, rfl⟩
    unfold fitAt
    by_cases hi : i < 0
    · rw [if_pos hi]
    · rw [if_neg hi, ← hgm]
      obtain ⟨j, hj, ej⟩ := nI_of hi
      rcases Nat.lt_or_ge j (fcN g 32) with q | q
      · exact absurd ej (hno j q)
      · rw [ej, nI_clamp hj, List.getElem?_eq_none (show ((List.range 32).filter g).length ≤ j from q)]
  · intro s hs hw hno
    have hle := fcN_le (fit := g) (m := s)
    rw [fcN_succ] at hw
    have eb : bt (nI (fitN fit m)) s = g s := by rw [bt_fit hm hs, hgi]
    rw [w78_4]
    simp (maxDischargeDepth := 12) only [w78_0, w78_1, w78_2, w78_3, w78_5, w78_7, w78_10, w78_11, w78_14, w78_15, w78_16, w78_17, w78_18, w78_21, w78_22, w78_25, w78_26, w78_27, w78_30, w78_33, w78_36, w78_37, oK_some, cont_int, cont_intS, cont_none, cont_noneS, cont_long, cont_longS, true_and, and_true, false_and, and_false, true_implies, false_implies, not_true_eq_false, not_false_eq_true, eq_self, or_true, true_or, Option.isSome_some, hpf_length, hpa_length, bI_eq0, fi_hpa, fl_hpa, ar_hpf, fi_hpf_ne, fl_hpf_ne, ar_hpa_ne, hpa_hpa, hpf_hpf, nI_1, two_ne, fokZ, implies_true, Nat.reduceEqDiff, g_44_5, sf_44_5, fe_44_5, hS, hf, show ((32 : Int32) ≤ nI s) = False from eq_false (nI_ge (b := 32) hs (by decide)), bit_bt hs, eb, i_sub0, i_dec]
    cases hgs : g s
    · simp only [hgs, Bool.false_eq_true, if_false, Nat.add_zero] at hw
      simp only [oK_some, cont_int, cont_intS, cont_none, cont_noneS, cont_long, cont_longS, true_and, and_true, false_and, and_false, true_implies, false_implies, not_true_eq_false, not_false_eq_true, eq_self, or_true, true_or, Option.isSome_some, hpf_length, hpa_length, bI_eq0, fi_hpa, fl_hpa, ar_hpf, fi_hpf_ne, fl_hpf_ne, ar_hpa_ne, hpa_hpa, hpf_hpf, nI_1, two_ne, fokZ, implies_true, Nat.reduceEqDiff]
      exact hw hno
    · simp only [hgs, if_true] at hw
      simp only [oK_some, cont_int, cont_intS, cont_none, cont_noneS, cont_long, cont_longS, true_and, and_true, false_and, and_false, true_implies, false_implies, not_true_eq_false, not_false_eq_true, eq_self, or_true, true_or, Option.isSome_some, hpf_length, hpa_length, bI_eq0, fi_hpa, fl_hpa, ar_hpf, fi_hpf_ne, fl_hpf_ne, ar_hpa_ne, hpa_hpa, hpf_hpf, nI_1, two_ne, fokZ, implies_true, Nat.reduceEqDiff, Bool.true_eq_false]
      by_cases he : i = nI (fcN g s)
      · simp only [he, oK_some, cont_int, cont_intS, cont_none, cont_noneS, cont_long, cont_longS, true_and, and_true, false_and, and_false, true_implies, false_implies, not_true_eq_false, not_false_eq_true, eq_self, or_true, true_or, Option.isSome_some, hpf_length, hpa_length, bI_eq0, fi_hpa, fl_hpa, ar_hpf, fi_hpf_ne, fl_hpf_ne, ar_hpa_ne, hpa_hpa, hpf_hpf, nI_1, two_ne, fokZ, implies_true, Nat.reduceEqDiff]
        rw [← hQ]
        refine ⟨?_, rfl⟩
        unfold fitAt
        rw [he, if_neg (nI_pos (by omega)), nI_clamp (by omega), ← hgm]
        have := fil_at (p := g) hgs 32 hs
        rw [show ((List.range s).filter g).length = fcN g s from rfl] at this
        rw [this]
      · simp only [he, oK_some, cont_int, cont_intS, cont_none, cont_noneS, cont_long, cont_longS, true_and, and_true, false_and, and_false, true_implies, false_implies, not_true_eq_false, not_false_eq_true, eq_self, or_true, true_or, Option.isSome_some, hpf_length, hpa_length, bI_eq0, fi_hpa, fl_hpa, ar_hpf, fi_hpf_ne, fl_hpf_ne, ar_hpa_ne, hpa_hpa, hpf_hpf, nI_1, two_ne, fokZ, implies_true, Nat.reduceEqDiff]
        refine hw (fun j hj => ?_)
        rcases Nat.lt_or_ge j (fcN g s) with q | q
        · exact hno j q
        · rw [show j = fcN g s by omega]; exact he
theorem c_inSome (hS : Shp H) (hm : m ≤ 32) (hf : fi H 44 5 = nI (fitN fit m)) : Wp scr d 79 0 [some (.ref 44), none, none] [] H Q ↔ Q (some (.int (forN (fsO fit) m 0))) H := by
  refine Wp_iff ?_
  generalize hQ : (fun (r : Option Value) (H' : List AC) => r = some (.int (forN (fsO fit) m 0)) ∧ H' = H) = Q1
  generalize hg : (fun s => decide (s < m) && fit s) = g
  have hgi : ∀ s, (decide (s < m) && fit s) = g s := fun s => by rw [← hg]
  have e32 : forN (fsO g) 32 0 = forN (fsO fit) m 0 := by
    have h1 := forN_tail (F := fsO g) (m := m) (x := 0) (fun i a hi => by
      unfold fsO
      rw [← hgi, decide_eq_false (by omega), Bool.false_and]
      rfl) (32 - m)
    rw [show m + (32 - m) = 32 by omega] at h1
    rw [h1]
    refine forN_congr m 0 (fun i hi x => ?_)
    unfold fsO
    rw [← hgi, decide_eq_true hi, Bool.true_and]
  simp only [w79_0, w79_1, w79_2, w79_3]
  have key := down (P := fun s => Wp scr d 79 4 [some (.ref 44), some (.int (forN (fsO g) s 0)), some (.int (nI s))] [] H Q1) 32 ?_ ?_
  · exact key
  · rw [w79_4]
    simp (maxDischargeDepth := 12) only [w79_0, w79_1, w79_2, w79_3, w79_5, w79_7, w79_10, w79_11, w79_14, w79_15, w79_16, w79_17, w79_18, w79_21, w79_22, w79_23, w79_24, w79_25, w79_28, w79_31, w79_32, oK_some, cont_int, cont_intS, cont_none, cont_noneS, cont_long, cont_longS, true_and, and_true, false_and, and_false, true_implies, false_implies, not_true_eq_false, not_false_eq_true, eq_self, or_true, true_or, Option.isSome_some, hpf_length, hpa_length, bI_eq0, fi_hpa, fl_hpa, ar_hpf, fi_hpf_ne, fl_hpf_ne, ar_hpa_ne, hpa_hpa, hpf_hpf, nI_1, two_ne, fokZ, implies_true, Nat.reduceEqDiff, g_44_5, sf_44_5, fe_44_5, show ((32 : Int32) ≤ nI 32) = True from eq_true (by decide), e32]
    rw [← hQ]
    exact ⟨rfl, rfl⟩
  · intro s hs hw
    rw [forN_succ] at hw
    generalize forN (fsO g) s 0 = acc at hw ⊢
    have eb : bt (nI (fitN fit m)) s = g s := by rw [bt_fit hm hs, hgi]
    rw [w79_4]
    simp (maxDischargeDepth := 12) only [w79_0, w79_1, w79_2, w79_3, w79_5, w79_7, w79_10, w79_11, w79_14, w79_15, w79_16, w79_17, w79_18, w79_21, w79_22, w79_23, w79_24, w79_25, w79_28, w79_31, w79_32, oK_some, cont_int, cont_intS, cont_none, cont_noneS, cont_long, cont_longS, true_and, and_true, false_and, and_false, true_implies, false_implies, not_true_eq_false, not_false_eq_true, eq_self, or_true, true_or, Option.isSome_some, hpf_length, hpa_length, bI_eq0, fi_hpa, fl_hpa, ar_hpf, fi_hpf_ne, fl_hpf_ne, ar_hpa_ne, hpa_hpa, hpf_hpf, nI_1, two_ne, fokZ, implies_true, Nat.reduceEqDiff, g_44_5, sf_44_5, fe_44_5, hS, hf, show ((32 : Int32) ≤ nI s) = False from eq_false (nI_ge (b := 32) hs (by decide)), bit_bt hs, eb]
    unfold fsO at hw
    cases hgs : g s
    · simp only [hgs, Bool.false_eq_true, if_false] at hw
      simp only [oK_some, cont_int, cont_intS, cont_none, cont_noneS, cont_long, cont_longS, true_and, and_true, false_and, and_false, true_implies, false_implies, not_true_eq_false, not_false_eq_true, eq_self, or_true, true_or, Option.isSome_some, hpf_length, hpa_length, bI_eq0, fi_hpa, fl_hpa, ar_hpf, fi_hpf_ne, fl_hpf_ne, ar_hpa_ne, hpa_hpa, hpf_hpf, nI_1, two_ne, fokZ, implies_true, Nat.reduceEqDiff]
      exact hw
    · simp only [hgs, if_true] at hw
      simp only [oK_some, cont_int, cont_intS, cont_none, cont_noneS, cont_long, cont_longS, true_and, and_true, false_and, and_false, true_implies, false_implies, not_true_eq_false, not_false_eq_true, eq_self, or_true, true_or, Option.isSome_some, hpf_length, hpa_length, bI_eq0, fi_hpa, fl_hpa, ar_hpf, fi_hpf_ne, fl_hpf_ne, ar_hpa_ne, hpa_hpa, hpf_hpf, nI_1, two_ne, fokZ, implies_true, Nat.reduceEqDiff, Bool.true_eq_false]
      exact hw
theorem fitN_0 (hm : m ≤ 32) : (nI (fitN fit m) = 0) = (fcN fit m = 0) := by
  have h1 := fitN_count (fit := fit) hm
  have hle := fcN_le (fit := fit) (m := m)
  apply propext
  constructor
  · intro h
    rw [h] at h1
    exact (nI_eq (a := 0) (b := fcN fit m) (by decide) (by omega)).mp h1 |>.symm
  · intro h
    have : fitN fit m = 0 := by
      apply Nat.eq_of_testBit_eq
      intro j
      rw [fitN_bit, Nat.zero_testBit]
      by_cases hj : j < m
      · have hn : (List.range m).filter fit = [] := List.length_eq_zero_iff.mp h
        have := List.filter_eq_nil_iff.mp hn j (List.mem_range.mpr hj)
        cases hq : fit j
        · simp
        · exact absurd hq this
      · rw [decide_eq_false hj, Bool.false_and]
    rw [this]
    rfl
theorem c_inAll (hC : CSl H R n nS nW nG nU nN) (hm : m ≤ 32) (hf : fi H 44 5 = nI (fitN fit m)) : Wp scr (d + 1) 80 0 [some (.ref 44), none, none] [] H Q ↔ Q (some (.int (if nI (fcN fit m) = 0 then 0 else forN (fsA fit) m (allU nU)))) H := by
  refine Wp_iff ?_
  generalize hQ : (fun (r : Option Value) (H' : List AC) => r = some (.int (if nI (fcN fit m) = 0 then 0 else forN (fsA fit) m (allU nU))) ∧ H' = H) = Q1
  have hS := hC.shp
  have c6 := hC.2.1.2.2.2.2.1
  have hle := fcN_le (fit := fit) (m := m)
  have ez : (nI (fcN fit m) = 0) = (fcN fit m = 0) := propext (nI_eq (b := 0) (by omega) (by decide))
  generalize hg : (fun s => decide (s < m) && fit s) = g
  have hgi : ∀ s, (decide (s < m) && fit s) = g s := fun s => by rw [← hg]
  have e32 : ∀ a0 : Int32, forN (fsA g) 32 a0 = forN (fsA fit) m a0 := by
    intro a0
    have h1 := forN_tail (F := fsA g) (m := m) (x := a0) (fun i a hi => by
      unfold fsA
      rw [← hgi, decide_eq_false (by omega), Bool.false_and]
      rfl) (32 - m)
    rw [show m + (32 - m) = 32 by omega] at h1
    rw [h1]
    refine forN_congr m a0 (fun i hi x => ?_)
    unfold fsA
    rw [← hgi, decide_eq_true hi, Bool.true_and]
  have loop : ∀ a0 : Int32, a0 = (if nI (fcN fit m) = 0 then 0 else allU nU) → Wp scr (d + 1) 80 24 [some (.ref 44), some (.int a0), some (.int 0)] [] H Q1 := by
    intro a0 ha0
    have key := down (P := fun s => Wp scr (d + 1) 80 24 [some (.ref 44), some (.int (forN (fsA g) s a0)), some (.int (nI s))] [] H Q1) 32 ?_ ?_
    · exact key
    · rw [w80_24]
      simp (maxDischargeDepth := 12) only [w80_0, w80_1, w80_4, w80_7, w80_8, w80_11, w80_12, w80_15, w80_18, w80_21, w80_22, w80_23, w80_25, w80_27, w80_30, w80_31, w80_34, w80_35, w80_36, w80_37, w80_38, w80_41, w80_42, w80_43, w80_44, w80_45, w80_48, w80_51, w80_52, oK_some, cont_int, cont_intS, cont_none, cont_noneS, cont_long, cont_longS, true_and, and_true, false_and, and_false, true_implies, false_implies, not_true_eq_false, not_false_eq_true, eq_self, or_true, true_or, Option.isSome_some, hpf_length, hpa_length, bI_eq0, fi_hpa, fl_hpa, ar_hpf, fi_hpf_ne, fl_hpf_ne, ar_hpa_ne, hpa_hpa, hpf_hpf, nI_1, two_ne, fokZ, implies_true, Nat.reduceEqDiff, g_44_5, sf_44_5, fe_44_5, g_44_0, rc_3, g_3_6, rc_12, g_16_6, rc_25, rc_4, rc_6, rc_8, rc_10, rc_14, rc_17, rc_19, rc_21, rc_23, rc_27, show ((32 : Int32) ≤ nI 32) = True from eq_true (by decide), e32]
      rw [← hQ]
      refine ⟨?_, rfl⟩
      rw [ha0]
      by_cases hz : nI (fcN fit m) = 0
      · rw [if_pos hz, if_pos hz]
        have hz' := ez.mp hz
        have hn : (List.range m).filter fit = [] := List.length_eq_zero_iff.mp hz'
        have : forN (fsA fit) m 0 = 0 := by
          have h2 : forN (fsA fit) m 0 = forN (fun _ a => a) m 0 := forN_congr m 0 (fun i hi x => by
            unfold fsA
            have := List.filter_eq_nil_iff.mp hn i (List.mem_range.mpr hi)
            rw [if_neg this])
          rw [h2]
          have h3 := forN_tail (F := fun _ (a : Int32) => a) (m := 0) (x := 0) (fun _ _ _ => rfl) m
          rw [Nat.zero_add] at h3
          exact h3
        rw [this]
      · rw [if_neg hz, if_neg hz]
    · intro s hs hw
      rw [forN_succ] at hw
      generalize forN (fsA g) s a0 = acc at hw ⊢
      have eb : bt (nI (fitN fit m)) s = g s := by rw [bt_fit hm hs, hgi]
      rw [w80_24]
      simp (maxDischargeDepth := 12) only [w80_0, w80_1, w80_4, w80_7, w80_8, w80_11, w80_12, w80_15, w80_18, w80_21, w80_22, w80_23, w80_25, w80_27, w80_30, w80_31, w80_34, w80_35, w80_36, w80_37, w80_38, w80_41, w80_42, w80_43, w80_44, w80_45, w80_48, w80_51, w80_52, oK_some, cont_int, cont_intS, cont_none, cont_noneS, cont_long, cont_longS, true_and, and_true, false_and, and_false, true_implies, false_implies, not_true_eq_false, not_false_eq_true, eq_self, or_true, true_or, Option.isSome_some, hpf_length, hpa_length, bI_eq0, fi_hpa, fl_hpa, ar_hpf, fi_hpf_ne, fl_hpf_ne, ar_hpa_ne, hpa_hpa, hpf_hpf, nI_1, two_ne, fokZ, implies_true, Nat.reduceEqDiff, g_44_5, sf_44_5, fe_44_5, g_44_0, rc_3, g_3_6, rc_12, g_16_6, rc_25, rc_4, rc_6, rc_8, rc_10, rc_14, rc_17, rc_19, rc_21, rc_23, rc_27, hS, hf, show ((32 : Int32) ≤ nI s) = False from eq_false (nI_ge (b := 32) hs (by decide)), bit_bt hs, eb]
      unfold fsA at hw
      cases hgs : g s
      · simp only [hgs, Bool.false_eq_true, if_false] at hw
        simp only [oK_some, cont_int, cont_intS, cont_none, cont_noneS, cont_long, cont_longS, true_and, and_true, false_and, and_false, true_implies, false_implies, not_true_eq_false, not_false_eq_true, eq_self, or_true, true_or, Option.isSome_some, hpf_length, hpa_length, bI_eq0, fi_hpa, fl_hpa, ar_hpf, fi_hpf_ne, fl_hpf_ne, ar_hpa_ne, hpa_hpa, hpf_hpf, nI_1, two_ne, fokZ, implies_true, Nat.reduceEqDiff]
        exact hw
      · simp only [hgs, if_true] at hw
        simp only [oK_some, cont_int, cont_intS, cont_none, cont_noneS, cont_long, cont_longS, true_and, and_true, false_and, and_false, true_implies, false_implies, not_true_eq_false, not_false_eq_true, eq_self, or_true, true_or, Option.isSome_some, hpf_length, hpa_length, bI_eq0, fi_hpa, fl_hpa, ar_hpf, fi_hpf_ne, fl_hpf_ne, ar_hpa_ne, hpa_hpa, hpf_hpf, nI_1, two_ne, fokZ, implies_true, Nat.reduceEqDiff, Bool.true_eq_false]
        exact hw
  simp (maxDischargeDepth := 12) only [w80_0, w80_1, w80_4, w80_7, w80_8, w80_11, w80_12, w80_15, w80_18, w80_21, w80_22, w80_23, w80_25, w80_27, w80_30, w80_31, w80_34, w80_35, w80_36, w80_37, w80_38, w80_41, w80_42, w80_43, w80_44, w80_45, w80_48, w80_51, w80_52, oK_some, cont_int, cont_intS, cont_none, cont_noneS, cont_long, cont_longS, true_and, and_true, false_and, and_false, true_implies, false_implies, not_true_eq_false, not_false_eq_true, eq_self, or_true, true_or, Option.isSome_some, hpf_length, hpa_length, bI_eq0, fi_hpa, fl_hpa, ar_hpf, fi_hpf_ne, fl_hpf_ne, ar_hpa_ne, hpa_hpa, hpf_hpf, nI_1, two_ne, fokZ, implies_true, Nat.reduceEqDiff, g_44_5, sf_44_5, fe_44_5, g_44_0, rc_3, g_3_6, rc_12, g_16_6, rc_25, rc_4, rc_6, rc_8, rc_10, rc_14, rc_17, rc_19, rc_21, rc_23, rc_27, hS, hf, fitN_0 hm, c_Table_allBits (g_12_2 hS), c6]
  by_cases hz : fcN fit m = 0
  · simp only [hz, oK_some, cont_int, cont_intS, cont_none, cont_noneS, cont_long, cont_longS, true_and, and_true, false_and, and_false, true_implies, false_implies, not_true_eq_false, not_false_eq_true, eq_self, or_true, true_or, Option.isSome_some, hpf_length, hpa_length, bI_eq0, fi_hpa, fl_hpa, ar_hpf, fi_hpf_ne, fl_hpf_ne, ar_hpa_ne, hpa_hpa, hpf_hpf, nI_1, two_ne, fokZ, implies_true, Nat.reduceEqDiff]
    exact loop 0 (by rw [if_pos (ez.mpr hz)])
  · simp only [hz, oK_some, cont_int, cont_intS, cont_none, cont_noneS, cont_long, cont_longS, true_and, and_true, false_and, and_false, true_implies, false_implies, not_true_eq_false, not_false_eq_true, eq_self, or_true, true_or, Option.isSome_some, hpf_length, hpa_length, bI_eq0, fi_hpa, fl_hpa, ar_hpf, fi_hpf_ne, fl_hpf_ne, ar_hpa_ne, hpa_hpa, hpf_hpf, nI_1, two_ne, fokZ, implies_true, Nat.reduceEqDiff]
    exact loop _ (by rw [if_neg (fun q => hz (ez.mp q))]; rfl)
/-- entries of what is counted lie between 0 and how many sets there are -/
theorem fsD_b {dO : Nat → List Int32} {q : Nat} (hq : q < 147) : ∀ k, ∃ x, x ≤ fcN fit k ∧ (forN (fsD fit dO n) k (List.replicate 147 0)).getD q 0 = nI x
  | 0 => ⟨0, Nat.le_refl _, by rw [forN_zero, List.getD_eq_getElem?_getD, List.getElem?_replicate, if_pos hq]; rfl⟩
  | k + 1 => by
    obtain ⟨x, hx, ex⟩ := fsD_b (dO := dO) hq k
    rw [forN_succ, fcN_succ]
    generalize forN (fsD fit dO n) k (List.replicate 147 0) = D at ex ⊢
    unfold fsD
    cases hf : fit k
    · simp only [Bool.false_eq_true, if_false]
      exact ⟨x, by omega, ex⟩
    · simp only [if_true]
      unfold addD
      rw [getD_rmap hq, ex]
      split
      · unfold adB
        rcases bit01 ((dO k).getD (q % 21) 0 >>> (nI (q / 21) &&& 31)) with e | e
        · rw [e, Int32.add_zero]; exact ⟨x, by omega, rfl⟩
        · rw [e]; exact ⟨x + 1, by omega, by rw [nI_1]⟩
      · exact ⟨x, by omega, rfl⟩
theorem c_seekLook {D : List Int32} {mn : Nat} (hC : CSl H R n nS nW nG nU nN) (hm : m ≤ 32) (hf : fi H 44 5 = nI (fitN fit m)) (hD : ar H 51 = D) (hmn : mn = fcN fit m) (hb : ∀ q, q < 147 → ∃ x, x ≤ mn ∧ D.getD q 0 = nI x) (hQ : ∀ H', Fg [44] [] H H' → fi H' 44 6 = (lkM D (nI mn) n).1 → fi H' 44 7 = (lkM D (nI mn) n).2 → Q none H') : Wp scr (d + 2) 81 0 [some (.ref 44), none, none, none, none, none] [] H Q := by
  have hS := hC.shp
  have b2 := hC.2.1.2.2.2.2.2.2.1
  have hle := fcN_le (fit := fit) (m := m)
  have hl : D.length = 147 := by rw [← hD]; exact gn_51 hS
  rw [← hmn] at hle
  have hs1 := sf_44_6 (v := -2) hS
  simp (maxDischargeDepth := 12) only [w81_0, w81_1, w81_4, w81_5, w81_6, w81_8, w81_11, w81_12, w81_14, w81_17, w81_18, w81_20, w81_21, w81_24, w81_27, w81_30, w81_33, w81_34, w81_37, w81_38, w81_40, w81_42, w81_45, w81_46, w81_49, w81_50, w81_52, w81_53, w81_54, w81_55, w81_58, w81_60, w81_62, w81_63, w81_65, w81_66, w81_69, w81_71, w81_72, w81_75, w81_77, w81_80, w81_82, w81_83, w81_86, w81_89, w81_90, w81_92, w81_95, w81_96, w81_98, w81_99, w81_100, w81_101, w81_102, w81_105, w81_108, w81_111, w81_114, w81_117, oK_some, cont_int, cont_intS, cont_none, cont_noneS, cont_long, cont_longS, true_and, and_true, false_and, and_false, true_implies, false_implies, not_true_eq_false, not_false_eq_true, eq_self, or_true, true_or, Option.isSome_some, hpf_length, hpa_length, bI_eq0, fi_hpa, fl_hpa, ar_hpf, fi_hpf_ne, fl_hpf_ne, ar_hpa_ne, hpa_hpa, hpf_hpf, nI_1, two_ne, fokZ, implies_true, Nat.reduceEqDiff, rc_44, g_44_6, sf_44_6, fe_44_6, g_44_7, sf_44_7, fe_44_7, g_44_0, rc_3, g_3_2, rc_4, g_16_2, rc_17, rc_6, rc_8, rc_10, rc_12, rc_14, rc_19, rc_21, rc_23, rc_25, rc_27, g_44_4, rc_50, rc_1, rc_31, rc_35, rc_37, rc_39, rc_41, rc_46, rc_48, rc_53, rc_55, rc_57, rc_59, rc_63, rc_66, hS, c_srcCount hS hm hf, ← hmn]
  generalize hH1 : hpf (hpf H 44 6 (.int (-2))) 44 7 (.int (-2)) = H1
  have hF1 : Fg [44] [] H H1 := by
    rw [← hH1]
    exact (fr_hpf (S := [44]) (ci := 7) hS rfl (by decide)).fg.trans (fr_hpf (S := [44]) (ci := 7) hs1 rfl (by decide)).fg
  have q6 : fi H1 44 6 = -2 := by rw [← hH1, fi_hpf_ne (by decide), fe_44_6 hS]
  have q7 : fi H1 44 7 = -2 := by rw [← hH1, fe_44_7 hs1]
  rcases Nat.eq_zero_or_pos mn with hz | hp
  · have c2' := (hC.of hF1 (by decide) (by decide)).2.1.1
    have hs2 := hF1.shp
    have e1 : lkM D (nI mn) n = (-2, -2) := by unfold lkM; rw [hz, if_neg (by decide)]
    rw [e1] at hQ
    subst hz
    rw [w81_19]
    simp (maxDischargeDepth := 12) only [w81_0, w81_1, w81_4, w81_5, w81_6, w81_8, w81_11, w81_12, w81_14, w81_17, w81_18, w81_20, w81_21, w81_24, w81_27, w81_30, w81_33, w81_34, w81_37, w81_38, w81_40, w81_42, w81_45, w81_46, w81_49, w81_50, w81_52, w81_53, w81_54, w81_55, w81_58, w81_60, w81_62, w81_63, w81_65, w81_66, w81_69, w81_71, w81_72, w81_75, w81_77, w81_80, w81_82, w81_83, w81_86, w81_89, w81_90, w81_92, w81_95, w81_96, w81_98, w81_99, w81_100, w81_101, w81_102, w81_105, w81_108, w81_111, w81_114, w81_117, oK_some, cont_int, cont_intS, cont_none, cont_noneS, cont_long, cont_longS, true_and, and_true, false_and, and_false, true_implies, false_implies, not_true_eq_false, not_false_eq_true, eq_self, or_true, true_or, Option.isSome_some, hpf_length, hpa_length, bI_eq0, fi_hpa, fl_hpa, ar_hpf, fi_hpf_ne, fl_hpf_ne, ar_hpa_ne, hpa_hpa, hpf_hpf, nI_1, two_ne, fokZ, implies_true, Nat.reduceEqDiff, rc_44, g_44_6, sf_44_6, fe_44_6, g_44_7, sf_44_7, fe_44_7, g_44_0, rc_3, g_3_2, rc_4, g_16_2, rc_17, rc_6, rc_8, rc_10, rc_12, rc_14, rc_19, rc_21, rc_23, rc_25, rc_27, g_44_4, rc_50, rc_1, rc_31, rc_35, rc_37, rc_39, rc_41, rc_46, rc_48, rc_53, rc_55, rc_57, rc_59, rc_63, rc_66, hs2, c_Table_count (g_4_2 hs2), c2', show ((nI 0 : Int32) ≤ 0) = True from eq_true (by decide)]
    exact ⟨fun _ => hQ H1 hF1 q6 q7, fun _ => hQ H1 hF1 q6 q7⟩
  · have hp' : (0 : Int32) < nI mn := nI_lt (a := 0) hp (by omega)
    have hp2 : (nI mn ≤ 0) = False := eq_false (nI_nle hp (by omega))
    have e1 : lkM D (nI mn) n = forN (lkF D (nI mn)) (21 * n) (-2, -2) := by unfold lkM; rw [if_pos hp']
    rw [e1] at hQ
    -- places and what is left
    have inv : ∀ k, k ≤ 147 → (forN (lkF D (nI mn)) k (-2, -2) = (-2, -2) ∧ k = 0) ∨ (∃ a b : Nat, a < 100000 ∧ b < 100000 ∧ forN (lkF D (nI mn)) k (-2, -2) = (nI a, nI b)) := by
      intro k
      induction k with
      | zero => intro _; exact Or.inl ⟨rfl, rfl⟩
      | succ k ih =>
        intro hk
        right
        obtain ⟨x, hx, ex⟩ := hb k (by omega)
        have elk : ∃ y, y < 100000 ∧ lkX D (nI mn) k = nI y := by
          unfold lkX
          rw [ex, pk_sub hx]
          split
          · exact ⟨x, by omega, rfl⟩
          · exact ⟨mn - x, by omega, rfl⟩
        obtain ⟨y, hy, ey⟩ := elk
        have ed : nI k / 21 = nI (k / 21) := pk_div (a := k) (d := 21) (by omega) (by decide) (by decide)
        have em : nI k - nI k / 21 * 21 = nI (k % 21) := pk_rem (a := k) (d := 21) (by omega) (by decide) (by decide)
        have ih' := ih (by omega)
        rw [forN_succ]
        generalize forN (lkF D (nI mn)) k (-2, -2) = p at ih' ⊢
        unfold lkF
        rw [ey, em, ed, show (100 : Int32) = nI 100 from rfl, pk_mul, nI_add]
        rcases ih' with ⟨e, _⟩ | ⟨a, b, ha, hb', e⟩
        · rw [e, if_neg (fun q => absurd q.1 (by decide))]
          exact ⟨_, _, by omega, hy, rfl⟩
        · rw [e]
          split
          · exact ⟨a, b, ha, hb', rfl⟩
          · exact ⟨_, _, by omega, hy, rfl⟩
    have key := down (P := fun r => ∀ H2, ∀ o3 o4 o5 : Option Value, Fg [44] [] H H2 → fi H2 44 6 = (forN (lkF D (nI mn)) (21 * r) (-2, -2)).1 → fi H2 44 7 = (forN (lkF D (nI mn)) (21 * r) (-2, -2)).2 → Wp scr (d + 2) 81 19 [some (.ref 44), some (.int (nI mn)), some (.int (nI r)), o3, o4, o5] [] H2 Q) n ?_ ?_
    · exact key H1 none none none hF1 q6 q7
    · intro H2 o3 o4 o5 hF2 f6 f7
      have hs2 := hF2.shp
      have c2' := (hC.of hF2 (by decide) (by decide)).2.1.1
      rw [w81_19]
      simp (maxDischargeDepth := 12) only [w81_0, w81_1, w81_4, w81_5, w81_6, w81_8, w81_11, w81_12, w81_14, w81_17, w81_18, w81_20, w81_21, w81_24, w81_27, w81_30, w81_33, w81_34, w81_37, w81_38, w81_40, w81_42, w81_45, w81_46, w81_49, w81_50, w81_52, w81_53, w81_54, w81_55, w81_58, w81_60, w81_62, w81_63, w81_65, w81_66, w81_69, w81_71, w81_72, w81_75, w81_77, w81_80, w81_82, w81_83, w81_86, w81_89, w81_90, w81_92, w81_95, w81_96, w81_98, w81_99, w81_100, w81_101, w81_102, w81_105, w81_108, w81_111, w81_114, w81_117, oK_some, cont_int, cont_intS, cont_none, cont_noneS, cont_long, cont_longS, true_and, and_true, false_and, and_false, true_implies, false_implies, not_true_eq_false, not_false_eq_true, eq_self, or_true, true_or, Option.isSome_some, hpf_length, hpa_length, bI_eq0, fi_hpa, fl_hpa, ar_hpf, fi_hpf_ne, fl_hpf_ne, ar_hpa_ne, hpa_hpa, hpf_hpf, nI_1, two_ne, fokZ, implies_true, Nat.reduceEqDiff, rc_44, g_44_6, sf_44_6, fe_44_6, g_44_7, sf_44_7, fe_44_7, g_44_0, rc_3, g_3_2, rc_4, g_16_2, rc_17, rc_6, rc_8, rc_10, rc_12, rc_14, rc_19, rc_21, rc_23, rc_25, rc_27, g_44_4, rc_50, rc_1, rc_31, rc_35, rc_37, rc_39, rc_41, rc_46, rc_48, rc_53, rc_55, rc_57, rc_59, rc_63, rc_66, hs2, c_Table_count (g_4_2 hs2), c2', nI_les]
      exact hQ H2 hF2 f6 f7
    · intro r hr hw H2 o3 o4 o5 hF2 f6 f7
      have hs2 := hF2.shp
      have c2' := (hC.of hF2 (by decide) (by decide)).2.1.1
      rw [w81_19]
      simp (maxDischargeDepth := 12) only [w81_0, w81_1, w81_4, w81_5, w81_6, w81_8, w81_11, w81_12, w81_14, w81_17, w81_18, w81_20, w81_21, w81_24, w81_27, w81_30, w81_33, w81_34, w81_37, w81_38, w81_40, w81_42, w81_45, w81_46, w81_49, w81_50, w81_52, w81_53, w81_54, w81_55, w81_58, w81_60, w81_62, w81_63, w81_65, w81_66, w81_69, w81_71, w81_72, w81_75, w81_77, w81_80, w81_82, w81_83, w81_86, w81_89, w81_90, w81_92, w81_95, w81_96, w81_98, w81_99, w81_100, w81_101, w81_102, w81_105, w81_108, w81_111, w81_114, w81_117, oK_some, cont_int, cont_intS, cont_none, cont_noneS, cont_long, cont_longS, true_and, and_true, false_and, and_false, true_implies, false_implies, not_true_eq_false, not_false_eq_true, eq_self, or_true, true_or, Option.isSome_some, hpf_length, hpa_length, bI_eq0, fi_hpa, fl_hpa, ar_hpf, fi_hpf_ne, fl_hpf_ne, ar_hpa_ne, hpa_hpa, hpf_hpf, nI_1, two_ne, fokZ, implies_true, Nat.reduceEqDiff, rc_44, g_44_6, sf_44_6, fe_44_6, g_44_7, sf_44_7, fe_44_7, g_44_0, rc_3, g_3_2, rc_4, g_16_2, rc_17, rc_6, rc_8, rc_10, rc_12, rc_14, rc_19, rc_21, rc_23, rc_25, rc_27, g_44_4, rc_50, rc_1, rc_31, rc_35, rc_37, rc_39, rc_41, rc_46, rc_48, rc_53, rc_55, rc_57, rc_59, rc_63, rc_66, hs2, c_Table_count (g_4_2 hs2), c2', nI_lef hr (by omega : n < 2147483648), hp2]
      have key2 := down (P := fun dd => ∀ H3, ∀ o4 o5 : Option Value, Fg [44] [] H H3 → fi H3 44 6 = (forN (lkF D (nI mn)) (21 * r + dd) (-2, -2)).1 → fi H3 44 7 = (forN (lkF D (nI mn)) (21 * r + dd) (-2, -2)).2 → Wp scr (d + 2) 81 39 [some (.ref 44), some (.int (nI mn)), some (.int (nI r)), some (.int (nI dd)), o4, o5] [] H3 Q) 21 ?_ ?_
      · exact key2 H2 o4 o5 hF2 f6 f7
      · intro H3 o4 o5 hF3 g6 g7
        rw [w81_39]
        simp (maxDischargeDepth := 12) only [w81_0, w81_1, w81_4, w81_5, w81_6, w81_8, w81_11, w81_12, w81_14, w81_17, w81_18, w81_20, w81_21, w81_24, w81_27, w81_30, w81_33, w81_34, w81_37, w81_38, w81_40, w81_42, w81_45, w81_46, w81_49, w81_50, w81_52, w81_53, w81_54, w81_55, w81_58, w81_60, w81_62, w81_63, w81_65, w81_66, w81_69, w81_71, w81_72, w81_75, w81_77, w81_80, w81_82, w81_83, w81_86, w81_89, w81_90, w81_92, w81_95, w81_96, w81_98, w81_99, w81_100, w81_101, w81_102, w81_105, w81_108, w81_111, w81_114, w81_117, oK_some, cont_int, cont_intS, cont_none, cont_noneS, cont_long, cont_longS, true_and, and_true, false_and, and_false, true_implies, false_implies, not_true_eq_false, not_false_eq_true, eq_self, or_true, true_or, Option.isSome_some, hpf_length, hpa_length, bI_eq0, fi_hpa, fl_hpa, ar_hpf, fi_hpf_ne, fl_hpf_ne, ar_hpa_ne, hpa_hpa, hpf_hpf, nI_1, two_ne, fokZ, implies_true, Nat.reduceEqDiff, rc_44, g_44_6, sf_44_6, fe_44_6, g_44_7, sf_44_7, fe_44_7, g_44_0, rc_3, g_3_2, rc_4, g_16_2, rc_17, rc_6, rc_8, rc_10, rc_12, rc_14, rc_19, rc_21, rc_23, rc_25, rc_27, g_44_4, rc_50, rc_1, rc_31, rc_35, rc_37, rc_39, rc_41, rc_46, rc_48, rc_53, rc_55, rc_57, rc_59, rc_63, rc_66, l20t]
        rw [show 21 * r + 21 = 21 * (r + 1) by omega] at g6 g7
        exact hw H3 _ _ _ hF3 g6 g7
      · intro dd hdd hw2 H3 o4 o5 hF3 g6 g7
        have hs3 := hF3.shp
        have a51 : ar H3 51 = D := by rw [hF3.arr (by decide), hD]
        have hx : (ar H3 51).length < 2147483648 := by rw [gn_51 hs3]; decide
        obtain ⟨x, hx30, ex⟩ := hb (21 * r + dd) (by omega)
        have e1 : nI r * 21 + nI dd = nI (21 * r + dd) := by rw [show (21 : Int32) = nI 21 from rfl, pk_mul, nI_add, Nat.mul_comm]
        have e2 : (100 : Int32) * nI r + nI dd = nI (100 * r + dd) := by rw [show (100 : Int32) = nI 100 from rfl, pk_mul, nI_add]
        have emx : mx (nI x) (nI (mn - x)) = lkX D (nI mn) (21 * r + dd) := by
          unfold lkX mx
          rw [ex, pk_sub hx30]
          by_cases c1 : x < mn - x
          · have h1 : nI x < nI (mn - x) := nI_lt c1 (by omega)
            have h2 : ¬ nI (mn - x) < nI x := nI_nlt (by omega) (by omega)
            rw [if_pos h1, if_neg h2]
          · have h1 : ¬ nI x < nI (mn - x) := nI_nlt (by omega) (by omega)
            rw [if_neg h1]
            by_cases c2 : mn - x < x
            · rw [if_pos (nI_lt c2 (by omega))]
            · have : x = mn - x := by omega
              rw [← this, if_neg (by rw [Int32.not_lt]; exact Int32.le_refl _)]
        have ed : nI (21 * r + dd) / 21 = nI r := by
          rw [show (21 : Int32) = nI 21 from rfl, pk_div (by omega) (by decide) (by decide)]
          congr 1
          omega
        have em : nI (21 * r + dd) - nI (21 * r + dd) / 21 * 21 = nI dd := by
          rw [show (21 : Int32) = nI 21 from rfl, pk_rem (by omega) (by decide) (by decide)]
          congr 1
          omega
        have eF : forN (lkF D (nI mn)) (21 * r + (dd + 1)) (-2, -2) = lkF D (nI mn) (21 * r + dd) (forN (lkF D (nI mn)) (21 * r + dd) (-2, -2)) := rfl
        have eL : ∀ p, lkF D (nI mn) (21 * r + dd) p = if 0 ≤ p.1 ∧ p.2 ≤ lkX D (nI mn) (21 * r + dd) then p else (nI (100 * r + dd), lkX D (nI mn) (21 * r + dd)) := fun p => by
          unfold lkF
          rw [em, ed, e2]
        rw [eF, eL] at hw2
        rw [w81_39]
        simp (maxDischargeDepth := 12) only [w81_0, w81_1, w81_4, w81_5, w81_6, w81_8, w81_11, w81_12, w81_14, w81_17, w81_18, w81_20, w81_21, w81_24, w81_27, w81_30, w81_33, w81_34, w81_37, w81_38, w81_40, w81_42, w81_45, w81_46, w81_49, w81_50, w81_52, w81_53, w81_54, w81_55, w81_58, w81_60, w81_62, w81_63, w81_65, w81_66, w81_69, w81_71, w81_72, w81_75, w81_77, w81_80, w81_82, w81_83, w81_86, w81_89, w81_90, w81_92, w81_95, w81_96, w81_98, w81_99, w81_100, w81_101, w81_102, w81_105, w81_108, w81_111, w81_114, w81_117, oK_some, cont_int, cont_intS, cont_none, cont_noneS, cont_long, cont_longS, true_and, and_true, false_and, and_false, true_implies, false_implies, not_true_eq_false, not_false_eq_true, eq_self, or_true, true_or, Option.isSome_some, hpf_length, hpa_length, bI_eq0, fi_hpa, fl_hpa, ar_hpf, fi_hpf_ne, fl_hpf_ne, ar_hpa_ne, hpa_hpa, hpf_hpf, nI_1, two_ne, fokZ, implies_true, Nat.reduceEqDiff, rc_44, g_44_6, sf_44_6, fe_44_6, g_44_7, sf_44_7, fe_44_7, g_44_0, rc_3, g_3_2, rc_4, g_16_2, rc_17, rc_6, rc_8, rc_10, rc_12, rc_14, rc_19, rc_21, rc_23, rc_25, rc_27, g_44_4, rc_50, rc_1, rc_31, rc_35, rc_37, rc_39, rc_41, rc_46, rc_48, rc_53, rc_55, rc_57, rc_59, rc_63, rc_66, hs3, l20f hdd, e1, c_Cells_at (g_50_0 hs3) (ga_51 hs3) hx, cAt_nI (show 21 * r + dd < 2147483648 by omega), a51, ex, pk_sub hx30, c_max, emx, g7, e2]
        rcases inv (21 * r + dd) (by omega) with ⟨e, _⟩ | ⟨a, b, ha, hb', e⟩
        · rw [e] at hw2 g6 g7 ⊢
          rw [if_neg (fun q => absurd q.1 (by decide))] at hw2
          simp only [oK_some, cont_int, cont_intS, cont_none, cont_noneS, cont_long, cont_longS, true_and, and_true, false_and, and_false, true_implies, false_implies, not_true_eq_false, not_false_eq_true, eq_self, or_true, true_or, Option.isSome_some, hpf_length, hpa_length, bI_eq0, fi_hpa, fl_hpa, ar_hpf, fi_hpf_ne, fl_hpf_ne, ar_hpa_ne, hpa_hpa, hpf_hpf, nI_1, two_ne, fokZ, implies_true, Nat.reduceEqDiff]
          have t7 := fun v => sf_44_7 (v := v) hs3
          exact hw2 _ _ _ ((hF3.trans (fr_hpf (S := [44]) (ci := 7) hs3 rfl (by decide)).fg).trans (fr_hpf (S := [44]) (ci := 7) (t7 _) rfl (by decide)).fg) (by rw [fe_44_6 (t7 _)]) (by rw [fi_hpf_ne (by decide), fe_44_7 hs3])
        · rw [e] at hw2 g6 g7 ⊢
          have h2 : (nI b = (-2 : Int32)) = False := eq_false (fun q => by
            have := congrArg Int32.toInt q
            rw [nI_toInt (by omega), show (-2 : Int32).toInt = -2 by decide] at this
            omega)
          have h0 : (0 : Int32) ≤ nI a := nI_pos' (by omega)
          simp only [h2, oK_some, cont_int, cont_intS, cont_none, cont_noneS, cont_long, cont_longS, true_and, and_true, false_and, and_false, true_implies, false_implies, not_true_eq_false, not_false_eq_true, eq_self, or_true, true_or, Option.isSome_some, hpf_length, hpa_length, bI_eq0, fi_hpa, fl_hpa, ar_hpf, fi_hpf_ne, fl_hpf_ne, ar_hpa_ne, hpa_hpa, hpf_hpf, nI_1, two_ne, fokZ, implies_true, Nat.reduceEqDiff]
          by_cases hc : nI b ≤ lkX D (nI mn) (21 * r + dd)
          · rw [if_pos ⟨h0, hc⟩] at hw2
            simp only [hc, oK_some, cont_int, cont_intS, cont_none, cont_noneS, cont_long, cont_longS, true_and, and_true, false_and, and_false, true_implies, false_implies, not_true_eq_false, not_false_eq_true, eq_self, or_true, true_or, Option.isSome_some, hpf_length, hpa_length, bI_eq0, fi_hpa, fl_hpa, ar_hpf, fi_hpf_ne, fl_hpf_ne, ar_hpa_ne, hpa_hpa, hpf_hpf, nI_1, two_ne, fokZ, implies_true, Nat.reduceEqDiff]
            exact hw2 _ _ _ hF3 g6 g7
          · rw [if_neg (fun q => hc q.2)] at hw2
            simp only [hc, oK_some, cont_int, cont_intS, cont_none, cont_noneS, cont_long, cont_longS, true_and, and_true, false_and, and_false, true_implies, false_implies, not_true_eq_false, not_false_eq_true, eq_self, or_true, true_or, Option.isSome_some, hpf_length, hpa_length, bI_eq0, fi_hpa, fl_hpa, ar_hpf, fi_hpf_ne, fl_hpf_ne, ar_hpa_ne, hpa_hpa, hpf_hpf, nI_1, two_ne, fokZ, implies_true, Nat.reduceEqDiff]
            have t7 := fun v => sf_44_7 (v := v) hs3
            exact hw2 _ _ _ ((hF3.trans (fr_hpf (S := [44]) (ci := 7) hs3 rfl (by decide)).fg).trans (fr_hpf (S := [44]) (ci := 7) (t7 _) rfl (by decide)).fg) (by rw [fe_44_6 (t7 _)]) (by rw [fi_hpf_ne (by decide), fe_44_7 hs3])
end CSRC2
