/-! ===== the class: take ===== -/
theorem wr_first {c : Nat → Int32} {g : Nat → Nat} {v0 : Int32} : ∀ m, (forN (fun i (p : Int32 × Int32) => if p.2 < c i then (nI (g i), c i) else p) m (-2, v0)).2 = forN (fun i b => mx b (c i)) m v0 ∧ (forN (fun i (p : Int32 × Int32) => if p.2 < c i then (nI (g i), c i) else p) m (-2, v0)).1 = (if forN (fun i b => mx b (c i)) m v0 = v0 then -2 else (match (List.range m).find? (fun j => decide (c j = forN (fun i b => mx b (c i)) m v0)) with | some j => nI (g j) | none => -2)) ∧ ¬ forN (fun i b => mx b (c i)) m v0 < v0 ∧ (∀ j, j < m → ¬ forN (fun i b => mx b (c i)) m v0 < c j) ∧ (¬ forN (fun i b => mx b (c i)) m v0 = v0 → ∃ j, j < m ∧ c j = forN (fun i b => mx b (c i)) m v0)
  | 0 => by
    refine ⟨rfl, ?_, ?_, fun j hj => absurd hj (Nat.not_lt_zero _), fun h => absurd rfl h⟩
    · rw [forN_zero, forN_zero, if_pos rfl]
    · rw [forN_zero, Int32.not_lt]; exact Int32.le_refl _
  | m + 1 => by
    obtain ⟨h1, h2, h3, h4, h5⟩ := wr_first (c := c) (g := g) (v0 := v0) m
    rw [forN_succ, forN_succ (F := fun i b => mx b (c i))]
    generalize forN (fun i (p : Int32 × Int32) => if p.2 < c i then (nI (g i), c i) else p) m (-2, v0) = p at h1 h2 ⊢
    generalize forN (fun i b => mx b (c i)) m v0 = M at h1 h2 h3 h4 h5 ⊢
    rw [h1, List.range_succ, List.find?_append]
    by_cases hc : M < c m
    · have em : mx M (c m) = c m := by unfold mx; rw [if_pos hc]
      have hlt : v0 < c m := Int32.lt_of_le_of_lt (Int32.not_lt.mp h3) hc
      have hne : ¬ c m = v0 := fun q => by rw [q] at hlt; exact Int32.lt_irrefl hlt
      rw [em, if_pos hc, if_neg hne]
      have hnone : (List.range m).find? (fun j => decide (c j = c m)) = none := by
        rw [List.find?_eq_none]
        intro j hj q
        have e := of_decide_eq_true q
        have := h4 j (List.mem_range.mp hj)
        rw [e] at this
        exact this hc
      rw [hnone]
      refine ⟨rfl, ?_, ?_, fun j hj => ?_, fun _ => ⟨m, by omega, rfl⟩⟩
      · have : [m].find? (fun j => decide (c j = c m)) = some m := by simp
        rw [this]
        rfl
      · rw [Int32.not_lt]; exact Int32.le_of_lt hlt
      · rcases Nat.lt_or_ge j m with q | q
        · have := Int32.not_lt.mp (h4 j q)
          rw [Int32.not_lt]
          exact Int32.le_trans this (Int32.le_of_lt hc)
        · rw [show j = m by omega]; exact Int32.lt_irrefl
    · have em : mx M (c m) = M := by unfold mx; rw [if_neg hc]
      rw [em, if_neg hc]
      refine ⟨h1, ?_, h3, fun j hj => ?_, fun h => ?_⟩
      · rw [h2]
        by_cases hv : M = v0
        · rw [if_pos hv, if_pos hv]
        · rw [if_neg hv, if_neg hv]
          obtain ⟨j, hj, ej⟩ := h5 hv
          have hs : ((List.range m).find? (fun j => decide (c j = M))).isSome = true := by
            rw [List.find?_isSome]
            exact ⟨j, List.mem_range.mpr hj, decide_eq_true ej⟩
          obtain ⟨k, hk⟩ := Option.isSome_iff_exists.mp hs
          rw [hk]
          rfl
      · rcases Nat.lt_or_ge j m with q | q
        · exact h4 j q
        · rw [show j = m by omega]; exact hc
      · obtain ⟨j, hj, ej⟩ := h5 h
        exact ⟨j, by omega, ej⟩
section CTAKE
variable {scr : List Int32} {d n nS nW nG nU nN sh : Nat} {H : List AC} {R st Bs : List Int32} {Q : Option Value → List AC → Prop}
theorem vC_3i (hG : nG < 7) (hs : sh < 64) {i : Nat} (hi : i < fcn nG sh) : vC Bs sh nG 1 0 (3 ^ i) = tkC Bs sh nG (flI nG sh i) := by
  have hf := fcn_le (nG := nG) (x := sh)
  have h0 : 0 / 3 ^ i % 3 = 0 := by rw [Nat.zero_div]
  have hd : ∀ j, j < 6 → (0 + 3 ^ i) / 3 ^ j % 3 = if j = i then 1 else 0 / 3 ^ j % 3 := fun j hj => dg_a1 0 (List.mem_range.mpr (by omega)) i (List.mem_range.mpr (by omega)) h0 j (List.mem_range.mpr hj)
  have e1 := own_add hG hs (w := 1) (Or.inl rfl) (Or.inl rfl) hi h0 hd
  have e2 := own_add hG hs (w := 2) (Or.inl rfl) (Or.inr rfl) hi h0 hd
  rw [if_pos rfl, Nat.zero_add, own_0 (by decide), Nat.zero_or] at e1
  rw [if_neg (by decide), Nat.zero_add, own_0 (by decide)] at e2
  unfold vC tkC
  rw [e1, e2, (fl_mem hi).2, if_neg (by decide)]
/-- what the class takes first -/
def tkA (Bs : List Int32) (sh nG : Nat) : Int32 := if vV Bs sh nG 14 0 0 1 1 = vV Bs sh nG 14 0 0 0 0 then -2 else (match (List.range (fcn nG sh)).find? (fun i => decide (vC Bs sh nG 1 0 (3 ^ i) = vV Bs sh nG 14 0 0 0 0)) with | some i => nI (flI nG sh i) | none => -2)
theorem tk_eq (hG : nG < 7) (hs : sh < 64) (hB : ∀ k, ∃ x, x ≤ 7 ∧ Bs.getD k 0 = nI x) : (if fcn nG sh = 0 then -2 else (forN (wrF (tkC Bs sh nG)) nG (-2, vV Bs sh nG 14 0 0 1 1)).1) = tkA Bs sh nG := by
  obtain ⟨v01, v11, v00, v10⟩ := vC_eq (Bs := Bs) hG hs hB (code := 0) (by decide)
  obtain ⟨y, hy, ey⟩ := vV_b (nG := nG) (sh := sh) hB 14 0 0 1 1
  have ew : vV Bs sh nG 14 0 0 0 0 = forN (fun i b => mx b (vC Bs sh nG 1 0 (3 ^ i))) (fcn nG sh) (vV Bs sh nG 14 0 0 1 1) := by
    rw [← vC_0 (t := 0) (p := 0), v00, vC_0]
    have h2 := fold_mx (o := fun _ => true) (v := fun i => vC Bs sh nG 1 0 (3 ^ i)) (a := -1) (e := nI y) (fcn nG sh)
    rw [mx_m1 (by omega), ← ey] at h2
    have h3 : oT Bs sh nG 0 (fcn nG sh) = forN (fun i b => if (fun _ => true) i = true then mx b ((fun i => vC Bs sh nG 1 0 (3 ^ i)) i) else b) (fcn nG sh) (-1) := by
      unfold oT
      refine forN_congr _ _ (fun i hi b => ?_)
      rw [Nat.zero_div, Nat.zero_mod, Nat.zero_add]
      rfl
    rw [h3, ← h2]
    exact forN_congr _ _ (fun i hi b => by rw [if_pos rfl])
  unfold tkA
  by_cases hz : fcn nG sh = 0
  · rw [if_pos hz]
    have : vV Bs sh nG 14 0 0 1 1 = vV Bs sh nG 14 0 0 0 0 := by
      rw [ew, hz]
      rfl
    rw [if_pos this]
  · rw [if_neg hz]
    have e1 : forN (wrF (tkC Bs sh nG)) nG (-2, vV Bs sh nG 14 0 0 1 1) = forN (fun i (p : Int32 × Int32) => if p.2 < vC Bs sh nG 1 0 (3 ^ i) then (nI (flI nG sh i), vC Bs sh nG 1 0 (3 ^ i)) else p) (fcn nG sh) (-2, vV Bs sh nG 14 0 0 1 1) := by
      have h1 : ∀ k, k ≤ nG → forN (wrF (tkC Bs sh nG)) k (-2, vV Bs sh nG 14 0 0 1 1) = forN (fun g (p : Int32 × Int32) => if (!sh.testBit g) = true then (if p.2 < tkC Bs sh nG g then (nI g, tkC Bs sh nG g) else p) else p) k (-2, vV Bs sh nG 14 0 0 1 1) ∧ ¬ (forN (wrF (tkC Bs sh nG)) k (-2, vV Bs sh nG 14 0 0 1 1)).2 < (0 : Int32) := by
        intro k
        induction k with
        | zero =>
          intro _
          refine ⟨rfl, ?_⟩
          rw [forN_zero, ey]
          exact nI_pos (by omega)
        | succ k ih =>
          intro hk
          obtain ⟨i1, i2⟩ := ih (by omega)
          rw [forN_succ, forN_succ, ← i1]
          generalize forN (wrF (tkC Bs sh nG)) k (-2, vV Bs sh nG 14 0 0 1 1) = p at i2 ⊢
          unfold wrF
          cases hb : sh.testBit k
          · rw [Bool.not_false, if_pos rfl]
            refine ⟨rfl, ?_⟩
            split
            · rename_i h
              intro q
              exact i2 (Int32.lt_trans h q)
            · exact i2
          · have et : tkC Bs sh nG k = -1 := by unfold tkC; rw [hb, if_pos rfl]
            have hn : ¬ p.2 < (-1 : Int32) := fun q => i2 (Int32.lt_trans q (by decide))
            rw [et, if_neg hn, Bool.not_true, if_neg (by decide)]
            exact ⟨rfl, i2⟩
      rw [(h1 nG (Nat.le_refl _)).1, forN_filter]
      show forN _ (fcn nG sh) _ = _
      refine forN_congr _ _ (fun i hi p => ?_)
      show (if p.2 < tkC Bs sh nG (flI nG sh i) then (nI (flI nG sh i), tkC Bs sh nG (flI nG sh i)) else p) = _
      rw [vC_3i hG hs hi]
    obtain ⟨_, h2, _⟩ := wr_first (c := fun i => vC Bs sh nG 1 0 (3 ^ i)) (g := flI nG sh) (v0 := vV Bs sh nG 14 0 0 1 1) (fcn nG sh)
    rw [e1, h2, ← ew]
    by_cases he : vV Bs sh nG 14 0 0 0 0 = vV Bs sh nG 14 0 0 1 1
    · rw [if_pos he, if_pos he.symm]
    · rw [if_neg he, if_neg (fun q => he q.symm)]
theorem c_firstTaken (hG7 : nG < 7) (hS : Shp H) (hG : GmF H nG sh) (hT : GmT H Bs nG sh 0) (hp : fi H 52 7 = vC Bs sh nG 1 1 0) : Wp scr (d + 2) 17 0 [some (.ref 52), none, none] [] H Q ↔ Q (some (.int (tkA Bs sh nG))) H := by
  refine Wp_iff ?_
  generalize hQ : (fun (r : Option Value) (H' : List AC) => r = some (.int (tkA Bs sh nG)) ∧ H' = H) = Q1
  have hf := fcn_le (nG := nG) (x := sh)
  have hx54 : (ar H 54).length < 2147483648 := by rw [gn_54 hS]; decide
  have hx60 : (ar H 60).length < 2147483648 := by rw [gn_60 hS]; decide
  rw [vC_0] at hp
  unfold tkA at hQ
  generalize hW : vV Bs sh nG 14 0 0 0 0 = W at hQ
  have cw : ∀ Q', Wp scr (d + 1) 16 0 [some (.ref 52)] [] H Q' ↔ Q' (some (.int W)) H := fun Q' => by rw [← hW]; exact c_worth hS hT
  simp (maxDischargeDepth := 12) only [w17_0, w17_1, w17_4, w17_5, w17_8, w17_11, w17_13, w17_14, w17_15, w17_16, w17_17, w17_19, w17_20, w17_23, w17_26, w17_27, w17_30, w17_31, w17_34, w17_35, w17_38, w17_41, w17_42, w17_45, w17_46, w17_49, w17_50, w17_51, w17_52, w17_53, w17_54, w17_57, w17_60, w17_62, oK_some, cont_int, cont_intS, cont_none, cont_noneS, cont_long, cont_longS, true_and, and_true, false_and, and_false, true_implies, false_implies, not_true_eq_false, not_false_eq_true, eq_self, or_true, true_or, Option.isSome_some, hpf_length, hpa_length, bI_eq0, fi_hpa, fl_hpa, ar_hpf, fi_hpf_ne, fl_hpf_ne, ar_hpa_ne, hpa_hpa, hpf_hpf, nI_1, two_ne, fokZ, implies_true, Nat.reduceEqDiff, g_52_7, sf_52_7, fe_52_7, rc_52, g_52_6, sf_52_6, fe_52_6, g_52_5, rc_59, rc_1, rc_31, rc_35, rc_37, rc_39, rc_41, rc_46, rc_48, rc_50, rc_53, rc_55, rc_57, rc_63, rc_66, g_52_2, hS, hp, cw]
  by_cases he : vV Bs sh nG 14 0 0 1 1 = W
  · rw [if_pos he] at hQ
    simp only [he, oK_some, cont_int, cont_intS, cont_none, cont_noneS, cont_long, cont_longS, true_and, and_true, false_and, and_false, true_implies, false_implies, not_true_eq_false, not_false_eq_true, eq_self, or_true, true_or, Option.isSome_some, hpf_length, hpa_length, bI_eq0, fi_hpa, fl_hpa, ar_hpf, fi_hpf_ne, fl_hpf_ne, ar_hpa_ne, hpa_hpa, hpf_hpf, nI_1, two_ne, fokZ, implies_true, Nat.reduceEqDiff]
    rw [← hQ]
    exact ⟨rfl, rfl⟩
  · rw [if_neg he] at hQ
    simp only [he, oK_some, cont_int, cont_intS, cont_none, cont_noneS, cont_long, cont_longS, true_and, and_true, false_and, and_false, true_implies, false_implies, not_true_eq_false, not_false_eq_true, eq_self, or_true, true_or, Option.isSome_some, hpf_length, hpa_length, bI_eq0, fi_hpa, fl_hpa, ar_hpf, fi_hpf_ne, fl_hpf_ne, ar_hpa_ne, hpa_hpa, hpf_hpf, nI_1, two_ne, fokZ, implies_true, Nat.reduceEqDiff]
    have key := down (P := fun i => (∀ j, j < i → decide (vC Bs sh nG 1 0 (3 ^ j) = W) = false) → Wp scr (d + 2) 17 18 [some (.ref 52), some (.int (nI (3 ^ i))), some (.int (nI i))] [] H Q1) (fcn nG sh) ?_ ?_
    · exact key (fun j hj => absurd hj (Nat.not_lt_zero _))
    · intro hno
      rw [w17_18]
      simp (maxDischargeDepth := 12) only [w17_0, w17_1, w17_4, w17_5, w17_8, w17_11, w17_13, w17_14, w17_15, w17_16, w17_17, w17_19, w17_20, w17_23, w17_26, w17_27, w17_30, w17_31, w17_34, w17_35, w17_38, w17_41, w17_42, w17_45, w17_46, w17_49, w17_50, w17_51, w17_52, w17_53, w17_54, w17_57, w17_60, w17_62, oK_some, cont_int, cont_intS, cont_none, cont_noneS, cont_long, cont_longS, true_and, and_true, false_and, and_false, true_implies, false_implies, not_true_eq_false, not_false_eq_true, eq_self, or_true, true_or, Option.isSome_some, hpf_length, hpa_length, bI_eq0, fi_hpa, fl_hpa, ar_hpf, fi_hpf_ne, fl_hpf_ne, ar_hpa_ne, hpa_hpa, hpf_hpf, nI_1, two_ne, fokZ, implies_true, Nat.reduceEqDiff, g_52_7, sf_52_7, fe_52_7, rc_52, g_52_6, sf_52_6, fe_52_6, g_52_5, rc_59, rc_1, rc_31, rc_35, rc_37, rc_39, rc_41, rc_46, rc_48, rc_50, rc_53, rc_55, rc_57, rc_63, rc_66, g_52_2, hS, hG.1, nI_les]
      rw [← hQ]
      have : (List.range (fcn nG sh)).find? (fun i => decide (vC Bs sh nG 1 0 (3 ^ i) = W)) = none := by
        rw [List.find?_eq_none]
        intro x hx
        simp [of_decide_eq_false (hno x (List.mem_range.mp hx))]
      rw [this]
      exact ⟨rfl, rfl⟩
    · intro i hi hw hno
      have h3i : 3 ^ i ≤ 729 := p3_le (by omega)
      have h3f : 3 ^ i < 3 ^ fcn nG sh := Nat.pow_lt_pow_right (by decide) hi
      have e60 : (ar H 60).getD (3 ^ i) 0 = vC Bs sh nG 1 0 (3 ^ i) := (hT (3 ^ i) (Nat.zero_le _) h3f).2
      have e3 : nI (3 ^ i) * 3 = nI (3 ^ (i + 1)) := by rw [show (3 : Int32) = nI 3 from rfl, pk_mul, ← Nat.pow_succ]
      rw [w17_18]
      simp (maxDischargeDepth := 12) only [w17_0, w17_1, w17_4, w17_5, w17_8, w17_11, w17_13, w17_14, w17_15, w17_16, w17_17, w17_19, w17_20, w17_23, w17_26, w17_27, w17_30, w17_31, w17_34, w17_35, w17_38, w17_41, w17_42, w17_45, w17_46, w17_49, w17_50, w17_51, w17_52, w17_53, w17_54, w17_57, w17_60, w17_62, oK_some, cont_int, cont_intS, cont_none, cont_noneS, cont_long, cont_longS, true_and, and_true, false_and, and_false, true_implies, false_implies, not_true_eq_false, not_false_eq_true, eq_self, or_true, true_or, Option.isSome_some, hpf_length, hpa_length, bI_eq0, fi_hpa, fl_hpa, ar_hpf, fi_hpf_ne, fl_hpf_ne, ar_hpa_ne, hpa_hpa, hpf_hpf, nI_1, two_ne, fokZ, implies_true, Nat.reduceEqDiff, g_52_7, sf_52_7, fe_52_7, rc_52, g_52_6, sf_52_6, fe_52_6, g_52_5, rc_59, rc_1, rc_31, rc_35, rc_37, rc_39, rc_41, rc_46, rc_48, rc_50, rc_53, rc_55, rc_57, rc_63, rc_66, g_52_2, hS, hG.1, nI_lef hi (by omega : fcn nG sh < 2147483648), c_Cells_at (g_59_0 hS) (ga_60 hS) hx60, cAt_nI (show 3 ^ i < 2147483648 by omega), e60, cw, c_Cells_at (g_53_0 hS) (ga_54 hS) hx54, cAt_nI (show i < 2147483648 by omega), hG.2 i hi, e3]
      by_cases hc : vC Bs sh nG 1 0 (3 ^ i) = W
      · simp only [hc, oK_some, cont_int, cont_intS, cont_none, cont_noneS, cont_long, cont_longS, true_and, and_true, false_and, and_false, true_implies, false_implies, not_true_eq_false, not_false_eq_true, eq_self, or_true, true_or, Option.isSome_some, hpf_length, hpa_length, bI_eq0, fi_hpa, fl_hpa, ar_hpf, fi_hpf_ne, fl_hpf_ne, ar_hpa_ne, hpa_hpa, hpf_hpf, nI_1, two_ne, fokZ, implies_true, Nat.reduceEqDiff]
        rw [← hQ]
        have : (List.range (fcn nG sh)).find? (fun i => decide (vC Bs sh nG 1 0 (3 ^ i) = W)) = some i := by
          rw [List.find?_eq_some_iff_getElem]
          refine ⟨decide_eq_true hc, i, by simpa using hi, by simp, fun j hj => ?_⟩
          simp only [List.getElem_range]
          rw [hno j hj]
          rfl
        rw [this]
        exact ⟨rfl, rfl⟩
      · simp only [hc, oK_some, cont_int, cont_intS, cont_none, cont_noneS, cont_long, cont_longS, true_and, and_true, false_and, and_false, true_implies, false_implies, not_true_eq_false, not_false_eq_true, eq_self, or_true, true_or, Option.isSome_some, hpf_length, hpa_length, bI_eq0, fi_hpa, fl_hpa, ar_hpf, fi_hpf_ne, fl_hpf_ne, ar_hpa_ne, hpa_hpa, hpf_hpf, nI_1, two_ne, fokZ, implies_true, Nat.reduceEqDiff]
        refine hw (fun j hj => ?_)
        rcases Nat.lt_or_ge j i with q | q
        · exact hno j q
        · rw [show j = i by omega]; exact decide_eq_false hc
theorem C_take (hgo : GoC) {m : Int32} (hC : CIv H R st n nS nW nG nU nN) (hg : Gb st) (hsh : st.getD 7 0 = nI sh) (hs : sh < 64) (hQ : CR H Q (if whyF (decide (0 < n)) m 40 = 0 then (if fcn nG sh = 0 then -2 else (forN (wrF (tkC (gBs R st n nW nG nU m.toNatClampNeg) sh nG)) nG (-2, vV (gBs R st n nW nG nU m.toNatClampNeg) sh nG 14 0 0 1 1)).1) else -1) (whyF (decide (0 < n)) m 40)) : Wp scr (d + 7) 166 0 [some (.ref 0), some (.int m)] [] H Q := by
  have hS := hC.shp
  obtain ⟨c2, c3, c4, c5, c6, c7, b2, b3, b4, b5, b6, b7⟩ := id hC.1.2.1
  have hs0 := sf_0_13 (v := 0) hS
  have hC0 := hC.tr (v := 0)
  by_cases hw : whyF (decide (0 < n)) m 40 = 0
  · rw [hw, if_pos rfl, tk_eq (by omega) hs (gBs_b b2)] at hQ
    obtain ⟨hk, hm⟩ := whyF_0 hw
    obtain ⟨em, lm⟩ := of_in (n := 40) hm (by omega)
    simp (maxDischargeDepth := 12) only [w166_0, w166_1, w166_2, w166_3, w166_6, w166_9, w166_10, w166_13, w166_16, w166_17, w166_18, w166_19, w166_22, w166_23, w166_26, w166_27, w166_30, w166_31, w166_34, w166_37, oK_some, cont_int, cont_intS, cont_none, cont_noneS, cont_long, cont_longS, true_and, and_true, false_and, and_false, true_implies, false_implies, not_true_eq_false, not_false_eq_true, eq_self, or_true, true_or, Option.isSome_some, hpf_length, hpa_length, bI_eq0, fi_hpa, fl_hpa, ar_hpf, fi_hpf_ne, fl_hpf_ne, ar_hpa_ne, hpa_hpa, hpf_hpf, nI_1, two_ne, fokZ, implies_true, Nat.reduceEqDiff, rc_0, g_0_13, sf_0_13, fe_0_13, g_0_9, rc_52, g_0_5, rc_30, hS, c_daysTrouble hC, hw, hs0]
    generalize m.toNatClampNeg = mm at em lm hQ
    subst em
    refine c_play hgo hC0 hg lm hsh hs (fun H2 hF2 q1 q2 q3 => ?_)
    have hs2 := hF2.shp
    simp (maxDischargeDepth := 12) only [w166_0, w166_1, w166_2, w166_3, w166_6, w166_9, w166_10, w166_13, w166_16, w166_17, w166_18, w166_19, w166_22, w166_23, w166_26, w166_27, w166_30, w166_31, w166_34, w166_37, oK_some, cont_int, cont_intS, cont_none, cont_noneS, cont_long, cont_longS, true_and, and_true, false_and, and_false, true_implies, false_implies, not_true_eq_false, not_false_eq_true, eq_self, or_true, true_or, Option.isSome_some, hpf_length, hpa_length, bI_eq0, fi_hpa, fl_hpa, ar_hpf, fi_hpf_ne, fl_hpf_ne, ar_hpa_ne, hpa_hpa, hpf_hpf, nI_1, two_ne, fokZ, implies_true, Nat.reduceEqDiff, rc_0, g_0_13, sf_0_13, fe_0_13, g_0_9, rc_52, g_0_5, rc_30, hF2.len, hs2, c_firstTaken (by omega : nG < 7) hs2 q1 q2 q3]
    exact cr_ok hS hF2 (by decide) (by decide) (by decide) (by decide) hQ
  · rw [if_neg hw] at hQ
    simp (maxDischargeDepth := 12) only [w166_0, w166_1, w166_2, w166_3, w166_6, w166_9, w166_10, w166_13, w166_16, w166_17, w166_18, w166_19, w166_22, w166_23, w166_26, w166_27, w166_30, w166_31, w166_34, w166_37, oK_some, cont_int, cont_intS, cont_none, cont_noneS, cont_long, cont_longS, true_and, and_true, false_and, and_false, true_implies, false_implies, not_true_eq_false, not_false_eq_true, eq_self, or_true, true_or, Option.isSome_some, hpf_length, hpa_length, bI_eq0, fi_hpa, fl_hpa, ar_hpf, fi_hpf_ne, fl_hpf_ne, ar_hpa_ne, hpa_hpa, hpf_hpf, nI_1, two_ne, fokZ, implies_true, Nat.reduceEqDiff, rc_0, g_0_13, sf_0_13, fe_0_13, g_0_9, rc_52, g_0_5, rc_30, hS, c_daysTrouble hC, hw]
    exact cr_no hS hQ
end CTAKE
