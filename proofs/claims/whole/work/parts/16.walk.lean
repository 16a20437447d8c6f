/-! ===== Walk: a day ===== -/
theorem forN_len {F : Nat → List Int32 → List Int32} (hF : ∀ k ys, (F k ys).length = ys.length) : ∀ (n : Nat) (ys : List Int32), (forN F n ys).length = ys.length
  | 0, _ => rfl
  | n + 1, ys => by rw [forN, hF, forN_len hF n ys]
def mx (x y : Int32) : Int32 := if x < y then y else x
def mn (x y : Int32) : Int32 := if y < x then y else x
def cAdd (xs : List Int32) (i v : Int32) : List Int32 := if inb i xs.length = true then xs.set i.toNatClampNeg (xs.getD i.toNatClampNeg 0 + v) else xs
theorem cAdd_length {xs : List Int32} {i v : Int32} : (cAdd xs i v).length = xs.length := by
  unfold cAdd; split <;> simp
section WALK
variable {scr : List Int32} {d n st c b h a : Nat} {H : List AC} {xs : List Int32} {Q : Option Value → List AC → Prop}
theorem c_max {x y : Int32} : Wp scr d 306 0 [some (.int x), some (.int y)] [] H Q ↔ Q (some (.int (mx x y))) H := by
  refine Wp_iff ?_
  simp only [w306_0, w306_1, w306_2, w306_5, w306_6, w306_9, w306_10]
  unfold mx
  by_cases hxy : x < y <;> simp [hxy]
theorem c_min {x y : Int32} : Wp scr d 307 0 [some (.int x), some (.int y)] [] H Q ↔ Q (some (.int (mn x y))) H := by
  refine Wp_iff ?_
  simp only [w307_0, w307_1, w307_2, w307_5, w307_6, w307_9, w307_10]
  unfold mn
  by_cases hxy : y < x <;> simp [hxy]
/-- Cells.add -/
theorem c_Cells_add {i x : Int32} (h1 : gfl H h 0 0 = some (.ref a)) (h2 : garr H a = some xs) (hn : xs.length < 2147483648) : Wp scr d 4 0 [some (.ref h), some (.int i), some (.int x)] [] H Q ↔ Q none (hpa H a (cAdd xs i x)) := by
  refine Wp_iff ?_
  have key := inb_iff (i := i) hn
  simp only [w4_0, w4_1, w4_4, w4_5, w4_6, w4_9, w4_10, w4_13, w4_14, w4_17, w4_18, w4_19, w4_20, w4_21, w4_22, w4_23, h1, h2, oK_some, true_and]
  unfold cAdd
  by_cases hi : inb i xs.length = true
  · have k := key.mp hi
    simp [k.1, k.2, hi]
  · rw [if_neg hi, hpa_self h2]
    by_cases c1 : i < 0
    · simp [c1]
    · by_cases c2 : Int32.ofNat xs.length ≤ i
      · simp [c1, c2]
      · exact absurd (key.mpr ⟨c1, c2⟩) hi
def brn (rw : List Int32) (bears : Int32) (xs : List Int32) (r : Int32) : Int32 := if cAt xs r < 10 then mn bears (cAt rw (r * 4 + 2)) else cAt rw (r * 4 + 2)
theorem c_borneByRow {r : Int32} (hS : Shp H) (h0 : gfl H st 8 0 = some (.ref c)) (h1 : gfl H c 0 0 = some (.ref b)) (h2 : garr H b = some xs) (hx : xs.length < 2147483648) : Wp scr (d + 2) 70 0 [some (.ref 3), some (.ref st), some (.int r), none] [] H Q ↔ Q (some (.int (brn (ar H 5) (fi H 3 0) xs r))) H := by
  refine Wp_iff ?_
  have hx5 : (ar H 5).length < 2147483648 := by rw [gn_5 hS]; decide
  simp only [w70_0, w70_1, w70_4, w70_5, w70_6, w70_9, w70_10, w70_11, w70_12, w70_15, w70_18, w70_19, w70_22, w70_23, w70_26, w70_29, w70_30, g_3_2 hS, rc_4 hS, c_Table_at (g_4_1 hS) (ga_5 hS) hx5, cont_int, oK_some, true_and, rcv_of h0, c_State_doubts h0 h1 h2 hx, bI_eq0, decide_eq_false_iff_not, g_3_0 hS, c_min, cont_intS]
  unfold brn
  by_cases hc : cAt xs r < 10 <;> simp [hc]
def brnF (rw : List Int32) (bears : Int32) (xs : List Int32) (i : Nat) (acc : Int32) : Int32 := acc + brn rw bears xs (nI i)
theorem c_borneBy (hS : Shp H) (hn : fi H 4 2 = nI n) (hb : n < 100000) (h0 : gfl H st 8 0 = some (.ref c)) (h1 : gfl H c 0 0 = some (.ref b)) (h2 : garr H b = some xs) (hx : xs.length < 2147483648) : Wp scr (d + 3) 71 0 [some (.ref 3), some (.ref st), none, none] [] H Q ↔ Q (some (.int (forN (brnF (ar H 5) (fi H 3 0) xs) n 0))) H := by
  refine Wp_iff ?_
  simp only [w71_0, w71_1, w71_2, w71_3]
  have key := down (P := fun i => Wp scr (d + 3) 71 4 [some (.ref 3), some (.ref st), some (.int (forN (brnF (ar H 5) (fi H 3 0) xs) i 0)), some (.int (nI i))] [] H (fun r H' => r = some (.int (forN (brnF (ar H 5) (fi H 3 0) xs) n 0)) ∧ H' = H)) n ?_ ?_
  · simpa [nI_0, forN] using key
  · rw [w71_4]
    simp only [w71_0, w71_1, w71_2, w71_3, w71_5, w71_6, w71_9, w71_12, w71_15, w71_16, w71_17, w71_18, w71_19, w71_22, w71_23, w71_24, w71_27, w71_30, w71_31, g_3_2 hS, rc_4 hS, c_Table_count (g_4_2 hS), hn, cont_int, oK_some, true_and, nI_les, true_implies, not_true_eq_false, false_implies, and_true]
  · intro i hi hw
    rw [w71_4]
    simp only [w71_0, w71_1, w71_2, w71_3, w71_5, w71_6, w71_9, w71_12, w71_15, w71_16, w71_17, w71_18, w71_19, w71_22, w71_23, w71_24, w71_27, w71_30, w71_31, g_3_2 hS, rc_4 hS, rc_3 hS, c_Table_count (g_4_2 hS), hn, cont_int, oK_some, true_and, nI_lef hi (by omega : n < 2147483648), true_implies, not_false_eq_true, false_implies, c_borneByRow hS h0 h1 h2 hx, nI_1]
    exact hw
def hsgF (sg : List Int32) (sh gone : Int32) (k : Nat) (ys : List Int32) : List Int32 := if (sh >>> (nI k &&& 31)) &&& 1 = 0 then ys else if tg sg k 3 = gone then cAdd ys (tg sg k 0) (tg sg k 1) else ys
theorem hsgF_len {sg : List Int32} {sh gone : Int32} (k : Nat) (ys : List Int32) : (hsgF sg sh gone k ys).length = ys.length := by
  unfold hsgF; split
  · rfl
  · split
    · exact cAdd_length
    · rfl
theorem c_hearSigns (hS : Shp H) (hn : fi H 10 2 = nI n) (hb : n < 100000) : Wp scr (d + 1) 113 0 [some (.ref 33), none] [] H Q ↔ Q none (hpa H 38 (forN (hsgF (ar H 11) (fi H 34 2) (fi H 34 1)) n (ar H 38))) := by
  refine Wp_iff ?_
  simp only [w113_0, w113_1]
  have hlen : ∀ i, (forN (hsgF (ar H 11) (fi H 34 2) (fi H 34 1)) i (ar H 38)).length = 7 := fun i => by rw [forN_len hsgF_len, gn_38 hS]
  have key := down (P := fun i => Wp scr (d + 1) 113 2 [some (.ref 33), some (.int (nI i))] [] (hpa H 38 (forN (hsgF (ar H 11) (fi H 34 2) (fi H 34 1)) i (ar H 38))) (fun r H' => r = none ∧ H' = hpa H 38 (forN (hsgF (ar H 11) (fi H 34 2) (fi H 34 1)) n (ar H 38)))) n ?_ ?_
  · simpa [nI_0, forN, hpa_self (ga_38 hS)] using key
  · have hs : Shp (hpa H 38 (forN (hsgF (ar H 11) (fi H 34 2) (fi H 34 1)) n (ar H 38))) := shp_hpa hS (by rw [hlen, gn_38 hS])
    rw [w113_2]
    simp only [w113_0, w113_1, w113_3, w113_4, w113_7, w113_10, w113_13, w113_16, w113_17, w113_20, w113_23, w113_24, w113_25, w113_26, w113_27, w113_30, w113_31, w113_34, w113_37, w113_38, w113_39, w113_42, w113_43, w113_46, w113_49, w113_52, w113_53, w113_56, w113_57, w113_60, w113_63, w113_64, w113_65, w113_68, w113_69, w113_72, w113_75, w113_76, w113_77, w113_80, w113_83, w113_86, w113_89, g_33_0 hs, g_3_5 hs, rc_10 hs, c_Table_count (g_10_2 hs), fi_hpa, hn, cont_int, oK_some, true_and, nI_les, true_implies, not_true_eq_false, false_implies, and_true]
  · intro i hi hw
    simp only [forN] at hw
    have hl := hlen i
    generalize hy : forN (hsgF (ar H 11) (fi H 34 2) (fi H 34 1)) i (ar H 38) = ys at hw hl ⊢
    have hs : Shp (hpa H 38 ys) := shp_hpa hS (by rw [hl, gn_38 hS])
    have hx : (ar (hpa H 38 ys) 11).length < 2147483648 := by rw [gn_11 hs]; decide
    have hx2 : (ar (hpa H 38 ys) 38).length < 2147483648 := by rw [gn_38 hs]; decide
    rw [w113_2]
    simp only [w113_0, w113_1, w113_3, w113_4, w113_7, w113_10, w113_13, w113_16, w113_17, w113_20, w113_23, w113_24, w113_25, w113_26, w113_27, w113_30, w113_31, w113_34, w113_37, w113_38, w113_39, w113_42, w113_43, w113_46, w113_49, w113_52, w113_53, w113_56, w113_57, w113_60, w113_63, w113_64, w113_65, w113_68, w113_69, w113_72, w113_75, w113_76, w113_77, w113_80, w113_83, w113_86, w113_89, g_33_0 hs, g_33_1 hs, g_33_2 hs, g_3_5 hs, rc_10 hs, rc_37 hs, g_34_2 hs, g_34_1 hs, c_Table_count (g_10_2 hs), c_Table_at (g_10_1 hs) (ga_11 hs) hx, c_Cells_add (g_37_0 hs) (ga_38 hs) hx2, fi_hpa, ar_hpa_ne (by decide : ¬ (38 : Nat) = 11), ar_hpa_eq (ga_38 hS), hpa_hpa, hpa_length, hn, cont_int, cont_none, oK_some, true_and, nI_lef hi (by omega : n < 2147483648), true_implies, not_false_eq_true, false_implies, nI_1, tg_eq (xs := ar H 11) (i := i) 0 (v := 0) (by omega) (by decide) rfl, tg_eq (xs := ar H 11) (i := i) 1 (v := 1) (by omega) (by decide) rfl, tg_eq (xs := ar H 11) (i := i) 3 (v := 3) (by omega) (by decide) rfl]
    unfold hsgF at hw
    by_cases hc : (fi H 34 2 >>> (nI i &&& 31)) &&& 1 = 0
    · simp only [hc, if_true] at hw
      simp only [hc, not_true_eq_false, false_implies, true_implies, and_true]
      exact hw
    · by_cases h3 : tg (ar H 11) i 3 = fi H 34 1
      · simp only [hc, h3, if_false, if_true] at hw
        simp only [hc, h3, not_false_eq_true, not_true_eq_false, false_implies, true_implies, true_and]
        exact hw
      · simp only [hc, h3, if_false] at hw
        simp only [hc, h3, not_false_eq_true, not_true_eq_false, false_implies, true_implies, true_and, and_true]
        exact hw
def wgt (tells kind : Int32) : Int32 := if kind = 1 then tells / 2 else if kind = 2 then tells * 2 else tells
theorem c_weightOf {x k : Int32} : Wp scr d 115 0 [some (.int x), some (.int k)] [] H Q ↔ Q (some (.int (wgt x k))) H := by
  refine Wp_iff ?_
  simp only [w115_0]
  unfold wgt
  by_cases h1 : k = 1
  · subst h1
    rw [Wp_lsw a115_1 (by decide) (o := 27) (t := 28) (by decide) (by decide)]
    simp only [w115_0, w115_28, w115_29, w115_30, w115_31, w115_32, w115_33, w115_34, w115_35, w115_36, w115_37]
    simp
  · by_cases h2 : k = 2
    · subst h2
      rw [Wp_lsw a115_1 (by decide) (o := 31) (t := 32) (by decide) (by decide)]
      simp only [w115_0, w115_28, w115_29, w115_30, w115_31, w115_32, w115_33, w115_34, w115_35, w115_36, w115_37]
      simp
    · have e1 : Op.lookupswitch.offset [((1 : Int), (27 : Int)), (2, 31)] 35 k.toInt = 35 := by
        rw [lv_osw (k := 1) h1 (by decide), lv_osw (k := 2) h2 (by decide)]
        rfl
      rw [Wp_lsw a115_1 (by decide) (o := 35) (t := 36) e1 (by decide)]
      simp only [w115_0, w115_28, w115_29, w115_30, w115_31, w115_32, w115_33, w115_34, w115_35, w115_36, w115_37]
      simp [h1, h2]
end WALK
