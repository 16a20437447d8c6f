/-! ===== Slope (told: cells 3 to 15), by folds ===== -/
def forN {α : Type} (F : Nat → α → α) : Nat → α → α
  | 0, a => a
  | n + 1, a => F n (forN F n a)
theorem nI_lef {i n : Nat} (h : i < n) (hn : n < 2147483648) : (nI n ≤ nI i) = False := eq_false (nI_ge h hn)
theorem nI_les {n : Nat} : (nI n ≤ nI n) = True := eq_true (Int32.le_refl _)
theorem bI_eq0 {b : Bool} : (bI b = 0) = (b = false) := by cases b <;> simp [bI]
theorem bI_eq1 {b : Bool} : (bI b = 1) = (b = true) := by cases b <;> simp [bI]
def tg (xs : List Int32) (i c : Nat) : Int32 := xs.getD (4 * i + c) 0
theorem tg_eq {xs : List Int32} {i : Nat} (c : Nat) {v : Int32} (hi : i < 100000) (hc : c < 4) (hv : v = nI c) : cAt xs (nI i * 4 + v) = tg xs i c := by
  have e : nI i * 4 + v = nI (4 * i + c) := by
    rw [hv, show (4 : Int32) = nI 4 from rfl, pk_mul, nI_add, Nat.mul_comm]
  rw [e, cAt_nI (by omega)]
  rfl
section SLOPE
variable {scr : List Int32} {d n st c b : Nat} {H : List AC} {xs : List Int32} {Q : Option Value → List AC → Prop}
/-- who doubts, by a row of faiths -/
def dbtF (xs : List Int32) (i : Nat) (acc : Int32) : Int32 := if cAt xs (nI i) < 10 then acc ||| (1 <<< (nI i &&& 31)) else acc
def dbt (n : Nat) (xs : List Int32) : Int32 := forN (dbtF xs) n 0
theorem c_doubtersOf (h : Shp H) (hn : fi H 4 2 = nI n) (hb : n < 100000) (h0 : gfl H st 8 0 = some (.ref c)) (h1 : gfl H c 0 0 = some (.ref b)) (h2 : garr H b = some xs) (hx : xs.length < 2147483648) : Wp scr (d + 2) 69 0 [some (.ref 3), some (.ref st), none, none] [] H Q ↔ Q (some (.int (dbt n xs))) H := by
  refine Wp_iff ?_
  simp only [w69_0, w69_1, w69_2, w69_3]
  have key := down (P := fun i => Wp scr (d + 2) 69 4 [some (.ref 3), some (.ref st), some (.int (forN (dbtF xs) i 0)), some (.int (nI i))] [] H (fun r H' => r = some (.int (dbt n xs)) ∧ H' = H)) n ?_ ?_
  · simpa [nI_0, forN] using key
  · rw [w69_4]
    simp only [w69_0, w69_1, w69_2, w69_3, w69_5, w69_6, w69_9, w69_12, w69_15, w69_16, w69_17, w69_20, w69_23, w69_24, w69_25, w69_26, w69_27, w69_28, w69_29, w69_32, w69_35, w69_36, g_3_2 h, rc_4 h, c_Table_count (g_4_2 h), hn, cont_int, oK_some, true_and, nI_les, true_implies, not_true_eq_false, false_implies, and_true]
    rfl
  · intro i hi hw
    rw [w69_4]
    simp only [w69_0, w69_1, w69_2, w69_3, w69_5, w69_6, w69_9, w69_12, w69_15, w69_16, w69_17, w69_20, w69_23, w69_24, w69_25, w69_26, w69_27, w69_28, w69_29, w69_32, w69_35, w69_36, g_3_2 h, rc_4 h, c_Table_count (g_4_2 h), hn, cont_int, oK_some, true_and, nI_lef hi (by omega : n < 2147483648), true_implies, not_false_eq_true, false_implies, rcv_of h0, c_State_doubts h0 h1 h2 hx, bI_eq0, decide_eq_false_iff_not, nI_1]
    simp only [forN, dbtF] at hw
    by_cases hc : cAt xs (nI i) < 10
    · simp only [hc, if_true] at hw
      simp only [hc, not_true_eq_false, false_implies, not_false_eq_true, true_implies, true_and]
      exact hw
    · simp only [hc, if_false] at hw
      simp only [hc, not_true_eq_false, false_implies, not_false_eq_true, true_implies, and_true]
      exact hw
/-- sights that no wall that is up stands in -/
def opnF (wl : List Int32) (up : Int32) (k : Nat) (acc : Int32) : Int32 := if (up >>> (nI k &&& 31)) &&& 1 = 0 then acc else acc &&& ((1 <<< (tg wl k 3 &&& 31)) ^^^ (-1))
def opn (nS nW : Nat) (wl : List Int32) (up : Int32) : Int32 := forN (opnF wl up) nW ((1 <<< (nI nS &&& 31)) - 1)
theorem c_openSights {nS nW : Nat} {up : Int32} (h : Shp H) (hS : fi H 6 2 = nI nS) (hW : fi H 8 2 = nI nW) (hb : nW < 100000) : Wp scr (d + 1) 66 0 [some (.ref 3), some (.int up), none, none] [] H Q ↔ Q (some (.int (opn nS nW (ar H 9) up))) H := by
  refine Wp_iff ?_
  have hx : (ar H 9).length < 2147483648 := by rw [gn_9 h]; decide
  simp only [w66_0, w66_1, w66_4, g_3_3 h, oK_some, rc_6 h, c_Table_allBits (g_6_2 h), hS, cont_int, true_and, w66_7, w66_8, w66_9]
  have key := down (P := fun i => Wp scr (d + 1) 66 10 [some (.ref 3), some (.int up), some (.int (forN (opnF (ar H 9) up) i ((1 <<< (nI nS &&& 31)) - 1))), some (.int (nI i))] [] H (fun r H' => r = some (.int (opn nS nW (ar H 9) up)) ∧ H' = H)) nW ?_ ?_
  · simpa [nI_0, forN] using key
  · rw [w66_10]
    simp only [w66_0, w66_1, w66_4, w66_7, w66_8, w66_9, w66_11, w66_12, w66_15, w66_18, w66_21, w66_22, w66_23, w66_24, w66_25, w66_26, w66_29, w66_30, w66_31, w66_32, w66_35, w66_36, w66_37, w66_40, w66_41, w66_42, w66_43, w66_44, w66_45, w66_48, w66_51, w66_52, g_3_4 h, rc_8 h, c_Table_count (g_8_2 h), hW, cont_int, oK_some, true_and, nI_les, true_implies, not_true_eq_false, false_implies, and_true]
    rfl
  · intro i hi hw
    rw [w66_10]
    simp only [w66_0, w66_1, w66_4, w66_7, w66_8, w66_9, w66_11, w66_12, w66_15, w66_18, w66_21, w66_22, w66_23, w66_24, w66_25, w66_26, w66_29, w66_30, w66_31, w66_32, w66_35, w66_36, w66_37, w66_40, w66_41, w66_42, w66_43, w66_44, w66_45, w66_48, w66_51, w66_52, g_3_4 h, rc_8 h, c_Table_count (g_8_2 h), hW, cont_int, oK_some, true_and, nI_lef hi (by omega : nW < 2147483648), true_implies, not_false_eq_true, false_implies, c_Table_at (g_8_1 h) (ga_9 h) hx, nI_1, tg_eq (xs := ar H 9) (i := i) 3 (v := 3) (by omega) (by decide) rfl]
    simp only [forN, opnF] at hw
    by_cases hc : (up >>> (nI i &&& 31)) &&& 1 = 0
    · simp only [hc, if_true] at hw
      simp only [hc, not_true_eq_false, false_implies, true_implies, and_true]
      exact hw
    · simp only [hc, if_false] at hw
      simp only [hc, not_false_eq_true, false_implies, true_implies, true_and]
      exact hw
/-- rows that a row sees, by open sights -/
def snbF (ss : List Int32) (row op : Int32) (s : Nat) (acc : Int32) : Int32 := if (op >>> (nI s &&& 31)) &&& 1 = 0 then acc else if tg ss s 0 = row then acc ||| (1 <<< (tg ss s 1 &&& 31)) else acc
def snb (nS : Nat) (ss : List Int32) (row op : Int32) : Int32 := forN (snbF ss row op) nS 0
theorem c_seenBy {nS : Nat} {row op : Int32} (h : Shp H) (hS : fi H 6 2 = nI nS) (hb : nS < 100000) : Wp scr (d + 1) 67 0 [some (.ref 3), some (.int row), some (.int op), none, none] [] H Q ↔ Q (some (.int (snb nS (ar H 7) row op))) H := by
  refine Wp_iff ?_
  have hx : (ar H 7).length < 2147483648 := by rw [gn_7 h]; decide
  simp only [w67_0, w67_1, w67_2, w67_3]
  have key := down (P := fun i => Wp scr (d + 1) 67 5 [some (.ref 3), some (.int row), some (.int op), some (.int (forN (snbF (ar H 7) row op) i 0)), some (.int (nI i))] [] H (fun r H' => r = some (.int (snb nS (ar H 7) row op)) ∧ H' = H)) nS ?_ ?_
  · simpa [nI_0, forN] using key
  · rw [w67_5]
    simp only [w67_0, w67_1, w67_2, w67_3, w67_7, w67_8, w67_11, w67_14, w67_17, w67_18, w67_20, w67_21, w67_22, w67_23, w67_26, w67_27, w67_30, w67_32, w67_33, w67_36, w67_37, w67_40, w67_41, w67_42, w67_43, w67_46, w67_48, w67_49, w67_52, w67_53, w67_54, w67_55, w67_58, w67_61, w67_62, g_3_3 h, rc_6 h, c_Table_count (g_6_2 h), hS, cont_int, oK_some, true_and, nI_les, true_implies, not_true_eq_false, false_implies, and_true]
    rfl
  · intro i hi hw
    rw [w67_5]
    simp only [w67_0, w67_1, w67_2, w67_3, w67_7, w67_8, w67_11, w67_14, w67_17, w67_18, w67_20, w67_21, w67_22, w67_23, w67_26, w67_27, w67_30, w67_32, w67_33, w67_36, w67_37, w67_40, w67_41, w67_42, w67_43, w67_46, w67_48, w67_49, w67_52, w67_53, w67_54, w67_55, w67_58, w67_61, w67_62, g_3_3 h, rc_6 h, c_Table_count (g_6_2 h), hS, cont_int, oK_some, true_and, nI_lef hi (by omega : nS < 2147483648), true_implies, not_false_eq_true, false_implies, c_Table_at (g_6_1 h) (ga_7 h) hx, nI_1, tg_eq (xs := ar H 7) (i := i) 0 (v := 0) (by omega) (by decide) rfl, tg_eq (xs := ar H 7) (i := i) 1 (v := 1) (by omega) (by decide) rfl]
    simp only [forN, snbF] at hw
    by_cases hc : (op >>> (nI i &&& 31)) &&& 1 = 0
    · simp only [hc, if_true] at hw
      simp only [hc, not_true_eq_false, false_implies, true_implies, and_true]
      exact hw
    · by_cases h3 : tg (ar H 7) i 0 = row
      · simp only [hc, h3, if_false, if_true] at hw
        simp only [hc, h3, not_false_eq_true, not_true_eq_false, false_implies, true_implies, true_and]
        exact hw
      · simp only [hc, h3, if_false] at hw
        simp only [hc, h3, not_false_eq_true, not_true_eq_false, false_implies, true_implies, true_and, and_true]
        exact hw
/-- rows that see one of some, by open sights -/
def srsF (ss : List Int32) (rows op : Int32) (s : Nat) (acc : Int32) : Int32 := if (op >>> (nI s &&& 31)) &&& 1 = 0 then acc else if (rows >>> (tg ss s 1 &&& 31)) &&& 1 = 0 then acc else acc ||| (1 <<< (tg ss s 0 &&& 31))
def srs (nS : Nat) (ss : List Int32) (rows op : Int32) : Int32 := forN (srsF ss rows op) nS 0
theorem c_seersOf {nS : Nat} {rows op : Int32} (h : Shp H) (hS : fi H 6 2 = nI nS) (hb : nS < 100000) : Wp scr (d + 1) 68 0 [some (.ref 3), some (.int rows), some (.int op), none, none] [] H Q ↔ Q (some (.int (srs nS (ar H 7) rows op))) H := by
  refine Wp_iff ?_
  have hx : (ar H 7).length < 2147483648 := by rw [gn_7 h]; decide
  simp only [w68_0, w68_1, w68_2, w68_3]
  have key := down (P := fun i => Wp scr (d + 1) 68 5 [some (.ref 3), some (.int rows), some (.int op), some (.int (forN (srsF (ar H 7) rows op) i 0)), some (.int (nI i))] [] H (fun r H' => r = some (.int (srs nS (ar H 7) rows op)) ∧ H' = H)) nS ?_ ?_
  · simpa [nI_0, forN] using key
  · rw [w68_5]
    simp only [w68_0, w68_1, w68_2, w68_3, w68_7, w68_8, w68_11, w68_14, w68_17, w68_18, w68_20, w68_21, w68_22, w68_23, w68_26, w68_27, w68_28, w68_31, w68_33, w68_34, w68_37, w68_38, w68_39, w68_40, w68_43, w68_44, w68_45, w68_46, w68_49, w68_51, w68_52, w68_55, w68_56, w68_57, w68_58, w68_61, w68_64, w68_65, g_3_3 h, rc_6 h, c_Table_count (g_6_2 h), hS, cont_int, oK_some, true_and, nI_les, true_implies, not_true_eq_false, false_implies, and_true]
    rfl
  · intro i hi hw
    rw [w68_5]
    simp only [w68_0, w68_1, w68_2, w68_3, w68_7, w68_8, w68_11, w68_14, w68_17, w68_18, w68_20, w68_21, w68_22, w68_23, w68_26, w68_27, w68_28, w68_31, w68_33, w68_34, w68_37, w68_38, w68_39, w68_40, w68_43, w68_44, w68_45, w68_46, w68_49, w68_51, w68_52, w68_55, w68_56, w68_57, w68_58, w68_61, w68_64, w68_65, g_3_3 h, rc_6 h, c_Table_count (g_6_2 h), hS, cont_int, oK_some, true_and, nI_lef hi (by omega : nS < 2147483648), true_implies, not_false_eq_true, false_implies, c_Table_at (g_6_1 h) (ga_7 h) hx, nI_1, tg_eq (xs := ar H 7) (i := i) 0 (v := 0) (by omega) (by decide) rfl, tg_eq (xs := ar H 7) (i := i) 1 (v := 1) (by omega) (by decide) rfl]
    simp only [forN, srsF] at hw
    by_cases hc : (op >>> (nI i &&& 31)) &&& 1 = 0
    · simp only [hc, if_true] at hw
      simp only [hc, not_true_eq_false, false_implies, true_implies, and_true]
      exact hw
    · by_cases h3 : (rows >>> (tg (ar H 7) i 1 &&& 31)) &&& 1 = 0
      · simp only [hc, h3, if_false, if_true] at hw
        simp only [hc, h3, not_false_eq_true, not_true_eq_false, false_implies, true_implies, true_and, and_true]
        exact hw
      · simp only [hc, h3, if_false] at hw
        simp only [hc, h3, not_false_eq_true, not_true_eq_false, false_implies, true_implies, true_and]
        exact hw
end SLOPE
