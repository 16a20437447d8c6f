/-! ===== leaves: Table, State, Slope, Shelf (contracts for any object of the class) ===== -/
def bI (b : Bool) : Int32 := if b then 1 else 0
theorem bI_or (b : Bool) : bI b = 0 ∨ bI b = 1 := by cases b <;> simp [bI]
section TABLE
variable {scr : List Int32} {d t a : Nat} {H : List AC} {xs : List Int32} {n m : Int32} {Q : Option Value → List AC → Prop}
theorem c_Table_count (h2 : gfl H t 9 2 = some (.int n)) : Wp scr d 89 0 [some (.ref t)] [] H Q ↔ Q (some (.int n)) H := by
  simp only [w89_0, w89_1, w89_4, h2, oK_some]
theorem c_Table_has {i : Int32} (h2 : gfl H t 9 2 = some (.int n)) : Wp scr d 90 0 [some (.ref t), some (.int i)] [] H Q ↔ Q (some (.int (bI (decide (0 ≤ i ∧ i < n))))) H := by
  refine Wp_iff ?_
  simp only [w90_0, w90_1, w90_4, w90_5, w90_6, w90_9, w90_12, w90_13, w90_16, w90_17, h2, oK_some, eq_self, or_true, true_or]
  have e1 : 0 ≤ i ↔ ¬ i < 0 := by rw [Int32.not_lt]
  have e2 : i < n ↔ ¬ n ≤ i := by rw [Int32.not_le]
  by_cases c1 : i < 0
  · simp [c1, e1, bI]
  · by_cases c2 : n ≤ i
    · simp [c1, c2, e1, e2, bI]
    · simp [c1, c2, e1, e2, bI]
theorem c_Table_isFull (h0 : gfl H t 9 0 = some (.int m)) (h2 : gfl H t 9 2 = some (.int n)) : Wp scr d 91 0 [some (.ref t)] [] H Q ↔ Q (some (.int (bI (decide (m ≤ n))))) H := by
  refine Wp_iff ?_
  simp only [w91_0, w91_1, w91_4, w91_5, w91_8, w91_11, w91_12, w91_15, w91_16, h0, h2, oK_some, eq_self, or_true, true_or]
  have e2 : n < m ↔ ¬ m ≤ n := by rw [Int32.not_le]
  by_cases c2 : m ≤ n
  · simp [c2, e2, bI]
  · simp [c2, e2, bI]
theorem c_Table_at {i c : Int32} (h1 : gfl H t 9 1 = some (.ref a)) (h2 : garr H a = some xs) (hn : xs.length < 2147483648) : Wp scr d 92 0 [some (.ref t), some (.int i), some (.int c), none] [] H Q ↔ Q (some (.int (cAt xs (i * 4 + c)))) H := by
  refine Wp_iff ?_
  simp only [w92_0, w92_1, w92_2, w92_3, w92_4, w92_5, w92_6, w92_7, w92_10, w92_11, w92_12, w92_15, w92_16, w92_19, w92_20, w92_23, w92_24, w92_25, w92_28, w92_29, h1, h2, oK_some, and_true]
  generalize i * 4 + c = j
  have key := inb_iff (i := j) hn
  unfold cAt
  by_cases hi : inb j xs.length = true
  · have k := key.mp hi
    simp [k.1, k.2, hi]
  · rw [if_neg hi]
    by_cases c1 : j < 0
    · simp [c1]
    · by_cases c2 : Int32.ofNat xs.length ≤ j
      · simp [c1, c2]
      · exact absurd (key.mpr ⟨c1, c2⟩) hi
theorem c_Table_allBits (h2 : gfl H t 9 2 = some (.int n)) : Wp scr d 94 0 [some (.ref t)] [] H Q ↔ Q (some (.int ((1 <<< (n &&& 31)) - 1))) H := by
  simp only [w94_0, w94_1, w94_2, w94_5, w94_6, w94_7, w94_8, h2, oK_some]
theorem c_Table_clear {u : Value} (h2 : gfl H t 9 2 = some u) : Wp scr d 96 0 [some (.ref t)] [] H Q ↔ Q none (hpf H t 2 (.int 0)) := by
  simp only [w96_0, w96_1, w96_2, w96_5, h2, oK_some, Option.isSome_some, true_and]
end TABLE
section STATE
variable {scr : List Int32} {d t a b : Nat} {H : List AC} {xs : List Int32} {n m : Int32} {Q : Option Value → List AC → Prop}
/-- State.doubts -/
theorem c_State_doubts {r : Int32} (h0 : gfl H t 8 0 = some (.ref a)) (h1 : gfl H a 0 0 = some (.ref b)) (h2 : garr H b = some xs) (hn : xs.length < 2147483648) : Wp scr (d + 1) 87 0 [some (.ref t), some (.int r)] [] H Q ↔ Q (some (.int (bI (decide (cAt xs r < 10))))) H := by
  refine Wp_iff ?_
  simp only [w87_0, w87_1, w87_4, w87_5, w87_8, w87_10, w87_13, w87_14, w87_17, w87_18, h0, oK_some, eq_self, or_true, true_or, rcv_of h1, c_Cells_at h1 h2 hn, cont_int, true_and]
  have e2 : cAt xs r < 10 ↔ ¬ 10 ≤ cAt xs r := by rw [Int32.not_le]
  by_cases c2 : 10 ≤ cAt xs r
  · simp [c2, e2, bI]
  · simp [c2, e2, bI]
end STATE
