/-! ===== the Model: leaves ===== -/
theorem cl_0 : (0 : Int32).toNatClampNeg = 0 := rfl
theorem ib_0_211 : inb 0 211 = true := by decide
theorem ib_0_10 : inb 0 10 = true := by decide
theorem cl_1 : (1 : Int32).toNatClampNeg = 1 := rfl
theorem ib_1_211 : inb 1 211 = true := by decide
theorem ib_1_10 : inb 1 10 = true := by decide
theorem cl_2 : (2 : Int32).toNatClampNeg = 2 := rfl
theorem ib_2_211 : inb 2 211 = true := by decide
theorem ib_2_10 : inb 2 10 = true := by decide
theorem cl_3 : (3 : Int32).toNatClampNeg = 3 := rfl
theorem ib_3_211 : inb 3 211 = true := by decide
theorem ib_3_10 : inb 3 10 = true := by decide
theorem cl_4 : (4 : Int32).toNatClampNeg = 4 := rfl
theorem ib_4_211 : inb 4 211 = true := by decide
theorem ib_4_10 : inb 4 10 = true := by decide
theorem cl_5 : (5 : Int32).toNatClampNeg = 5 := rfl
theorem ib_5_211 : inb 5 211 = true := by decide
theorem ib_5_10 : inb 5 10 = true := by decide
theorem cl_6 : (6 : Int32).toNatClampNeg = 6 := rfl
theorem ib_6_211 : inb 6 211 = true := by decide
theorem ib_6_10 : inb 6 10 = true := by decide
theorem cl_7 : (7 : Int32).toNatClampNeg = 7 := rfl
theorem ib_7_211 : inb 7 211 = true := by decide
theorem ib_7_10 : inb 7 10 = true := by decide
theorem cl_8 : (8 : Int32).toNatClampNeg = 8 := rfl
theorem ib_8_211 : inb 8 211 = true := by decide
theorem ib_8_10 : inb 8 10 = true := by decide
theorem cl_9 : (9 : Int32).toNatClampNeg = 9 := rfl
theorem ib_9_211 : inb 9 211 = true := by decide
theorem ib_9_10 : inb 9 10 = true := by decide
theorem cl_10 : (10 : Int32).toNatClampNeg = 10 := rfl
theorem ib_10_211 : inb 10 211 = true := by decide
theorem cl_11 : (11 : Int32).toNatClampNeg = 11 := rfl
theorem ib_11_211 : inb 11 211 = true := by decide
theorem ixm {v w : Int32} (c m k : Nat) (hv : v = nI c) (hw : w = nI m) : v + w * nI k = nI (c + m * k) := by
  rw [hv, hw, pk_mul, nI_add]
theorem ixa {v : Int32} (a c : Nat) (hv : v = nI c) : nI a + v = nI (a + c) := by
  rw [hv, nI_add]
/-- a place of r -/
def rg (R : List Int32) (j : Nat) : Int32 := R.getD j 0
section MODEL
variable {scr : List Int32} {d n w : Nat} {H : List AC} {ws : List Int32} {Q : Option Value → List AC → Prop}
theorem m_in {v lo hi : Int32} : Wp scr d 188 0 [some (.int v), some (.int lo), some (.int hi)] [] H Q ↔ Q (some (.int (bI (decide (lo ≤ v ∧ v ≤ hi))))) H := by
  refine Wp_iff ?_
  simp only [w188_0, w188_1, w188_2, w188_5, w188_6, w188_7, w188_10, w188_11, w188_14, w188_15, eq_self, or_true, true_or]
  have e1 : lo ≤ v ↔ ¬ v < lo := by rw [Int32.not_lt]
  have e2 : v ≤ hi ↔ ¬ hi < v := by rw [Int32.not_lt]
  by_cases c1 : v < lo
  · simp [c1, e1, bI]
  · by_cases c2 : hi < v
    · simp [c1, c2, e1, e2, bI]
    · simp [c1, c2, e1, e2, bI]
/-- a bit, as the reference asks for it -/
def hb (s k : Int32) : Bool := decide ((s >>> (k &&& 31)) &&& 1 = 1)
theorem m_hasBit {s k : Int32} : Wp scr d 189 0 [some (.int s), some (.int k)] [] H Q ↔ Q (some (.int (bI (hb s k)))) H := by
  refine Wp_iff ?_
  simp only [w189_0, w189_1, w189_2, w189_3, w189_4, w189_5, w189_6, w189_9, w189_10, w189_13, w189_14, eq_self, or_true, true_or]
  unfold hb
  by_cases c1 : (s >>> (k &&& 31)) &&& 1 = 1
  · simp [c1, bI]
  · simp [c1, bI]
def onesF (s : Int32) (k : Nat) (acc : Int32) : Int32 := acc + ((s >>> (nI k &&& 31)) &&& 1)
def ones (s : Int32) : Int32 := forN (onesF s) 8 0
theorem m_ones {s : Int32} : Wp scr d 190 0 [some (.int s), none, none] [] H Q ↔ Q (some (.int (ones s))) H := by
  refine Wp_iff ?_
  simp only [w190_0, w190_1, w190_2, w190_3]
  have key := down (P := fun i => Wp scr d 190 4 [some (.int s), some (.int (forN (onesF s) i 0)), some (.int (nI i))] [] H (fun r H' => r = some (.int (ones s)) ∧ H' = H)) 8 ?_ ?_
  · simpa [nI_0, forN] using key
  · rw [w190_4]
    simp only [w190_0, w190_1, w190_2, w190_3, w190_5, w190_7, w190_10, w190_11, w190_12, w190_13, w190_14, w190_15, w190_16, w190_17, w190_18, w190_21, w190_24, w190_25, show ((8 : Int32) ≤ nI 8) = True from eq_true (by decide), true_implies, not_true_eq_false, false_implies, and_true]
    rfl
  · intro i hi hw
    rw [w190_4]
    simp only [w190_0, w190_1, w190_2, w190_3, w190_5, w190_7, w190_10, w190_11, w190_12, w190_13, w190_14, w190_15, w190_16, w190_17, w190_18, w190_21, w190_24, w190_25, show ((8 : Int32) ≤ nI i) = False from eq_false (nI_ge (b := 8) hi (by decide)), true_implies, not_false_eq_true, false_implies, true_and, nI_1]
    exact hw
theorem m_kindOf {k : Nat} (hS : Shp H) (hk : k < 60) : Wp scr d 223 0 [some (.ref 68), some (.int (nI k))] [] H Q ↔ Q (some (.int (rg (ar H 71) (9 + 3 * k)))) H := by
  simp only [w223_0, w223_1, w223_4, w223_6, w223_7, w223_8, w223_9, w223_10, w223_11, g_68_15 hS, ga_71 hS, oK_some, gn_71 hS, ixm 9 3 k (v := 9) (w := 3) rfl rfl, inb_nI (i := 9 + 3 * k) (by omega), decide_eq_true (by omega : 9 + 3 * k < 211), true_and, nI_clamp (n := 9 + 3 * k) (by omega)]
  rfl
theorem m_doubts {k : Nat} (hw : garr H w = some ws) (hl : ws.length = 10) (hk : k < 10) : Wp scr d 224 0 [some (.ref w), some (.int (nI k))] [] H Q ↔ Q (some (.int (bI (decide (ws.getD k 0 < 10))))) H := by
  refine Wp_iff ?_
  simp only [w224_0, w224_1, w224_2, w224_3, w224_5, w224_8, w224_9, w224_12, w224_13, hw, oK_some, hl, inb_nI (i := k) (by omega), decide_eq_true hk, true_and, nI_clamp (n := k) (by omega), eq_self, or_true, true_or]
  have e2 : ws.getD k 0 < 10 ↔ ¬ 10 ≤ ws.getD k 0 := by rw [Int32.not_le]
  by_cases c2 : 10 ≤ ws.getD k 0
  · rw [decide_eq_false (fun q => e2.mp q c2)]
    simp only [c2, true_implies, not_true_eq_false, false_implies, and_true, bI]
    simp
  · rw [decide_eq_true (e2.mpr c2)]
    simp only [c2, true_implies, not_false_eq_true, false_implies, true_and, bI]
    simp
/-- is there one among the first n -/
def exN (p : Nat → Bool) (n : Nat) : Bool := (List.range n).any p
theorem exN_t {p : Nat → Bool} {n k : Nat} (hk : k < n) (h : p k = true) : exN p n = true := List.any_eq_true.mpr ⟨k, List.mem_range.mpr hk, h⟩
theorem exN_f {p : Nat → Bool} {n : Nat} (h : ∀ k, k < n → p k = false) : exN p n = false := by
  unfold exN
  rw [List.any_eq_false]
  intro k hk
  rw [h k (List.mem_range.mp hk)]
  decide
def isWp (R : List Int32) (up : Int32) (a b : Int32) (k : Nat) : Bool := hb up (nI k) && decide (rg R (79 + 3 * k) = a) && decide (rg R (79 + 3 * k + 1) = b)
theorem m_isWalled {up a b : Int32} (hS : Shp H) (hn : rg (ar H 71) 4 = nI n) (hb' : n ≤ 5) : Wp scr (d + 1) 225 0 [some (.ref 68), some (.int up), some (.int a), some (.int b), none] [] H Q ↔ Q (some (.int (bI (exN (isWp (ar H 71) up a b) n)))) H := by
  refine Wp_iff ?_
  generalize hQ : (fun (r : Option Value) (H' : List AC) => r = some (.int (bI (exN (isWp (ar H 71) up a b) n))) ∧ H' = H) = Q1
  simp only [w225_0, w225_1]
  have hn' : (ar H 71).getD 4 0 = nI n := hn
  have key := down (P := fun i => (∀ k, k < i → isWp (ar H 71) up a b k = false) → Wp scr (d + 1) 225 3 [some (.ref 68), some (.int up), some (.int a), some (.int b), some (.int (nI i))] [] H Q1) n ?_ ?_
  · simpa [nI_0] using key
  · intro hno
    rw [w225_3]
    simp only [w225_0, w225_1, w225_5, w225_6, w225_9, w225_10, w225_11, w225_14, w225_15, w225_17, w225_20, w225_23, w225_24, w225_27, w225_29, w225_30, w225_32, w225_33, w225_34, w225_35, w225_36, w225_39, w225_40, w225_43, w225_45, w225_46, w225_48, w225_49, w225_50, w225_51, w225_52, w225_53, w225_54, w225_57, w225_58, w225_59, w225_62, w225_65, w225_66, g_68_15 hS, ga_71 hS, oK_some, gn_71 hS, ib_4_211, cl_4, hn', true_and, nI_les, true_implies, not_true_eq_false, false_implies, and_true, eq_self, or_true, true_or]
    rw [← hQ, exN_f hno]
    exact ⟨rfl, rfl⟩
  · intro i hi hw hno
    rw [w225_3]
    simp only [w225_0, w225_1, w225_5, w225_6, w225_9, w225_10, w225_11, w225_14, w225_15, w225_17, w225_20, w225_23, w225_24, w225_27, w225_29, w225_30, w225_32, w225_33, w225_34, w225_35, w225_36, w225_39, w225_40, w225_43, w225_45, w225_46, w225_48, w225_49, w225_50, w225_51, w225_52, w225_53, w225_54, w225_57, w225_58, w225_59, w225_62, w225_65, w225_66, g_68_15 hS, ga_71 hS, oK_some, gn_71 hS, ib_4_211, cl_4, hn', true_and, nI_lef hi (by omega : n < 2147483648), true_implies, not_false_eq_true, false_implies, m_hasBit, cont_intS, bI_eq0, ixm 79 3 i (v := 79) (w := 3) rfl rfl, ixa (79 + 3 * i) 1 (v := 1) rfl, inb_nI (i := 79 + 3 * i) (by omega), inb_nI (i := 79 + 3 * i + 1) (by omega), decide_eq_true (by omega : 79 + 3 * i < 211), decide_eq_true (by omega : 79 + 3 * i + 1 < 211), nI_clamp (n := 79 + 3 * i) (by omega), nI_clamp (n := 79 + 3 * i + 1) (by omega), nI_1, eq_self, or_true, true_or]
    have ext : isWp (ar H 71) up a b i = false → ∀ k, k < i + 1 → isWp (ar H 71) up a b k = false := fun h k hk => by
      rcases Nat.lt_or_ge k i with q | q
      · exact hno k q
      · rw [show k = i by omega]; exact h
    have r1 : (ar H 71).getD (79 + 3 * i) 0 = rg (ar H 71) (79 + 3 * i) := rfl
    have r2 : (ar H 71).getD (79 + 3 * i + 1) 0 = rg (ar H 71) (79 + 3 * i + 1) := rfl
    rw [r1, r2]
    cases hbit : hb up (nI i) with
    | false =>
      simp only [eq_self, true_implies, not_true_eq_false, false_implies, and_true]
      exact hw (ext (by unfold isWp; rw [hbit]; rfl))
    | true =>
      simp only [Bool.true_eq_false, false_implies, not_false_eq_true, true_implies, true_and]
      by_cases h1 : rg (ar H 71) (79 + 3 * i) = a
      · by_cases h2 : rg (ar H 71) (79 + 3 * i + 1) = b
        · simp only [h1, h2, not_true_eq_false, false_implies, not_false_eq_true, true_implies, true_and]
          rw [← hQ, exN_t hi (by unfold isWp; rw [hbit, decide_eq_true h1, decide_eq_true h2]; rfl)]
          exact ⟨rfl, rfl⟩
        · simp only [h1, h2, not_true_eq_false, false_implies, not_false_eq_true, true_implies, true_and, and_true]
          exact hw (ext (by unfold isWp; rw [decide_eq_false h2]; simp))
      · simp only [h1, not_true_eq_false, false_implies, not_false_eq_true, true_implies, and_true]
        exact hw (ext (by unfold isWp; rw [decide_eq_false h1]; simp))
def dSee (R : List Int32) (n : Nat) (up : Int32) (a b : Nat) : Bool := decide (0 < rg R (30 + 7 * a + b)) && !(exN (isWp R up (nI a) (nI b)) n)
theorem m_doesSee {up : Int32} {a b : Nat} (hS : Shp H) (hn : rg (ar H 71) 4 = nI n) (hb' : n ≤ 5) (ha : a < 7) (hb2 : b < 7) : Wp scr (d + 2) 226 0 [some (.ref 68), some (.int up), some (.int (nI a)), some (.int (nI b))] [] H Q ↔ Q (some (.int (bI (dSee (ar H 71) n up a b)))) H := by
  refine Wp_iff ?_
  have e3 : nI (30 + 7 * a) + nI b = nI (30 + 7 * a + b) := nI_add _ _
  simp only [w226_0, w226_1, w226_4, w226_6, w226_8, w226_9, w226_10, w226_11, w226_12, w226_13, w226_14, w226_17, w226_18, w226_19, w226_20, w226_21, w226_24, w226_27, w226_28, w226_31, w226_32, g_68_15 hS, ga_71 hS, oK_some, gn_71 hS, ixm 30 7 a (v := 30) (w := 7) rfl rfl, e3, inb_nI (i := 30 + 7 * a + b) (by omega), decide_eq_true (by omega : 30 + 7 * a + b < 211), nI_clamp (n := 30 + 7 * a + b) (by omega), true_and, rc_68 hS, m_isWalled hS hn hb', cont_int, bI_eq0, eq_self, or_true, true_or]
  have r1 : (ar H 71).getD (30 + 7 * a + b) 0 = rg (ar H 71) (30 + 7 * a + b) := rfl
  rw [r1]
  unfold dSee
  have e2 : 0 < rg (ar H 71) (30 + 7 * a + b) ↔ ¬ rg (ar H 71) (30 + 7 * a + b) ≤ 0 := by rw [Int32.not_le]
  by_cases c2 : rg (ar H 71) (30 + 7 * a + b) ≤ 0
  · rw [decide_eq_false (fun q => e2.mp q c2)]
    simp [c2, bI]
  · rw [decide_eq_true (e2.mpr c2)]
    cases hx : exN (isWp (ar H 71) up (nI a) (nI b)) n
    · simp [c2, bI]
    · simp [c2, bI]
end MODEL
