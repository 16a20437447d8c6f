/-! ===== how many bits a number of 32 has ===== -/
theorem and_split {hi lo M m : Nat} (hl : lo < 256) (hm : m < 256) : (256 * hi + lo) &&& (256 * M + m) = 256 * (hi &&& M) + (lo &&& m) := by
  have hlm : lo &&& m < 256 := Nat.and_lt_two_pow (n := 8) _ hm
  apply Nat.eq_of_testBit_eq
  intro j
  rw [Nat.testBit_and, Nat.testBit_two_pow_mul_add (i := 8) hi hl, Nat.testBit_two_pow_mul_add (i := 8) M hm, Nat.testBit_two_pow_mul_add (i := 8) _ hlm]
  by_cases h : j < 8
  · simp [h]
  · simp [h]
theorem byA : ∀ h ∈ List.range 2, ∀ y ∈ List.range 128, (128 * h + y) &&& 85 = y &&& 85 := by decide +kernel
theorem byB : ∀ h ∈ List.range 4, ∀ y ∈ List.range 64, (64 * h + y) &&& 51 = y &&& 51 := by decide +kernel
theorem by1 : ∀ y ∈ List.range 256, (y / 2) &&& 85 ≤ y ∧ y - ((y / 2) &&& 85) < 256 := by decide +kernel
/-- the first step: pairs of bits -/
def nA (M X : Nat) : Nat := X - ((X / 2) &&& M)
theorem nA_split {hi lo M : Nat} (hl : lo < 256) (h : (hi / 2) &&& M ≤ hi) : nA (256 * M + 85) (256 * hi + lo) = 256 * nA M hi + nA 85 lo ∧ ((256 * hi + lo) / 2) &&& (256 * M + 85) ≤ 256 * hi + lo := by
  have e1 : (256 * hi + lo) / 2 = 256 * (hi / 2) + (128 * (hi % 2) + lo / 2) := by omega
  have h2 : hi % 2 < 2 := Nat.mod_lt _ (by decide)
  have e2 : ((256 * hi + lo) / 2) &&& (256 * M + 85) = 256 * ((hi / 2) &&& M) + ((lo / 2) &&& 85) := by
    rw [e1, and_split (by omega) (by decide), byA (hi % 2) (List.mem_range.mpr h2) (lo / 2) (List.mem_range.mpr (by omega))]
  have h3 := (by1 lo (List.mem_range.mpr hl)).1
  unfold nA
  rw [e2]
  constructor
  · omega
  · omega
theorem by2 : ∀ y ∈ List.range 256, (y &&& 51) + ((y / 4) &&& 51) < 256 := by decide +kernel
/-- the second step: fours of bits -/
def nB (M X : Nat) : Nat := (X &&& M) + ((X / 4) &&& M)
theorem nB_split {hi lo M : Nat} (hl : lo < 256) : nB (256 * M + 51) (256 * hi + lo) = 256 * nB M hi + nB 51 lo := by
  have e1 : (256 * hi + lo) / 4 = 256 * (hi / 4) + (64 * (hi % 4) + lo / 4) := by omega
  have h2 : hi % 4 < 4 := Nat.mod_lt _ (by decide)
  unfold nB
  rw [and_split hl (by decide), e1, and_split (by omega) (by decide), byB (hi % 4) (List.mem_range.mpr h2) (lo / 4) (List.mem_range.mpr (by omega))]
  omega
theorem by3 : ∀ y ∈ List.range 256, nB 51 (nA 85 y) ≤ 68 ∧ (nB 51 (nA 85 y)) % 16 ≤ 4 ∧ (nB 51 (nA 85 y) + nB 51 (nA 85 y) / 16) % 16 = pc y := by decide +kernel
/-- the third: bytes -/
def nC (M X : Nat) : Nat := (X + X / 16) &&& M
theorem and15 (x : Nat) : x &&& 15 = x % 16 := by
  have := Nat.and_two_pow_sub_one_eq_mod x 4
  exact this
theorem nC_split {hi lo M : Nat} (hl : lo ≤ 68) (hh : hi % 16 ≤ 4) : nC (256 * M + 15) (256 * hi + lo) = 256 * nC M hi + (lo + lo / 16) % 16 := by
  have e1 : 256 * hi + lo + (256 * hi + lo) / 16 = 256 * (hi + hi / 16) + (16 * (hi % 16) + (lo + lo / 16)) := by omega
  unfold nC
  rw [e1, and_split (by omega) (by decide), and15]
  congr 1
  omega
def byt (X k : Nat) : Nat := X / 256 ^ k % 256
theorem pop4 {X : Nat} (hX : X < 4294967296) : nC 252645135 (nB 858993459 (nA 1431655765 X)) = 16777216 * pc (byt X 3) + 65536 * pc (byt X 2) + 256 * pc (byt X 1) + pc (byt X 0) := by
  have b0 : byt X 0 < 256 := Nat.mod_lt _ (by decide)
  have b1 : byt X 1 < 256 := Nat.mod_lt _ (by decide)
  have b2 : byt X 2 < 256 := Nat.mod_lt _ (by decide)
  have b3 : byt X 3 < 256 := Nat.mod_lt _ (by decide)
  have eX : X = 256 * (256 * (256 * byt X 3 + byt X 2) + byt X 1) + byt X 0 := by
    unfold byt
    simp only [Nat.reducePow, Nat.div_one]
    omega
  generalize byt X 0 = y0 at *
  generalize byt X 1 = y1 at *
  generalize byt X 2 = y2 at *
  generalize byt X 3 = y3 at *
  obtain ⟨a0, a0'⟩ := by1 y0 (List.mem_range.mpr b0)
  obtain ⟨a1, a1'⟩ := by1 y1 (List.mem_range.mpr b1)
  obtain ⟨a2, a2'⟩ := by1 y2 (List.mem_range.mpr b2)
  obtain ⟨a3, a3'⟩ := by1 y3 (List.mem_range.mpr b3)
  obtain ⟨c0, c0', c0''⟩ := by3 y0 (List.mem_range.mpr b0)
  obtain ⟨c1, c1', c1''⟩ := by3 y1 (List.mem_range.mpr b1)
  obtain ⟨c2, c2', c2''⟩ := by3 y2 (List.mem_range.mpr b2)
  obtain ⟨c3, c3', c3''⟩ := by3 y3 (List.mem_range.mpr b3)
  have A2 := nA_split (M := 85) b2 a3
  have A1 := nA_split (M := 256 * 85 + 85) b1 A2.2
  have A0 := nA_split (M := 256 * (256 * 85 + 85) + 85) b0 A1.2
  have eA : nA 1431655765 X = 256 * (256 * (256 * nA 85 y3 + nA 85 y2) + nA 85 y1) + nA 85 y0 := by
    rw [eX, show (1431655765 : Nat) = 256 * (256 * (256 * 85 + 85) + 85) + 85 by decide, A0.1, A1.1, A2.1]
  have l : ∀ y, (y / 2) &&& 85 ≤ y ∧ y - ((y / 2) &&& 85) < 256 → nA 85 y < 256 := fun y h => h.2
  have eB : nB 858993459 (nA 1431655765 X) = 256 * (256 * (256 * nB 51 (nA 85 y3) + nB 51 (nA 85 y2)) + nB 51 (nA 85 y1)) + nB 51 (nA 85 y0) := by
    rw [eA, show (858993459 : Nat) = 256 * (256 * (256 * 51 + 51) + 51) + 51 by decide, nB_split (l _ ⟨a0, a0'⟩), nB_split (l _ ⟨a1, a1'⟩), nB_split (l _ ⟨a2, a2'⟩)]
  rw [eB, show (252645135 : Nat) = 256 * (256 * (256 * 15 + 15) + 15) + 15 by decide, nC_split c0 (by omega), nC_split c1 (by omega), nC_split c2 c3', c0'', c1'', c2'']
  have e3 : nC 15 (nB 51 (nA 85 y3)) = pc y3 := by unfold nC; rw [and15, c3'']
  rw [e3]
  omega
theorem ush_nI {X : Nat} {s : Int32} (k : Nat) (hX : X < 4294967296) (hs : ((s.toUInt32 &&& Int32.toUInt32 31).toBitVec % 32).toNat = k) : ush (nI X) s = nI (X / 2 ^ k) := pk_ushrN hX s k hs
theorem bcI_nI {X : Nat} (hX : X < 4294967296) : bcI (nI X) = nI (pc (byt X 3) + pc (byt X 2) + pc (byt X 1) + pc (byt X 0)) := by
  have p := pop4 hX
  have q : ∀ k, pc (byt X k) ≤ 8 := fun k => pc_le 8 (by decide) _ (List.mem_range.mpr (Nat.mod_lt _ (by decide)))
  have q0 := q 0
  have q1 := q 1
  have q2 := q 2
  have q3 := q 3
  have hle : (X / 2) &&& 1431655765 ≤ X := Nat.le_trans Nat.and_le_left (Nat.div_le_self _ _)
  have eA : bcA (nI X) = nI (nA 1431655765 X) := by
    unfold bcA nA
    rw [ush_nI 1 hX (by decide), show (1431655765 : Int32) = nI 1431655765 from rfl, nI_andN, pk_sub hle]
  have lA : nA 1431655765 X < 4294967296 := Nat.lt_of_le_of_lt (Nat.sub_le _ _) hX
  generalize nA 1431655765 X = a at p eA lA
  have eB : bcB (nI a) = nI (nB 858993459 a) := by
    unfold bcB nB
    rw [ush_nI 2 lA (by decide), show (858993459 : Int32) = nI 858993459 from rfl, nI_andN, nI_andN, nI_add]
  have lB : nB 858993459 a < 4294967296 := by
    have h1 : a &&& 858993459 ≤ 858993459 := Nat.and_le_right
    have h2 : (a / 4) &&& 858993459 ≤ 858993459 := Nat.and_le_right
    unfold nB
    omega
  generalize nB 858993459 a = b at p eB lB
  have eC : bcC (nI b) = nI (nC 252645135 b) := by
    unfold bcC nC
    rw [ush_nI 4 lB (by decide), show (252645135 : Int32) = nI 252645135 from rfl, nI_add, nI_andN]
  rw [p] at eC
  generalize pc (byt X 0) = p0 at *
  generalize pc (byt X 1) = p1 at *
  generalize pc (byt X 2) = p2 at *
  generalize pc (byt X 3) = p3 at *
  have eD : bcD (nI (16777216 * p3 + 65536 * p2 + 256 * p1 + p0)) = nI (16777216 * p3 + 65536 * (p2 + p3) + 256 * (p1 + p2) + (p0 + p1)) := by
    unfold bcD
    rw [ush_nI 8 (by omega) (by decide), nI_add]
    congr 1
    simp only [Nat.reducePow]
    omega
  have eE : bcE (nI (16777216 * p3 + 65536 * (p2 + p3) + 256 * (p1 + p2) + (p0 + p1))) = nI (16777216 * p3 + 65536 * (p2 + p3) + 256 * (p1 + p2 + p3) + (p0 + p1 + p2 + p3)) := by
    unfold bcE
    rw [ush_nI 16 (by omega) (by decide), nI_add]
    congr 1
    simp only [Nat.reducePow]
    omega
  unfold bcI
  rw [eA, eB, eC, eD, eE, pk_andN (by omega) 6 (by decide)]
  congr 1
  omega
theorem fil_add {p : Nat → Bool} {a : Nat} : ∀ b, ((List.range (a + b)).filter p).length = ((List.range a).filter p).length + ((List.range b).filter (fun j => p (a + j))).length
  | 0 => by simp
  | b + 1 => by
    rw [← Nat.add_assoc, fil_succ, fil_succ, fil_add b, Nat.add_assoc]
theorem byt_pc {X k : Nat} : pc (byt X k) = ((List.range 8).filter (fun j => X.testBit (8 * k + j))).length := by
  unfold pc byt
  congr 1
  apply List.filter_congr
  intro j hj
  have hj8 := List.mem_range.mp hj
  have e : (256 : Nat) ^ k = 2 ^ (8 * k) := by rw [show (256 : Nat) = 2 ^ 8 from rfl, ← Nat.pow_mul]
  rw [e, show (256 : Nat) = 2 ^ 8 from rfl, Nat.testBit_mod_two_pow, decide_eq_true hj8, Bool.true_and, Nat.testBit_div_two_pow, Nat.add_comm]
/-- bitCount is the number of bits -/
theorem bcI_count {X : Nat} (hX : X < 4294967296) : bcI (nI X) = nI (((List.range 32).filter (fun j => X.testBit j)).length) := by
  rw [bcI_nI hX, byt_pc, byt_pc, byt_pc, byt_pc]
  congr 1
  have h1 := fil_add (p := fun j => X.testBit j) (a := 24) 8
  have h2 := fil_add (p := fun j => X.testBit j) (a := 16) 8
  have h3 := fil_add (p := fun j => X.testBit j) (a := 8) 8
  simp only [Nat.reduceAdd, Nat.reduceMul, Nat.zero_add] at h1 h2 h3 ⊢
  omega
