/-! ===== bits (the kit's starting text BITS), sums ===== -/
def bt (x : Int32) (i : Nat) : Bool := x.toBitVec.getLsbD i
theorem b_ext {x y : Int32} (h : ∀ i, i < 32 → bt x i = bt y i) : x = y := Int32.toBitVec_inj.mp (BitVec.eq_of_getLsbD_eq (fun i hi => h i hi))
theorem b_or (x y : Int32) (i : Nat) : bt (x ||| y) i = (bt x i || bt y i) := by unfold bt; rw [Int32.toBitVec_or, BitVec.getLsbD_or]
theorem b_and (x y : Int32) (i : Nat) : bt (x &&& y) i = (bt x i && bt y i) := by unfold bt; rw [Int32.toBitVec_and, BitVec.getLsbD_and]
theorem b_xor (x y : Int32) (i : Nat) : bt (x ^^^ y) i = (bt x i ^^ bt y i) := by unfold bt; rw [Int32.toBitVec_xor, BitVec.getLsbD_xor]
theorem b_big {x : Int32} {i : Nat} (h : 32 ≤ i) : bt x i = false := BitVec.getLsbD_of_ge _ _ h
theorem b_255 (i : Nat) : bt 255 i = decide (i < 8) := by
  rcases Nat.lt_or_ge i 32 with h | h
  · exact (by decide +kernel : ∀ i, i < 32 → bt 255 i = decide (i < 8)) i h
  · rw [b_big h, decide_eq_false (by omega)]
theorem b_65535 (i : Nat) : bt 65535 i = decide (i < 16) := by
  rcases Nat.lt_or_ge i 32 with h | h
  · exact (by decide +kernel : ∀ i, i < 32 → bt 65535 i = decide (i < 16)) i h
  · rw [b_big h, decide_eq_false (by omega)]
theorem b_m1 : ∀ i, i < 32 → bt (-1) i = true := by decide +kernel
theorem b_0 (i : Nat) : bt 0 i = false := BitVec.getLsbD_zero
theorem s_l : ∀ n, n < 32 → ((nI n &&& 31).toBitVec.smod 32).toNat = n := by decide +kernel
theorem s_u : ∀ n, n < 32 → (((nI n).toUInt32 &&& Int32.toUInt32 31).toBitVec % 32).toNat = n := by decide +kernel
theorem b_shl (n : Nat) (hn : n < 32) (x : Int32) {i : Nat} (hi : i < 32) : bt (x <<< (nI n &&& 31)) i = (decide (n ≤ i) && bt x (i - n)) := by
  unfold bt
  rw [Int32.toBitVec_shiftLeft]
  show (x.toBitVec <<< ((nI n &&& 31).toBitVec.smod 32).toNat).getLsbD i = _
  rw [s_l n hn, BitVec.getLsbD_shiftLeft]
  rcases Nat.lt_or_ge i n with h | h
  · simp [h, Nat.not_le.mpr h]
  · simp [hi, h, Nat.not_lt.mpr h]
theorem b_ushr (n : Nat) (hn : n < 32) (x : Int32) (i : Nat) : bt ((x.toUInt32 >>> ((nI n).toUInt32 &&& Int32.toUInt32 31)).toInt32) i = bt x (n + i) := by
  show (x.toUInt32 >>> ((nI n).toUInt32 &&& Int32.toUInt32 31)).toBitVec.getLsbD i = x.toUInt32.toBitVec.getLsbD (n + i)
  rw [UInt32.toBitVec_shiftRight]
  show (x.toUInt32.toBitVec >>> (((nI n).toUInt32 &&& Int32.toUInt32 31).toBitVec % 32).toNat).getLsbD i = _
  rw [s_u n hn, BitVec.getLsbD_ushiftRight]
theorem b_sshr (n : Nat) (hn : n < 32) (x : Int32) {i : Nat} (hi : i < 32) : bt (x >>> (nI n &&& 31)) i = if n + i < 32 then bt x (n + i) else bt x 31 := by
  unfold bt
  rw [Int32.toBitVec_shiftRight]
  show (x.toBitVec.sshiftRight ((nI n &&& 31).toBitVec.smod 32).toNat).getLsbD i = _
  rw [s_l n hn, BitVec.getLsbD_sshiftRight, BitVec.msb_eq_getLsbD_last]
  simp [hi]
theorem bt_nI {x i : Nat} (hi : i < 32) : bt (nI x) i = x.testBit i := by
  show (BitVec.ofNat 32 x).getLsbD i = x.testBit i
  rw [BitVec.getLsbD_ofNat]
  simp [hi]
theorem bit01 (x : Int32) : x &&& 1 = 0 ∨ x &&& 1 = 1 := by
  obtain ⟨j, hj, e⟩ := pk_andE x (m := 1) 1 (by decide)
  have c : j = 0 ∨ j = 1 := by omega
  rcases c with rfl | rfl
  · exact Or.inl e
  · exact Or.inr e
theorem and1_bt (x : Int32) : (x &&& 1 = 0) = (bt x 0 = false) := by
  have e1 : ∀ i, i < 32 → bt 1 i = decide (i = 0) := by decide +kernel
  apply propext
  constructor
  · intro h
    have := congrArg (fun y => bt y 0) h
    simp only [b_and, e1 0 (by decide), b_0] at this
    simpa using this
  · intro h
    refine b_ext (fun i hi => ?_)
    rw [b_and, e1 i hi, b_0]
    by_cases e : i = 0
    · subst e; rw [h]; rfl
    · simp [e]
theorem bit_bt {x : Int32} {k : Nat} (hk : k < 32) : ((x >>> (nI k &&& 31)) &&& 1 = 0) = (bt x k = false) := by
  rw [and1_bt, b_sshr k hk x (by decide), if_pos (by omega)]
  rfl
theorem hb_bt {x : Int32} {k : Nat} (hk : k < 32) : hb x (nI k) = bt x k := by
  unfold hb
  have h := bit_bt (x := x) hk
  rcases bit01 (x >>> (nI k &&& 31)) with e | e
  · rw [e] at h ⊢
    have : bt x k = false := h.mp rfl
    rw [this]
    decide
  · rw [e] at h ⊢
    cases hb : bt x k
    · exact absurd (h.mpr hb) (by decide)
    · decide
theorem bit_hb {x : Int32} {k : Nat} (hk : k < 32) : ((x >>> (nI k &&& 31)) &&& 1 = 0) = (hb x (nI k) = false) := by rw [bit_bt hk, hb_bt hk]
theorem bt_p2 {k i : Nat} (hk : k < 32) (hi : i < 32) : bt (1 <<< (nI k &&& 31)) i = decide (k = i) := by
  have e1 : ∀ i, i < 32 → bt 1 i = decide (i = 0) := by decide +kernel
  rw [b_shl k hk 1 hi, e1 (i - k) (by omega)]
  by_cases h : k = i
  · subst h; simp
  · by_cases h2 : k ≤ i
    · have : ¬ i - k = 0 := by omega
      simp [h, this]
    · simp [h, h2]
theorem bt_allU {m i : Nat} (hm : m ≤ 10) (hi : i < 32) : bt (allU m) i = decide (i < m) := by
  unfold allU
  rw [p2 hm]
  have hp : 0 < 2 ^ m := Nat.pow_pos (by decide)
  rw [show (1 : Int32) = nI 1 from rfl, pk_sub hp, bt_nI hi, Nat.testBit_two_pow_sub_one]
/-- a sum -/
def sumN (f : Nat → Int32) (n : Nat) : Int32 := forN (fun k acc => acc + f k) n 0
theorem sumN_succ {f : Nat → Int32} {n : Nat} : sumN f (n + 1) = sumN f n + f n := rfl
theorem sumN_zero {f : Nat → Int32} : sumN f 0 = 0 := rfl
theorem sumN_congr {f g : Nat → Int32} (n : Nat) (h : ∀ i, i < n → f i = g i) : sumN f n = sumN g n := forN_congr n 0 (fun i hi x => by rw [h i hi])
theorem sumN_0 : ∀ n, sumN (fun _ => 0) n = 0
  | 0 => rfl
  | n + 1 => by rw [sumN_succ, sumN_0 n, Int32.add_zero]
theorem sumN_add {f g : Nat → Int32} : ∀ n, sumN (fun k => f k + g k) n = sumN f n + sumN g n
  | 0 => by rw [sumN_zero, sumN_zero, sumN_zero]; rfl
  | n + 1 => by
    rw [sumN_succ, sumN_succ, sumN_succ, sumN_add n, Int32.add_assoc, Int32.add_assoc]
    congr 1
    rw [← Int32.add_assoc, ← Int32.add_assoc, Int32.add_comm (f n) (sumN g n)]
theorem sumN_swap {F : Nat → Nat → Int32} {n : Nat} : ∀ m, sumN (fun s => sumN (F s) n) m = sumN (fun b => sumN (fun s => F s b) m) n
  | 0 => by
    rw [sumN_zero]
    exact (sumN_0 n).symm
  | m + 1 => by
    rw [sumN_succ, sumN_swap m, ← sumN_add]
    rfl
theorem sumN_one {p : Nat → Bool} {v : Int32} : ∀ m, (∀ s t, s < m → t < m → p s = true → p t = true → s = t) → sumN (fun s => if p s = true then v else 0) m = if exN p m = true then v else 0
  | 0, _ => by rw [sumN_zero, exN_zero]; rfl
  | m + 1, hu => by
    rw [sumN_succ, sumN_one m (fun s t hs ht => hu s t (by omega) (by omega)), exN_succ]
    cases h : p m
    · rw [Bool.or_false]
      simp [Int32.add_zero]
    · have hz : exN p m = false := exN_f (fun k hk => by
        cases hq : p k
        · rfl
        · have := hu k m (by omega) (by omega) hq h
          omega)
      rw [hz]
      simp [Int32.zero_add]
/-- a sum over places that are matched one by one -/
theorem sumN_match {F G : Nat → Int32} {P : Nat → Bool} {q : Nat → Nat} {m n : Nat} (h1 : ∀ s, s < m → P s = true → q s < n ∧ F s = G (q s)) (h0 : ∀ s, s < m → P s = false → F s = 0) (hi : ∀ s t, s < m → t < m → P s = true → P t = true → q s = q t → s = t) (hz : ∀ b, b < n → (∀ s, s < m → P s = true → ¬ q s = b) → G b = 0) : sumN F m = sumN G n := by
  have e1 : sumN F m = sumN (fun s => sumN (fun b => if (P s && decide (q s = b)) = true then G b else 0) n) m := by
    refine sumN_congr m (fun s hs => ?_)
    cases hp : P s
    · rw [h0 s hs hp]
      simp only [Bool.false_and, Bool.false_eq_true, if_false]
      exact (sumN_0 n).symm
    · obtain ⟨hq, hf⟩ := h1 s hs hp
      have e2 : sumN (fun b => if (true && decide (q s = b)) = true then G b else 0) n = sumN (fun b => if (fun b => decide (q s = b)) b = true then G (q s) else 0) n := by
        refine sumN_congr n (fun b _ => ?_)
        rw [Bool.true_and]
        by_cases e : q s = b
        · rw [e]
        · simp [e]
      rw [e2, sumN_one (p := fun b => decide (q s = b)) n (fun a b _ _ ha hb => (of_decide_eq_true ha).symm.trans (of_decide_eq_true hb)), exN_t hq (decide_eq_true rfl), if_pos rfl, hf]
  rw [e1, sumN_swap]
  refine sumN_congr n (fun b hb => ?_)
  have e3 := sumN_one (p := fun s => P s && decide (q s = b)) (v := G b) m (fun s t hs ht h1' h2' => by
    simp only [Bool.and_eq_true, decide_eq_true_eq] at h1' h2'
    exact hi s t hs ht h1'.1 h2'.1 (h1'.2.trans h2'.2.symm))
  rw [e3]
  cases he : exN (fun s => P s && decide (q s = b)) m
  · have : G b = 0 := hz b hb (fun s hs hp e => by
      have hx : exN (fun s => P s && decide (q s = b)) m = true := exN_t hs (by simp [hp, e])
      rw [he] at hx
      cases hx)
    simp [this]
  · simp
