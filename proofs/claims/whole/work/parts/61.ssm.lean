/-! ===== all the sets that fit: what is counted ===== -/
def adB (dO : List Int32) (k dd : Nat) : Int32 := (dO.getD dd 0 >>> (nI k &&& 31)) &&& 1
def addD (dO : List Int32) (n : Nat) (D : List Int32) : List Int32 := (List.range 147).map (fun q => if q / 21 < n then D.getD q 0 + adB dO (q / 21) (q % 21) else D.getD q 0)
theorem addD_len {dO D : List Int32} {n : Nat} : (addD dO n D).length = 147 := by unfold addD; simp
section SSM
variable {dO D : List Int32} {n : Nat}
theorem adI_get {dd q : Nat} (hD : D.length = 147) (hd : dd < 21) (hq : q < 147) : ∀ m, m ≤ 7 → (forN (adI dO dd) m D).getD q 0 = if q % 21 = dd ∧ q / 21 < m then D.getD q 0 + adB dO (q / 21) dd else D.getD q 0
  | 0, _ => by rw [forN_zero, if_neg (fun z => Nat.not_lt_zero _ z.2)]
  | m + 1, hm => by
    have ihq := adI_get hD hd hq m (by omega)
    rw [forN_succ]
    show ((forN (adI dO dd) m D).set (21 * m + dd) ((forN (adI dO dd) m D).getD (21 * m + dd) 0 + adB dO m dd)).getD q 0 = _
    rw [getD_set, adI_len, hD]
    by_cases e : 21 * m + dd = q
    · have e1 : q % 21 = dd := by omega
      have e2 : q / 21 = m := by omega
      rw [if_pos ⟨e, hq⟩, e, ihq, if_neg (by omega), if_pos ⟨e1, by omega⟩, e2]
    · rw [if_neg (fun z => e z.1), ihq]
      by_cases c : q % 21 = dd ∧ q / 21 < m
      · rw [if_pos c, if_pos ⟨c.1, by omega⟩]
      · rw [if_neg c, if_neg (fun z => by
          have : q / 21 = m := by
            rcases Nat.lt_or_ge (q / 21) m with w | w
            · exact absurd ⟨z.1, w⟩ c
            · omega
          omega)]
theorem adD_eq (hD : D.length = 147) (hn : n ≤ 7) : forN (adD dO n) 21 D = addD dO n D := by
  have key : ∀ m, m ≤ 21 → ∀ q, q < 147 → (forN (adD dO n) m D).getD q 0 = if q % 21 < m ∧ q / 21 < n then D.getD q 0 + adB dO (q / 21) (q % 21) else D.getD q 0 := by
    intro m
    induction m with
    | zero => intro _ q hq; rw [forN_zero, if_neg (fun z => Nat.not_lt_zero _ z.1)]
    | succ m ih =>
      intro hm q hq
      rw [forN_succ]
      show (forN (adI dO m) n (forN (adD dO n) m D)).getD q 0 = _
      rw [adI_get (by rw [adD_len, hD]) (by omega) hq n hn, ih (by omega) q hq]
      by_cases e : q % 21 = m
      · rw [if_neg (show ¬ (q % 21 < m ∧ q / 21 < n) by omega)]
        by_cases c : q / 21 < n
        · rw [if_pos ⟨e, c⟩, if_pos ⟨by omega, c⟩, e]
        · rw [if_neg (fun z => c z.2), if_neg (fun z => c z.2)]
      · rw [if_neg (fun z => e z.1)]
        by_cases c : q % 21 < m ∧ q / 21 < n
        · rw [if_pos c, if_pos ⟨by omega, c.2⟩]
        · rw [if_neg c, if_neg (fun z => c ⟨by omega, z.2⟩)]
  apply ext_getD
  · rw [adD_len, hD, addD_len]
  · intro q hq
    rw [addD_len] at hq
    rw [key 21 (Nat.le_refl _) q hq]
    unfold addD
    rw [getD_rmap hq]
    by_cases c : q / 21 < n
    · rw [if_pos ⟨Nat.mod_lt _ (by decide), c⟩, if_pos c]
    · rw [if_neg (fun z => c z.2), if_neg c]
/-- the class's order: row by row -/
def cdI (dO : List Int32) (r : Nat) (dd : Nat) (ys : List Int32) : List Int32 := cAdd ys (nI (r * 21 + dd)) (adB dO r dd)
def cdR (dO : List Int32) (r : Nat) (ys : List Int32) : List Int32 := forN (cdI dO r) 21 ys
theorem cdI_len {r m : Nat} : (forN (cdI dO r) m D).length = D.length := forN_len (fun k zs => by unfold cdI; exact cAdd_length) m D
theorem cdR_len {m : Nat} : (forN (cdR dO) m D).length = D.length := forN_len (fun k zs => by unfold cdR; exact cdI_len) m D
theorem cdI_get {r q : Nat} (hD : D.length = 147) (hr : r < 7) (hq : q < 147) : ∀ m, m ≤ 21 → (forN (cdI dO r) m D).getD q 0 = if q / 21 = r ∧ q % 21 < m then D.getD q 0 + adB dO r (q % 21) else D.getD q 0
  | 0, _ => by rw [forN_zero, if_neg (fun z => Nat.not_lt_zero _ z.2)]
  | m + 1, hm => by
    have ihq := cdI_get hD hr hq m (by omega)
    rw [forN_succ]
    show (cAdd (forN (cdI dO r) m D) (nI (r * 21 + m)) (adB dO r m)).getD q 0 = _
    rw [cAdd_getD (by omega), cdI_len, hD]
    by_cases e : r * 21 + m = q
    · have e1 : q % 21 = m := by omega
      have e2 : q / 21 = r := by omega
      rw [if_pos ⟨e, hq⟩, ihq, if_neg (by omega), if_pos ⟨e2, by omega⟩, e1]
    · rw [if_neg (fun z => e z.1), ihq]
      by_cases c : q / 21 = r ∧ q % 21 < m
      · rw [if_pos c, if_pos ⟨c.1, by omega⟩]
      · rw [if_neg c, if_neg (fun z => by
          have : q % 21 = m := by
            rcases Nat.lt_or_ge (q % 21) m with w | w
            · exact absurd ⟨z.1, w⟩ c
            · omega
          omega)]
theorem cdR_eq (hD : D.length = 147) (hn : n ≤ 7) : forN (cdR dO) n D = addD dO n D := by
  have key : ∀ m, m ≤ n → ∀ q, q < 147 → (forN (cdR dO) m D).getD q 0 = if q / 21 < m then D.getD q 0 + adB dO (q / 21) (q % 21) else D.getD q 0 := by
    intro m
    induction m with
    | zero => intro _ q hq; rw [forN_zero, if_neg (Nat.not_lt_zero _)]
    | succ m ih =>
      intro hm q hq
      rw [forN_succ]
      show (forN (cdI dO m) 21 (forN (cdR dO) m D)).getD q 0 = _
      rw [cdI_get (by rw [cdR_len, hD]) (by omega) hq 21 (Nat.le_refl _), ih (by omega) q hq]
      by_cases e : q / 21 = m
      · rw [if_pos ⟨e, Nat.mod_lt _ (by decide)⟩, if_neg (by omega), if_pos (by omega), e]
      · rw [if_neg (fun z => e z.1)]
        by_cases c : q / 21 < m
        · rw [if_pos c, if_pos (by omega)]
        · rw [if_neg c, if_neg (by omega)]
  apply ext_getD
  · rw [cdR_len, hD, addD_len]
  · intro q hq
    rw [addD_len] at hq
    rw [key n (Nat.le_refl _) q hq]
    unfold addD
    rw [getD_rmap hq]
end SSM
/-- the fold over sets, part by part -/
def fsD (fit : Nat → Bool) (dO : Nat → List Int32) (n : Nat) (s : Nat) (D : List Int32) : List Int32 := if fit s = true then addD (dO s) n D else D
def fsO (fit : Nat → Bool) (s : Nat) (a : Int32) : Int32 := if fit s = true then a ||| nI s else a
def fsA (fit : Nat → Bool) (s : Nat) (a : Int32) : Int32 := if fit s = true then a &&& nI s else a
def fcN (fit : Nat → Bool) (m : Nat) : Nat := ((List.range m).filter fit).length
theorem fcN_le {fit : Nat → Bool} {m : Nat} : fcN fit m ≤ m := fil_le
theorem fcN_succ {fit : Nat → Bool} {m : Nat} : fcN fit (m + 1) = fcN fit m + (if fit m = true then 1 else 0) := fil_succ
theorem fsD_len {fit : Nat → Bool} {dO : Nat → List Int32} {n : Nat} {D : List Int32} (hD : D.length = 147) : ∀ m, (forN (fsD fit dO n) m D).length = 147
  | 0 => hD
  | m + 1 => by
    rw [forN_succ]
    unfold fsD
    split
    · exact addD_len
    · exact fsD_len hD m
theorem ss_parts {fit : Nat → Bool} {dO : Nat → List Int32} {n : Nat} {wanted a0 : Int32} {D0 : List Int32} (hn : n ≤ 7) (hD : D0.length = 147) : ∀ m, (forN (ssF fit dO n wanted) m (-1, 0, 0, a0, D0)).2.1 = nI (fcN fit m) ∧ (forN (ssF fit dO n wanted) m (-1, 0, 0, a0, D0)).2.2.1 = forN (fsO fit) m 0 ∧ (forN (ssF fit dO n wanted) m (-1, 0, 0, a0, D0)).2.2.2.1 = forN (fsA fit) m a0 ∧ (forN (ssF fit dO n wanted) m (-1, 0, 0, a0, D0)).2.2.2.2 = forN (fsD fit dO n) m D0
  | 0 => ⟨rfl, rfl, rfl, rfl⟩
  | m + 1 => by
    obtain ⟨h1, h2, h3, h4⟩ := ss_parts (fit := fit) (dO := dO) (wanted := wanted) (a0 := a0) hn hD m
    have hl := fsD_len (fit := fit) (dO := dO) (n := n) hD m
    rw [forN_succ, forN_succ, forN_succ, forN_succ, fcN_succ, ← h2, ← h3, ← h4]
    rw [← h4] at hl
    generalize forN (ssF fit dO n wanted) m (-1, 0, 0, a0, D0) = p at h1 hl ⊢
    unfold ssF fsO fsA fsD
    cases hf : fit m
    · simp only [Bool.false_eq_true, if_false, Nat.add_zero]
      exact ⟨h1, trivial, trivial, trivial⟩
    · simp only [if_true]
      refine ⟨?_, trivial, trivial, adD_eq hl hn⟩
      rw [h1, nI_1]
theorem ss_found {fit : Nat → Bool} {dO : Nat → List Int32} {n w : Nat} {a0 : Int32} {D0 : List Int32} (hn : n ≤ 7) (hD : D0.length = 147) (hw : w < 2147483648) : ∀ m, m < 100000 → (forN (ssF fit dO n (nI w)) m (-1, 0, 0, a0, D0)).1 = (match ((List.range m).filter fit)[w]? with | some s => nI s | none => -1)
  | 0, _ => rfl
  | m + 1, hm => by
    have ih := ss_found (fit := fit) (dO := dO) (a0 := a0) hn hD hw m (by omega)
    have h1 := (ss_parts (fit := fit) (dO := dO) (wanted := nI w) (a0 := a0) hn hD m).1
    have hle := fcN_le (fit := fit) (m := m)
    rw [forN_succ, List.range_succ, List.filter_append]
    generalize forN (ssF fit dO n (nI w)) m (-1, 0, 0, a0, D0) = p at ih h1 ⊢
    unfold ssF
    cases hf : fit m
    · rw [show [m].filter fit = [] by simp [hf], List.append_nil]
      simp only [Bool.false_eq_true, if_false]
      exact ih
    · rw [show [m].filter fit = [m] by simp [hf]]
      simp only [if_true]
      have ee : (p.2.1 = nI w) = (fcN fit m = w) := by rw [h1]; exact propext (nI_eq (by omega) (by omega))
      by_cases c : fcN fit m = w
      · rw [if_pos (ee.mpr c), ← c]
        show _ = (match ((List.range m).filter fit ++ [m])[((List.range m).filter fit).length]? with | some s => nI s | none => -1)
        rw [List.getElem?_append_right (Nat.le_refl _), Nat.sub_self]
        rfl
      · rw [if_neg (fun q => c (ee.mp q)), ih]
        rcases Nat.lt_or_ge w (fcN fit m) with q | q
        · rw [List.getElem?_append_left q]
        · rw [List.getElem?_eq_none (show ((List.range m).filter fit).length ≤ w from q), List.getElem?_append_right q]
          have : w - ((List.range m).filter fit).length ≠ 0 := by
            have : ((List.range m).filter fit).length = fcN fit m := rfl
            omega
          obtain ⟨z, hz⟩ := Nat.exists_eq_succ_of_ne_zero this
          rw [hz]
          rfl
/-- the sets that fit, as the class keeps them -/
def fitN (fit : Nat → Bool) (m : Nat) : Nat := forN (fun s a => if fit s = true then a ||| 2 ^ s else a) m 0
theorem fitN_bit {fit : Nat → Bool} {j : Nat} : ∀ m, (fitN fit m).testBit j = (decide (j < m) && fit j)
  | 0 => by unfold fitN; rw [forN_zero]; simp
  | m + 1 => by
    have ih := fitN_bit (fit := fit) (j := j) m
    unfold fitN at ih ⊢
    rw [forN_succ]
    generalize forN (fun s a => if fit s = true then a ||| 2 ^ s else a) m 0 = x at ih ⊢
    by_cases e : m = j
    · subst e
      rw [decide_eq_false (Nat.lt_irrefl _), Bool.false_and] at ih
      rw [decide_eq_true (show m < m + 1 by omega), Bool.true_and]
      cases hf : fit m
      · simp [ih]
      · simp [Nat.testBit_or, Nat.testBit_two_pow]
    · have e2 : decide (j < m + 1) = decide (j < m) := decide_eq_decide.mpr (by omega)
      rw [e2, ← ih]
      cases hf : fit m
      · simp
      · simp [Nat.testBit_or, Nat.testBit_two_pow, e]
theorem fitN_lt {fit : Nat → Bool} {m : Nat} : fitN fit m < 2 ^ m := by
  rcases Nat.lt_or_ge (fitN fit m) (2 ^ m) with q | q
  · exact q
  · obtain ⟨j, hj, hb⟩ := Nat.exists_ge_and_testBit_of_ge_two_pow q
    rw [fitN_bit, decide_eq_false (by omega)] at hb
    cases hb
theorem p2_31 {k : Nat} (h : k < 32) : (1 : Int32) <<< (nI k &&& 31) = nI (2 ^ k) := by
  have hp : 2 ^ k < 2 ^ 32 := Nat.pow_lt_pow_right (by decide) h
  have := pk_shlN (n := 1) (nI k &&& 31) k (s_l k h) (by rw [Nat.one_mul]; exact hp)
  rw [Nat.one_mul] at this
  exact this
theorem fitN_count {fit : Nat → Bool} {m : Nat} (hm : m ≤ 32) : bcI (nI (fitN fit m)) = nI (fcN fit m) := by
  have hl := fitN_lt (fit := fit) (m := m)
  have h32 : 2 ^ m ≤ 2 ^ 32 := Nat.pow_le_pow_right (by decide) hm
  rw [bcI_count (by omega)]
  congr 1
  have h1 := fil_add (p := fun j => (fitN fit m).testBit j) (a := m) (32 - m)
  rw [show m + (32 - m) = 32 by omega] at h1
  rw [h1]
  have e1 : (List.range m).filter (fun j => (fitN fit m).testBit j) = (List.range m).filter fit := List.filter_congr (fun j hj => by rw [fitN_bit, decide_eq_true (List.mem_range.mp hj), Bool.true_and])
  have e2 : (List.range (32 - m)).filter (fun j => (fitN fit m).testBit (m + j)) = [] := by
    rw [List.filter_eq_nil_iff]
    intro j _
    rw [fitN_bit, decide_eq_false (by omega), Bool.false_and]
    decide
  rw [e1, e2]
  rfl
