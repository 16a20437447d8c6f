/-! ===== the two parties: the class's codes and the Model's sets ===== -/
theorem mx_rc {a b c : Int32} : mx (mx a b) c = mx (mx a c) b := by
  have e : ∀ x y : Int32, (mx x y).toInt = max x.toInt y.toInt := fun x y => by
    unfold mx
    split
    · rename_i h; rw [Int32.lt_iff_toInt_lt] at h; omega
    · rename_i h; rw [Int32.lt_iff_toInt_lt] at h; omega
  apply Int32.toInt_inj.mp
  rw [e, e, e, e]
  omega
theorem mn_rc {a b c : Int32} : mn (mn a b) c = mn (mn a c) b := by
  have e : ∀ x y : Int32, (mn x y).toInt = min x.toInt y.toInt := fun x y => by
    unfold mn
    split
    · rename_i h; rw [Int32.lt_iff_toInt_lt] at h; omega
    · rename_i h; rw [Int32.lt_iff_toInt_lt] at h; omega
  apply Int32.toInt_inj.mp
  rw [e, e, e, e]
  omega
theorem gmx_mx {v b : Int32} : gmx v b = mx b v := rfl
theorem gmn_mn {v b : Int32} : gmn v b = mn b v := rfl
theorem mx_m1 {x : Nat} (h : x < 1000) : mx (-1) (nI x) = nI x := by
  unfold mx
  have : (-1 : Int32) < nI x := by
    rw [Int32.lt_iff_toInt_lt, nI_toInt (by omega), show (-1 : Int32).toInt = -1 by decide]
    omega
  rw [if_pos this]
theorem mn_8 {x : Nat} (h : x ≤ 7) : mn 8 (nI x) = nI x := by
  unfold mn
  have h8 : nI x < 8 := nI_lt (b := 8) (by omega) (by decide)
  rw [if_pos h8]
theorem fold_mx {o : Nat → Bool} {v : Nat → Int32} {a e : Int32} : ∀ f, forN (fun i b => if o i = true then mx b (v i) else b) f (mx a e) = mx (forN (fun i b => if o i = true then mx b (v i) else b) f a) e
  | 0 => rfl
  | f + 1 => by
    rw [forN_succ, forN_succ, fold_mx f]
    split
    · exact mx_rc
    · rfl
theorem fold_mn {o : Nat → Bool} {v : Nat → Int32} {a e : Int32} : ∀ f, forN (fun i b => if o i = true then mn b (v i) else b) f (mn a e) = mn (forN (fun i b => if o i = true then mn b (v i) else b) f a) e
  | 0 => rfl
  | f + 1 => by
    rw [forN_succ, forN_succ, fold_mn f]
    split
    · exact mn_rc
    · rfl
theorem forN_filter {α : Type} {q : Nat → Bool} {h : Nat → α → α} {x : α} : ∀ m, forN (fun g b => if q g = true then h g b else b) m x = forN (fun i b => h (((List.range m).filter q).getD i 0) b) ((List.range m).filter q).length x
  | 0 => rfl
  | m + 1 => by
    have ih := forN_filter (q := q) (h := h) (x := x) m
    rw [forN_succ, ih, List.range_succ, List.filter_append]
    cases hq : q m
    · rw [show [m].filter q = [] by simp [hq], List.append_nil]
      rfl
    · rw [show [m].filter q = [m] by simp [hq], List.length_append]
      show h m (forN _ ((List.range m).filter q).length x) = h (((List.range m).filter q ++ [m]).getD ((List.range m).filter q).length 0) (forN _ ((List.range m).filter q).length x)
      rw [getD_appr]
      congr 1
      exact forN_congr _ _ (fun i hi y => by rw [getD_app hi])
/-- the free signs -/
def flS (nG sh : Nat) : List Nat := (List.range nG).filter (fun g => !sh.testBit g)
def flI (nG sh i : Nat) : Nat := (flS nG sh).getD i 0
theorem flS_len {nG sh : Nat} : (flS nG sh).length = fcn nG sh := rfl
theorem fl_mem {nG sh i : Nat} (hi : i < fcn nG sh) : flI nG sh i < nG ∧ sh.testBit (flI nG sh i) = false := by
  have hi' : i < (flS nG sh).length := hi
  have h1 : flI nG sh i = (flS nG sh)[i]'hi' := by
    unfold flI
    rw [List.getD_eq_getElem?_getD, List.getElem?_eq_getElem hi']
    rfl
  have h2 := List.getElem_mem (l := flS nG sh) hi'
  rw [← h1] at h2
  have h3 := List.mem_filter.mp h2
  refine ⟨List.mem_range.mp h3.1, ?_⟩
  have := h3.2
  simpa using this
theorem fl_inj0 : ∀ nG ∈ List.range 7, ∀ sh ∈ List.range 64, ∀ i ∈ List.range (fcn nG sh), ∀ j ∈ List.range (fcn nG sh), flI nG sh i = flI nG sh j → i = j := by decide +kernel
theorem dg_a1 : ∀ code ∈ List.range 729, ∀ i ∈ List.range 6, code / 3 ^ i % 3 = 0 → ∀ j ∈ List.range 6, (code + 3 ^ i) / 3 ^ j % 3 = if j = i then 1 else code / 3 ^ j % 3 := by decide +kernel
theorem dg_a2 : ∀ code ∈ List.range 729, ∀ i ∈ List.range 6, code / 3 ^ i % 3 = 0 → ∀ j ∈ List.range 6, (code + 2 * 3 ^ i) / 3 ^ j % 3 = if j = i then 2 else code / 3 ^ j % 3 := by decide +kernel
theorem dg_lt : ∀ f ∈ List.range 7, ∀ code ∈ List.range (3 ^ f), ∀ i ∈ List.range f, code / 3 ^ i % 3 = 0 → code + 2 * 3 ^ i < 3 ^ f := by decide +kernel
/-- whose signs they are by a code -/
def ownC (nG sh w code : Nat) : Nat := forN (fun i a => if code / 3 ^ i % 3 = w then a ||| 2 ^ flI nG sh i else a) (fcn nG sh) 0
theorem ownC_bit {nG sh w code g : Nat} : (ownC nG sh w code).testBit g = exN (fun i => decide (code / 3 ^ i % 3 = w) && decide (flI nG sh i = g)) (fcn nG sh) := by
  unfold ownC
  generalize fcn nG sh = f
  induction f with
  | zero => rw [forN_zero, exN_zero]; simp
  | succ f ih =>
    rw [forN_succ, exN_succ, ← ih]
    by_cases h : code / 3 ^ f % 3 = w
    · rw [if_pos h, decide_eq_true h, Nat.testBit_or, Nat.testBit_two_pow, Bool.true_and]
    · rw [if_neg h, decide_eq_false h, Bool.false_and, Bool.or_false]
section GP
variable {nG sh : Nat} {Bs : List Int32}
theorem fl_inj (hG : nG < 7) (hs : sh < 64) {i j : Nat} (hi : i < fcn nG sh) (hj : j < fcn nG sh) (h : flI nG sh i = flI nG sh j) : i = j := fl_inj0 nG (List.mem_range.mpr hG) sh (List.mem_range.mpr hs) i (List.mem_range.mpr hi) j (List.mem_range.mpr hj) h
theorem own_fl (hG : nG < 7) (hs : sh < 64) {w code i : Nat} (hi : i < fcn nG sh) : (ownC nG sh w code).testBit (flI nG sh i) = decide (code / 3 ^ i % 3 = w) := by
  rw [ownC_bit]
  by_cases h : code / 3 ^ i % 3 = w
  · rw [decide_eq_true h]
    exact exN_t hi (by rw [decide_eq_true h, decide_eq_true rfl]; rfl)
  · rw [decide_eq_false h]
    refine exN_f (fun j hj => ?_)
    by_cases e : flI nG sh j = flI nG sh i
    · rw [fl_inj hG hs hj hi e, decide_eq_false h, Bool.false_and]
    · rw [decide_eq_false e, Bool.and_false]
theorem own_lt (hG : nG < 7) {w code : Nat} : ownC nG sh w code < 64 := by
  have : ownC nG sh w code < 2 ^ 6 := by
    rcases Nat.lt_or_ge (ownC nG sh w code) (2 ^ 6) with q | q
    · exact q
    · obtain ⟨g, hg, hb⟩ := Nat.exists_ge_and_testBit_of_ge_two_pow q
      rw [ownC_bit] at hb
      obtain ⟨i, hi, hp⟩ := List.any_eq_true.mp hb
      simp only [Bool.and_eq_true, decide_eq_true_eq] at hp
      have := (fl_mem (List.mem_range.mp hi)).1
      omega
  exact this
theorem own_add (hG : nG < 7) (hs : sh < 64) {w code code' i v : Nat} (hv : v = 1 ∨ v = 2) (hw : w = 1 ∨ w = 2) (hi : i < fcn nG sh) (h0 : code / 3 ^ i % 3 = 0) (hd : ∀ j, j < 6 → code' / 3 ^ j % 3 = if j = i then v else code / 3 ^ j % 3) : ownC nG sh w code' = if v = w then ownC nG sh w code ||| 2 ^ flI nG sh i else ownC nG sh w code := by
  have hf := fcn_le (nG := nG) (x := sh)
  apply Nat.eq_of_testBit_eq
  intro g
  have key : (ownC nG sh w code').testBit g = ((ownC nG sh w code).testBit g || (decide (v = w) && decide (flI nG sh i = g))) := by
    rw [ownC_bit, ownC_bit]
    apply Bool.eq_iff_iff.mpr
    constructor
    · intro h
      obtain ⟨j, hj', hp⟩ := List.any_eq_true.mp h
      have hj := List.mem_range.mp hj'
      simp only [Bool.and_eq_true, decide_eq_true_eq] at hp
      rw [hd j (by omega)] at hp
      by_cases e : j = i
      · subst e
        rw [if_pos rfl] at hp
        rw [decide_eq_true hp.1, decide_eq_true hp.2]
        simp
      · rw [if_neg e] at hp
        rw [exN_t hj (by rw [decide_eq_true hp.1, decide_eq_true hp.2]; rfl), Bool.true_or]
    · intro h
      rcases Bool.or_eq_true _ _ ▸ h with q | q
      · obtain ⟨j, hj', hp⟩ := List.any_eq_true.mp q
        have hj := List.mem_range.mp hj'
        simp only [Bool.and_eq_true, decide_eq_true_eq] at hp
        have e : ¬ j = i := fun e => by
          subst e
          omega
        exact exN_t hj (by rw [hd j (by omega), if_neg e, decide_eq_true hp.1, decide_eq_true hp.2]; rfl)
      · simp only [Bool.and_eq_true, decide_eq_true_eq] at q
        exact exN_t hi (by rw [hd i (by omega), if_pos rfl, decide_eq_true q.1, decide_eq_true q.2]; rfl)
  rw [key]
  by_cases e : v = w
  · rw [if_pos e, decide_eq_true e, Bool.true_and, Nat.testBit_or, Nat.testBit_two_pow]
  · rw [if_neg e, decide_eq_false e, Bool.false_and, Bool.or_false]
theorem taken_fl (hG : nG < 7) (hs : sh < 64) {code i : Nat} (hi : i < fcn nG sh) : (sh ||| ownC nG sh 1 code ||| ownC nG sh 2 code).testBit (flI nG sh i) = !(decide (code / 3 ^ i % 3 = 0)) := by
  rw [Nat.testBit_or, Nat.testBit_or, (fl_mem hi).2, own_fl hG hs hi, own_fl hG hs hi, Bool.false_or]
  have h3 : code / 3 ^ i % 3 < 3 := Nat.mod_lt _ (by decide)
  have c : code / 3 ^ i % 3 = 0 ∨ code / 3 ^ i % 3 = 1 ∨ code / 3 ^ i % 3 = 2 := by omega
  rcases c with e | e | e <;> rw [e] <;> decide
/-- a fold over all signs is one over the free ones by their codes -/
theorem fold_code (hG : nG < 7) (hs : sh < 64) {code : Nat} {h : Nat → Int32 → Int32} {x : Int32} : forN (fun g best => if (sh ||| ownC nG sh 1 code ||| ownC nG sh 2 code).testBit g = true then best else h g best) nG x = forN (fun i b => if decide (code / 3 ^ i % 3 = 0) = true then h (flI nG sh i) b else b) (fcn nG sh) x := by
  have e1 : forN (fun g best => if (sh ||| ownC nG sh 1 code ||| ownC nG sh 2 code).testBit g = true then best else h g best) nG x = forN (fun g best => if (!sh.testBit g) = true then (if (sh ||| ownC nG sh 1 code ||| ownC nG sh 2 code).testBit g = true then best else h g best) else best) nG x := by
    refine forN_congr nG x (fun g hg b => ?_)
    cases hb : sh.testBit g
    · simp
    · have : (sh ||| ownC nG sh 1 code ||| ownC nG sh 2 code).testBit g = true := by rw [Nat.testBit_or, Nat.testBit_or, hb]; simp
      rw [this]
      simp
  rw [e1, forN_filter]
  show forN _ (fcn nG sh) x = _
  refine forN_congr _ x (fun i hi b => ?_)
  show (if (sh ||| ownC nG sh 1 code ||| ownC nG sh 2 code).testBit (flI nG sh i) = true then b else h (flI nG sh i) b) = _
  rw [taken_fl hG hs hi]
  by_cases h0 : code / 3 ^ i % 3 = 0
  · rw [decide_eq_true h0]; simp
  · rw [decide_eq_false h0]; simp
theorem free_code (hG : nG < 7) (hs : sh < 64) {code : Nat} : fcn nG (sh ||| ownC nG sh 1 code ||| ownC nG sh 2 code) = 0 ↔ ∀ i, i < fcn nG sh → ¬ code / 3 ^ i % 3 = 0 := by
  constructor
  · intro h i hi h0
    have hn : (List.range nG).filter (fun g => !(sh ||| ownC nG sh 1 code ||| ownC nG sh 2 code).testBit g) = [] := List.length_eq_zero_iff.mp h
    have := List.filter_eq_nil_iff.mp hn (flI nG sh i) (List.mem_range.mpr (fl_mem hi).1)
    rw [taken_fl hG hs hi, decide_eq_true h0] at this
    simp at this
  · intro h
    apply List.length_eq_zero_iff.mpr
    rw [List.filter_eq_nil_iff]
    intro g hg
    have hg' := List.mem_range.mp hg
    by_cases hb : sh.testBit g = true
    · rw [Nat.testBit_or, Nat.testBit_or, hb]; simp
    · have hm : g ∈ flS nG sh := List.mem_filter.mpr ⟨hg, by simpa using hb⟩
      obtain ⟨i, hi, e⟩ := List.getElem_of_mem hm
      have e2 : flI nG sh i = g := by
        unfold flI
        rw [List.getD_eq_getElem?_getD, List.getElem?_eq_getElem hi, e]
        rfl
      rw [← e2, taken_fl hG hs hi, decide_eq_false (h i hi)]
      simp
theorem vV_b (hB : ∀ k, ∃ x, x ≤ 7 ∧ Bs.getD k 0 = nI x) : ∀ f one other t p, ∃ x, x ≤ 7 ∧ vV Bs sh nG f one other t p = nI x
  | 0, _, _, _, _ => ⟨0, by decide, rfl⟩
  | f + 1, one, other, t, p => by
    rw [vV]
    split
    · exact hB one
    · have h0 : ∃ x, x ≤ 7 ∧ (if p = 1 then Bs.getD one 0 else vV Bs sh nG f one other (1 - t) 1) = nI x := by
        split
        · exact hB one
        · exact vV_b hB f _ _ _ _
      have key : ∀ m, ∃ x, x ≤ 7 ∧ forN (fun g best => if (sh ||| one ||| other).testBit g = true then best else if t = 0 then gmx (vV Bs sh nG f (one ||| 2 ^ g) other 1 0) best else gmn (vV Bs sh nG f one (other ||| 2 ^ g) 0 0) best) m (if p = 1 then Bs.getD one 0 else vV Bs sh nG f one other (1 - t) 1) = nI x := by
        intro m
        induction m with
        | zero => exact h0
        | succ m ih =>
          rw [forN_succ]
          generalize forN (fun g best => if (sh ||| one ||| other).testBit g = true then best else if t = 0 then gmx (vV Bs sh nG f (one ||| 2 ^ g) other 1 0) best else gmn (vV Bs sh nG f one (other ||| 2 ^ g) 0 0) best) m (if p = 1 then Bs.getD one 0 else vV Bs sh nG f one other (1 - t) 1) = b at ih ⊢
          split
          · exact ih
          · split
            · unfold gmx
              split
              · exact vV_b hB f _ _ _ _
              · exact ih
            · unfold gmn
              split
              · exact vV_b hB f _ _ _ _
              · exact ih
      exact key nG
def vC (Bs : List Int32) (sh nG t p code : Nat) : Int32 := vV Bs sh nG 14 (ownC nG sh 1 code) (ownC nG sh 2 code) t p
def oT (Bs : List Int32) (sh nG code : Nat) : Nat → Int32 := fun f => forN (fun i b => if decide (code / 3 ^ i % 3 = 0) = true then mx b (vC Bs sh nG 1 0 (code + 3 ^ i)) else b) f (-1)
def tT (Bs : List Int32) (sh nG code : Nat) : Nat → Int32 := fun f => forN (fun i b => if decide (code / 3 ^ i % 3 = 0) = true then mn b (vC Bs sh nG 0 0 (code + 2 * 3 ^ i)) else b) f 8
theorem gms13 (hG : nG < 7) {one other p : Nat} : gms nG sh one other p ≤ 13 := by
  have := fcn_le (nG := nG) (x := sh ||| one ||| other)
  unfold gms
  omega
theorem vC_next1 (hG : nG < 7) (hs : sh < 64) {code i : Nat} (hc : code < 729) (hi : i < fcn nG sh) (h0 : code / 3 ^ i % 3 = 0) : vV Bs sh nG 13 (ownC nG sh 1 code ||| 2 ^ flI nG sh i) (ownC nG sh 2 code) 1 0 = vC Bs sh nG 1 0 (code + 3 ^ i) := by
  have hf := fcn_le (nG := nG) (x := sh)
  have hd : ∀ j, j < 6 → (code + 3 ^ i) / 3 ^ j % 3 = if j = i then 1 else code / 3 ^ j % 3 := fun j hj => dg_a1 code (List.mem_range.mpr hc) i (List.mem_range.mpr (by omega)) h0 j (List.mem_range.mpr hj)
  have e1 := own_add hG hs (w := 1) (Or.inl rfl) (Or.inl rfl) hi h0 hd
  have e2 := own_add hG hs (w := 2) (Or.inl rfl) (Or.inr rfl) hi h0 hd
  rw [if_pos rfl] at e1
  rw [if_neg (by decide)] at e2
  unfold vC
  rw [e1, e2]
  have hfl := (fl_mem hi).1
  have hpw := pow64 (show flI nG sh i < 6 by omega)
  have htk : (sh ||| ownC nG sh 1 code ||| ownC nG sh 2 code).testBit (flI nG sh i) = false := by rw [taken_fl hG hs hi, decide_eq_true h0]; rfl
  have hm := (gms_take (p := 0) hG hs (own_lt hG) (own_lt hG) hfl htk).1
  have h13 := gms13 (sh := sh) (one := ownC nG sh 1 code) (other := ownC nG sh 2 code) (p := 0) hG
  exact vV_stab hG hs 13 _ _ _ _ (or64 (own_lt hG) hpw) (own_lt hG) (by decide) (by omega)
theorem vC_next2 (hG : nG < 7) (hs : sh < 64) {code i : Nat} (hc : code < 729) (hi : i < fcn nG sh) (h0 : code / 3 ^ i % 3 = 0) : vV Bs sh nG 13 (ownC nG sh 1 code) (ownC nG sh 2 code ||| 2 ^ flI nG sh i) 0 0 = vC Bs sh nG 0 0 (code + 2 * 3 ^ i) := by
  have hf := fcn_le (nG := nG) (x := sh)
  have hd : ∀ j, j < 6 → (code + 2 * 3 ^ i) / 3 ^ j % 3 = if j = i then 2 else code / 3 ^ j % 3 := fun j hj => dg_a2 code (List.mem_range.mpr hc) i (List.mem_range.mpr (by omega)) h0 j (List.mem_range.mpr hj)
  have e1 := own_add hG hs (w := 1) (Or.inr rfl) (Or.inl rfl) hi h0 hd
  have e2 := own_add hG hs (w := 2) (Or.inr rfl) (Or.inr rfl) hi h0 hd
  rw [if_neg (by decide)] at e1
  rw [if_pos rfl] at e2
  unfold vC
  rw [e1, e2]
  have hfl := (fl_mem hi).1
  have hpw := pow64 (show flI nG sh i < 6 by omega)
  have htk : (sh ||| ownC nG sh 1 code ||| ownC nG sh 2 code).testBit (flI nG sh i) = false := by rw [taken_fl hG hs hi, decide_eq_true h0]; rfl
  have hm := (gms_take (p := 0) hG hs (own_lt hG) (own_lt hG) hfl htk).2
  have h13 := gms13 (sh := sh) (one := ownC nG sh 1 code) (other := ownC nG sh 2 code) (p := 0) hG
  exact vV_stab hG hs 13 _ _ _ _ (own_lt hG) (or64 (own_lt hG) hpw) (by decide) (by omega)
/-- the class's four values at a code are the Model's -/
theorem vC_eq (hG : nG < 7) (hs : sh < 64) (hB : ∀ k, ∃ x, x ≤ 7 ∧ Bs.getD k 0 = nI x) {code : Nat} (hc : code < 729) :
    vC Bs sh nG 0 1 code = mx (oT Bs sh nG code (fcn nG sh)) (Bs.getD (ownC nG sh 1 code) 0) ∧ vC Bs sh nG 1 1 code = mn (tT Bs sh nG code (fcn nG sh)) (Bs.getD (ownC nG sh 1 code) 0) ∧ vC Bs sh nG 0 0 code = mx (oT Bs sh nG code (fcn nG sh)) (vC Bs sh nG 1 1 code) ∧ vC Bs sh nG 1 0 code = mn (tT Bs sh nG code (fcn nG sh)) (vC Bs sh nG 0 1 code) := by
  obtain ⟨x, hx, ex⟩ := hB (ownC nG sh 1 code)
  by_cases hz : fcn nG (sh ||| ownC nG sh 1 code ||| ownC nG sh 2 code) = 0
  · have hno := (free_code hG hs).mp hz
    have ev : ∀ t p, vC Bs sh nG t p code = Bs.getD (ownC nG sh 1 code) 0 := fun t p => by unfold vC; rw [vV, if_pos hz]
    have eo : oT Bs sh nG code (fcn nG sh) = -1 := by
      unfold oT
      have : forN (fun i b => if decide (code / 3 ^ i % 3 = 0) = true then mx b (vC Bs sh nG 1 0 (code + 3 ^ i)) else b) (fcn nG sh) (-1) = forN (fun _ b => b) (fcn nG sh) (-1) := forN_congr _ _ (fun i hi y => by rw [decide_eq_false (hno i hi), if_neg (by decide)])
      rw [this]
      have h3 := forN_tail (F := fun _ (a : Int32) => a) (m := 0) (x := -1) (fun _ _ _ => rfl) (fcn nG sh)
      rw [Nat.zero_add] at h3
      exact h3
    have et : tT Bs sh nG code (fcn nG sh) = 8 := by
      unfold tT
      have : forN (fun i b => if decide (code / 3 ^ i % 3 = 0) = true then mn b (vC Bs sh nG 0 0 (code + 2 * 3 ^ i)) else b) (fcn nG sh) 8 = forN (fun _ b => b) (fcn nG sh) 8 := forN_congr _ _ (fun i hi y => by rw [decide_eq_false (hno i hi), if_neg (by decide)])
      rw [this]
      have h3 := forN_tail (F := fun _ (a : Int32) => a) (m := 0) (x := 8) (fun _ _ _ => rfl) (fcn nG sh)
      rw [Nat.zero_add] at h3
      exact h3
    rw [ev, ev, ev, ev, eo, et, ex, mx_m1 (by omega), mn_8 hx]
    exact ⟨rfl, rfl, rfl, rfl⟩
  · have one : ∀ e : Int32, (∃ y, y ≤ 7 ∧ e = nI y) → forN (fun g best => if (sh ||| ownC nG sh 1 code ||| ownC nG sh 2 code).testBit g = true then best else if (0 : Nat) = 0 then gmx (vV Bs sh nG 13 (ownC nG sh 1 code ||| 2 ^ g) (ownC nG sh 2 code) 1 0) best else gmn (vV Bs sh nG 13 (ownC nG sh 1 code) (ownC nG sh 2 code ||| 2 ^ g) 0 0) best) nG e = mx (oT Bs sh nG code (fcn nG sh)) e := by
      rintro e ⟨y, hy, rfl⟩
      rw [fold_code hG hs]
      have h1 : forN (fun i b => if decide (code / 3 ^ i % 3 = 0) = true then (if (0 : Nat) = 0 then gmx (vV Bs sh nG 13 (ownC nG sh 1 code ||| 2 ^ flI nG sh i) (ownC nG sh 2 code) 1 0) b else gmn (vV Bs sh nG 13 (ownC nG sh 1 code) (ownC nG sh 2 code ||| 2 ^ flI nG sh i) 0 0) b) else b) (fcn nG sh) (nI y) = forN (fun i b => if decide (code / 3 ^ i % 3 = 0) = true then mx b (vC Bs sh nG 1 0 (code + 3 ^ i)) else b) (fcn nG sh) (nI y) := forN_congr _ _ (fun i hi b => by
        by_cases h0 : code / 3 ^ i % 3 = 0
        · rw [decide_eq_true h0, if_pos rfl, if_pos rfl, if_pos rfl, vC_next1 hG hs hc hi h0, gmx_mx]
        · rw [decide_eq_false h0, if_neg (by decide), if_neg (by decide)])
      rw [h1]
      have h2 := fold_mx (o := fun i => decide (code / 3 ^ i % 3 = 0)) (v := fun i => vC Bs sh nG 1 0 (code + 3 ^ i)) (a := -1) (e := nI y) (fcn nG sh)
      rw [mx_m1 (by omega)] at h2
      exact h2
    have two : ∀ e : Int32, (∃ y, y ≤ 7 ∧ e = nI y) → forN (fun g best => if (sh ||| ownC nG sh 1 code ||| ownC nG sh 2 code).testBit g = true then best else if (1 : Nat) = 0 then gmx (vV Bs sh nG 13 (ownC nG sh 1 code ||| 2 ^ g) (ownC nG sh 2 code) 1 0) best else gmn (vV Bs sh nG 13 (ownC nG sh 1 code) (ownC nG sh 2 code ||| 2 ^ g) 0 0) best) nG e = mn (tT Bs sh nG code (fcn nG sh)) e := by
      rintro e ⟨y, hy, rfl⟩
      rw [fold_code hG hs]
      have h1 : forN (fun i b => if decide (code / 3 ^ i % 3 = 0) = true then (if (1 : Nat) = 0 then gmx (vV Bs sh nG 13 (ownC nG sh 1 code ||| 2 ^ flI nG sh i) (ownC nG sh 2 code) 1 0) b else gmn (vV Bs sh nG 13 (ownC nG sh 1 code) (ownC nG sh 2 code ||| 2 ^ flI nG sh i) 0 0) b) else b) (fcn nG sh) (nI y) = forN (fun i b => if decide (code / 3 ^ i % 3 = 0) = true then mn b (vC Bs sh nG 0 0 (code + 2 * 3 ^ i)) else b) (fcn nG sh) (nI y) := forN_congr _ _ (fun i hi b => by
        by_cases h0 : code / 3 ^ i % 3 = 0
        · rw [decide_eq_true h0, if_pos rfl, if_pos rfl, if_neg (by decide), vC_next2 hG hs hc hi h0, gmn_mn]
        · rw [decide_eq_false h0, if_neg (by decide), if_neg (by decide)])
      rw [h1]
      have h2 := fold_mn (o := fun i => decide (code / 3 ^ i % 3 = 0)) (v := fun i => vC Bs sh nG 0 0 (code + 2 * 3 ^ i)) (a := 8) (e := nI y) (fcn nG sh)
      rw [mn_8 hy] at h2
      exact h2
    have st : ∀ t, vV Bs sh nG 13 (ownC nG sh 1 code) (ownC nG sh 2 code) t 1 = vC Bs sh nG t 1 code := fun t => by
      have := fcn_le (nG := nG) (x := sh ||| ownC nG sh 1 code ||| ownC nG sh 2 code)
      unfold vC
      exact vV_stab hG hs 13 _ _ _ _ (own_lt hG) (own_lt hG) (by decide) (by unfold gms; omega)
    refine ⟨?_, ?_, ?_, ?_⟩
    · have e : vC Bs sh nG 0 1 code = forN (fun g best => if (sh ||| ownC nG sh 1 code ||| ownC nG sh 2 code).testBit g = true then best else if (0 : Nat) = 0 then gmx (vV Bs sh nG 13 (ownC nG sh 1 code ||| 2 ^ g) (ownC nG sh 2 code) 1 0) best else gmn (vV Bs sh nG 13 (ownC nG sh 1 code) (ownC nG sh 2 code ||| 2 ^ g) 0 0) best) nG (Bs.getD (ownC nG sh 1 code) 0) := by
        show vV Bs sh nG 14 _ _ 0 1 = _
        rw [vV, if_neg hz, if_pos rfl]
      rw [e, one _ ⟨x, hx, ex⟩]
    · have e : vC Bs sh nG 1 1 code = forN (fun g best => if (sh ||| ownC nG sh 1 code ||| ownC nG sh 2 code).testBit g = true then best else if (1 : Nat) = 0 then gmx (vV Bs sh nG 13 (ownC nG sh 1 code ||| 2 ^ g) (ownC nG sh 2 code) 1 0) best else gmn (vV Bs sh nG 13 (ownC nG sh 1 code) (ownC nG sh 2 code ||| 2 ^ g) 0 0) best) nG (Bs.getD (ownC nG sh 1 code) 0) := by
        show vV Bs sh nG 14 _ _ 1 1 = _
        rw [vV, if_neg hz, if_pos rfl]
      rw [e, two _ ⟨x, hx, ex⟩]
    · have e : vC Bs sh nG 0 0 code = forN (fun g best => if (sh ||| ownC nG sh 1 code ||| ownC nG sh 2 code).testBit g = true then best else if (0 : Nat) = 0 then gmx (vV Bs sh nG 13 (ownC nG sh 1 code ||| 2 ^ g) (ownC nG sh 2 code) 1 0) best else gmn (vV Bs sh nG 13 (ownC nG sh 1 code) (ownC nG sh 2 code ||| 2 ^ g) 0 0) best) nG (vV Bs sh nG 13 (ownC nG sh 1 code) (ownC nG sh 2 code) 1 1) := by
        show vV Bs sh nG 14 _ _ 0 0 = _
        rw [vV, if_neg hz, if_neg (by decide)]
      rw [e, st]
      exact one _ (by unfold vC; exact vV_b hB _ _ _ _ _)
    · have e : vC Bs sh nG 1 0 code = forN (fun g best => if (sh ||| ownC nG sh 1 code ||| ownC nG sh 2 code).testBit g = true then best else if (1 : Nat) = 0 then gmx (vV Bs sh nG 13 (ownC nG sh 1 code ||| 2 ^ g) (ownC nG sh 2 code) 1 0) best else gmn (vV Bs sh nG 13 (ownC nG sh 1 code) (ownC nG sh 2 code ||| 2 ^ g) 0 0) best) nG (vV Bs sh nG 13 (ownC nG sh 1 code) (ownC nG sh 2 code) 0 1) := by
        show vV Bs sh nG 14 _ _ 1 0 = _
        rw [vV, if_neg hz, if_neg (by decide)]
      rw [e, st]
      exact two _ (by unfold vC; exact vV_b hB _ _ _ _ _)
end GP
