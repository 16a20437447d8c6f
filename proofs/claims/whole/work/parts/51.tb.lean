/-! ===== class and Model: the tables, a day ===== -/
def TbR (rw R : List Int32) (n : Nat) : Prop := ∀ i, i < n → tg rw i 0 = rg R (9 + 3 * i) ∧ tg rw i 1 = rg R (9 + 3 * i + 1) ∧ tg rw i 2 = rg R (9 + 3 * i + 2)
def TbS (ss R : List Int32) (n nS : Nat) : Prop := (∀ s, s < nS → ∃ a b, a < n ∧ b < n ∧ ¬ a = b ∧ tg ss s 0 = nI a ∧ tg ss s 1 = nI b ∧ tg ss s 2 = rg R (30 + 7 * a + b) ∧ 0 < rg R (30 + 7 * a + b)) ∧ (∀ s t, s < nS → t < nS → tg ss s 0 = tg ss t 0 → tg ss s 1 = tg ss t 1 → s = t) ∧ (∀ a b, a < n → b < n → 0 < rg R (30 + 7 * a + b) → ∃ s, s < nS ∧ tg ss s 0 = nI a ∧ tg ss s 1 = nI b)
def TbW (ss wl R : List Int32) (nS nW : Nat) : Prop := (∀ k, k < nW → ∃ s c, s < nS ∧ c ≤ 99 ∧ tg wl k 3 = nI s ∧ tg wl k 0 = rg R (79 + 3 * k) ∧ tg wl k 1 = rg R (79 + 3 * k + 1) ∧ tg wl k 2 = nI c ∧ rg R (79 + 3 * k + 2) = nI c ∧ tg ss s 0 = rg R (79 + 3 * k) ∧ tg ss s 1 = rg R (79 + 3 * k + 1)) ∧ (∀ k l, k < nW → l < nW → tg wl k 3 = tg wl l 3 → k = l)
def TbG (sg R : List Int32) (n nG : Nat) : Prop := ∀ k, k < nG → ∃ r dd c, r < n ∧ dd ≤ 20 ∧ c ≤ 99 ∧ tg sg k 0 = nI r ∧ rg R (94 + 4 * k) = nI r ∧ tg sg k 1 = rg R (94 + 4 * k + 1) ∧ tg sg k 2 = nI c ∧ rg R (94 + 4 * k + 2) = nI c ∧ tg sg k 3 = nI dd ∧ rg R (94 + 4 * k + 3) = nI dd
def TbU (ru R : List Int32) (n nU : Nat) : Prop := ∀ k, k < nU → ∃ r dd, r < n ∧ dd ≤ 20 ∧ tg ru k 0 = nI r ∧ rg R (118 + 3 * k) = nI r ∧ tg ru k 1 = rg R (118 + 3 * k + 1) ∧ tg ru k 3 = nI dd ∧ rg R (118 + 3 * k + 2) = nI dd
def TbN (sd R : List Int32) (n nN : Nat) : Prop := ∀ k, k < nN → ∃ r dd, r < n ∧ dd ≤ 20 ∧ tg sd k 0 = nI r ∧ rg R (133 + 3 * k) = nI r ∧ tg sd k 3 = nI dd ∧ rg R (133 + 3 * k + 1) = nI dd ∧ tg sd k 1 = rg R (133 + 3 * k + 2)
theorem cAdd_getD {ys : List Int32} {r i : Nat} {v : Int32} (hr : r < 100000) : (cAdd ys (nI r) v).getD i 0 = if r = i ∧ i < ys.length then ys.getD i 0 + v else ys.getD i 0 := by
  unfold cAdd
  rw [nI_clamp (by omega), inb_nI (by omega)]
  by_cases h : r < ys.length
  · rw [if_pos (decide_eq_true h), getD_set]
    by_cases e : r = i
    · subst e; rw [if_pos ⟨rfl, h⟩]
    · rw [if_neg (fun q => e q.1), if_neg (fun q => e q.1)]
  · rw [if_neg (by simpa using h)]
    by_cases e : r = i
    · subst e; rw [if_neg (fun q => h q.2)]
    · rw [if_neg (fun q => e q.1)]
theorem cSet_getD {ys : List Int32} {r i : Nat} {v : Int32} (hr : r < 100000) : (cSet ys (nI r) v).getD i 0 = if r = i ∧ i < ys.length then v else ys.getD i 0 := by
  unfold cSet
  rw [nI_clamp (by omega), inb_nI (by omega)]
  by_cases h : r < ys.length
  · rw [if_pos (decide_eq_true h), getD_set]
  · rw [if_neg (by simpa using h)]
    by_cases e : r = i
    · subst e; rw [if_neg (fun q => h q.2)]
    · rw [if_neg (fun q => e q.1)]
theorem wgt_wgM {x k : Int32} : wgt x k = wgM x k := by
  unfold wgt wgM
  by_cases h1 : k = 1
  · subst h1
    rw [if_pos rfl, if_neg (by decide), if_pos rfl]
  · rw [if_neg h1]
    by_cases h2 : k = 2
    · rw [if_pos h2, if_pos h2, Int32.mul_comm]
    · rw [if_neg h2, if_neg h2, if_neg h1]
theorem z7_getD {i : Nat} : z7.getD i 0 = 0 := by
  unfold z7
  rw [List.getD_eq_getElem?_getD, List.getElem?_replicate]
  split <;> rfl
theorem z7_len : z7.length = 7 := rfl
section DAY
variable {rw ss wl sg ru sd R ws f : List Int32} {n nS nW nG nU nN : Nat} {rum : Int32}
theorem hsg_get (hG : TbG sg R n nG) (hn : n ≤ 7) (hb6 : nG ≤ 6) {i : Nat} (hi : i < 7) : ∀ m, m ≤ nG → (forN (hsgF sg (ws.getD 7 0) (ws.getD 9 0)) m z7).getD i 0 = forN (tF1 R ws i) m 0
  | 0, _ => z7_getD
  | m + 1, hm => by
    have ih := hsg_get hG hn hb6 hi m (by omega)
    have hl : (forN (hsgF sg (ws.getD 7 0) (ws.getD 9 0)) m z7).length = 7 := by rw [forN_len hsgF_len]; rfl
    rw [forN_succ, forN_succ, ← ih]
    generalize forN (hsgF sg (ws.getD 7 0) (ws.getD 9 0)) m z7 = ys at hl ⊢
    obtain ⟨r, dd, c, hr, hd, hc, g0, g0', g1, g2, g2', g3, g3'⟩ := hG m (by omega)
    have eri : (nI r = nI i) = (r = i) := propext (nI_eq (by omega) (by omega))
    unfold hsgF tF1
    simp only [bit_hb (show m < 32 by omega), g3, g0, g1, g0', g3', eri]
    cases hbt : hb (ws.getD 7 0) (nI m)
    · simp [Int32.add_zero]
    · rw [if_neg (by decide)]
      by_cases e9 : nI dd = ws.getD 9 0
      · rw [if_pos e9, cAdd_getD (by omega)]
        by_cases e : r = i
        · rw [if_pos ⟨e, by omega⟩, if_pos ⟨rfl, e, e9⟩]
        · rw [if_neg (fun q => e q.1), if_neg (fun q => e q.2.1), Int32.add_zero]
      · rw [if_neg e9, if_neg (fun q => e9 q.2.2), Int32.add_zero]
theorem hru_get (hR : TbR rw R n) (hU : TbU ru R n nU) (hn : n ≤ 7) (hb5 : nU ≤ 5) {q1 : List Int32} (hq : q1.length = 7) {i : Nat} (hi : i < n) : ∀ m, m ≤ nU → (forN (hruF ru rw rum (ws.getD 9 0)) m q1).getD i 0 = forN (tF2 R rum ws i) m (q1.getD i 0)
  | 0, _ => rfl
  | m + 1, hm => by
    have ih := hru_get hR hU hn hb5 hq hi m (by omega)
    have hl : (forN (hruF ru rw rum (ws.getD 9 0)) m q1).length = 7 := by rw [forN_len hruF_len, hq]
    rw [forN_succ, forN_succ, ← ih]
    generalize forN (hruF ru rw rum (ws.getD 9 0)) m q1 = ys at hl ⊢
    obtain ⟨r, dd, hr, hd, g0, g0', g1, g3, g3'⟩ := hU m (by omega)
    have eri : (nI r = nI i) = (r = i) := propext (nI_eq (by omega) (by omega))
    unfold hruF tF2
    simp only [bit_hb (show m < 32 by omega), g3, g0, g1, g0', g3', eri, tg_eq (xs := rw) (i := r) 0 (v := 0) (by omega) (by decide) rfl, (hR r hr).1, wgt_wgM]
    cases hbt : hb rum (nI m)
    · simp
    · rw [if_neg (by decide)]
      by_cases e9 : nI dd = ws.getD 9 0
      · rw [if_pos e9, cAdd_getD (by omega)]
        by_cases e : r = i
        · subst e
          rw [if_pos ⟨rfl, by omega⟩, if_pos ⟨rfl, rfl, e9⟩, Int32.sub_eq_add_neg]
        · rw [if_neg (fun q => e q.1), if_neg (fun q => e q.2.1)]
      · rw [if_neg e9, if_neg (fun q => e9 q.2.2)]
theorem no_day {x : Int32} {dd : Nat} (h : 20 < x) (hd : dd ≤ 20) : ¬ nI dd = x := fun e => by
  rw [← e, Int32.lt_iff_toInt_lt, nI_toInt (by omega), show (20 : Int32).toInt = 20 by decide] at h
  omega
theorem tF_none (hG : TbG sg R n nG) (hU : TbU ru R n nU) (h9 : 20 < ws.getD 9 0) {i : Nat} : forN (tF2 R rum ws i) nU (forN (tF1 R ws i) nG 0) = 0 := by
  have e1 : ∀ m, m ≤ nG → forN (tF1 R ws i) m 0 = 0 := by
    intro m
    induction m with
    | zero => intro _; rfl
    | succ m ih =>
      intro hm
      obtain ⟨r, dd, c, hr, hd, hc, g0, g0', g1, g2, g2', g3, g3'⟩ := hG m (by omega)
      rw [forN_succ, ih (by omega)]
      unfold tF1
      rw [g3', if_neg (fun q => no_day h9 hd q.2.2)]
      rfl
  have e2 : ∀ m, m ≤ nU → forN (tF2 R rum ws i) m 0 = 0 := by
    intro m
    induction m with
    | zero => intro _; rfl
    | succ m ih =>
      intro hm
      obtain ⟨r, dd, hr, hd, g0, g0', g1, g3, g3'⟩ := hU m (by omega)
      rw [forN_succ, ih (by omega)]
      unfold tF2
      rw [g3', if_neg (fun q => no_day h9 hd q.2.2)]
  rw [e1 nG (Nat.le_refl _), e2 nU (Nat.le_refl _)]
theorem hd_get (hR : TbR rw R n) (hG : TbG sg R n nG) (hU : TbU ru R n nU) (hn : n ≤ 7) (hb6 : nG ≤ 6) (hb5 : nU ≤ 5) {i : Nat} (hi : i < n) : (hdA sg ru rw nG nU (ws.getD 7 0) rum (ws.getD 9 0)).getD i 0 = forN (tF2 R rum ws i) nU (forN (tF1 R ws i) nG 0) := by
  unfold hdA
  by_cases h9 : 20 < ws.getD 9 0
  · rw [if_pos h9, z7_getD, tF_none hG hU h9]
  · rw [if_neg h9, hru_get hR hU hn hb5 (by rw [forN_len hsgF_len]; rfl) hi nU (Nat.le_refl _), hsg_get hG hn hb6 (by omega) nG (Nat.le_refl _)]
/-- an open sight: no wall that is up stands in it -/
theorem opn_bit {up : Int32} (hW : TbW ss wl R nS nW) (hS : nS ≤ 10) (hW5 : nW ≤ 5) {s : Nat} (hs : s < nS) : bt (opn nS nW wl up) s = !(exN (fun k => hb up (nI k) && decide (tg wl k 3 = nI s)) nW) := by
  unfold opn
  have key : ∀ m, m ≤ nW → bt (forN (opnF wl up) m ((1 <<< (nI nS &&& 31)) - 1)) s = !(exN (fun k => hb up (nI k) && decide (tg wl k 3 = nI s)) m) := by
    intro m
    induction m with
    | zero =>
      intro _
      rw [forN_zero, exN_zero]
      show bt (allU nS) s = _
      rw [bt_allU hS (by omega), decide_eq_true hs]
      rfl
    | succ m ih =>
      intro hm
      rw [forN_succ, exN_succ, Bool.not_or, ← ih (by omega)]
      generalize forN (opnF wl up) m ((1 <<< (nI nS &&& 31)) - 1) = acc
      obtain ⟨t, c, ht, hc, w3, _⟩ := hW.1 m (by omega)
      unfold opnF
      simp only [bit_hb (show m < 32 by omega), w3]
      have ets : decide (nI t = nI s) = decide (t = s) := decide_eq_decide.mpr (nI_eq (by omega) (by omega))
      rw [ets]
      cases hbt : hb up (nI m)
      · simp
      · rw [if_neg (by decide), b_and, b_xor, bt_p2 (by omega) (by omega), b_m1 s (by omega)]
        simp
  exact key nW (Nat.le_refl _)
theorem opn_see {up : Int32} (hSs : TbS ss R n nS) (hW : TbW ss wl R nS nW) (hn : n ≤ 7) (hS : nS ≤ 10) (hW5 : nW ≤ 5) {s a b : Nat} (hs : s < nS) (ha : a < n) (hb' : b < n) (h0 : tg ss s 0 = nI a) (h1 : tg ss s 1 = nI b) : bt (opn nS nW wl up) s = dSee R nW up a b := by
  obtain ⟨a', b', la, lb, hne, s0, s1, s2, s3⟩ := hSs.1 s hs
  have ea : a' = a := (nI_eq (by omega) (by omega)).mp (s0.symm.trans h0)
  have eb : b' = b := (nI_eq (by omega) (by omega)).mp (s1.symm.trans h1)
  subst ea
  subst eb
  rw [opn_bit hW hS hW5 hs]
  unfold dSee
  rw [decide_eq_true s3, Bool.true_and]
  congr 1
  refine exN_congr (fun k hk => ?_)
  obtain ⟨t, c, ht, hc, w3, _, _, _, _, w4, w5⟩ := hW.1 k hk
  unfold isWp
  rw [Bool.and_assoc]
  congr 1
  rw [w3, ← w4, ← w5]
  by_cases e : t = s
  · subst e
    rw [decide_eq_true rfl, decide_eq_true s0, decide_eq_true s1]
    rfl
  · have e1 : decide (nI t = nI s) = false := decide_eq_false (fun q => e ((nI_eq (by omega) (by omega)).mp q))
    rw [e1]
    by_cases q0 : tg ss t 0 = nI a'
    · by_cases q1 : tg ss t 1 = nI b'
      · exact absurd (hSs.2.1 t s ht hs (q0.trans s0.symm) (q1.trans s1.symm)) e
      · rw [decide_eq_false q1, Bool.and_false]
    · rw [decide_eq_false q0, Bool.false_and]
/-- what one sight tells its row: of doubt, of faith -/
def seA (ss f : List Int32) (op : Int32) (i s : Nat) : Int32 := if bt op s = true ∧ tg ss s 0 = nI i ∧ cAt f (tg ss s 1) < 10 then tg ss s 2 else 0
def seB (ss f : List Int32) (op : Int32) (i s : Nat) : Int32 := if bt op s = true ∧ tg ss s 0 = nI i ∧ ¬ cAt f (tg ss s 1) < 10 ∧ ¬ cAt f (tg ss s 1) ≤ cAt f (tg ss s 0) then 1 else 0
theorem see_get {op : Int32} (hSs : TbS ss R n nS) (hn : n ≤ 7) (hS : nS ≤ 10) {i : Nat} (hi : i < 7) : ∀ m, m ≤ nS → (forN (seeF ss op f) m (z7, z7)).1.getD i 0 = sumN (seA ss f op i) m ∧ (forN (seeF ss op f) m (z7, z7)).2.getD i 0 = sumN (seB ss f op i) m
  | 0, _ => ⟨z7_getD, z7_getD⟩
  | m + 1, hm => by
    obtain ⟨ih1, ih2⟩ := see_get hSs hn hS hi m (by omega)
    have hl := seeF_len (ss := ss) (f := f) (op := op) m (z7, z7)
    rw [forN_succ, sumN_succ, sumN_succ, ← ih1, ← ih2]
    generalize forN (seeF ss op f) m (z7, z7) = p at hl ⊢
    obtain ⟨p1, p2'⟩ := p
    obtain ⟨a, b, la, lb, hne, s0, s1, s2, s3⟩ := hSs.1 m (by omega)
    have eai : (nI a = nI i) = (a = i) := propext (nI_eq (by omega) (by omega))
    simp only [z7_len] at hl
    unfold seeF seA seB
    simp only [bit_bt (show m < 32 by omega)]
    cases hbt : bt op m
    · simp [Int32.add_zero]
    · rw [if_neg (by decide)]
      simp only [s0, eai, true_and]
      by_cases hd : cAt f (tg ss m 1) < 10
      · rw [if_pos hd]
        simp only [hd, and_true, not_true_eq_false, false_and, and_false, if_false, Int32.add_zero]
        rw [cAdd_getD (by omega)]
        by_cases e : a = i
        · rw [if_pos ⟨e, by omega⟩, if_pos e]
        · rw [if_neg (fun q => e q.1), if_neg e, Int32.add_zero]
      · rw [if_neg hd]
        simp only [hd, and_false, not_false_eq_true, true_and, if_false, Int32.add_zero]
        by_cases hle : cAt f (tg ss m 1) ≤ cAt f (nI a)
        · rw [if_pos hle]
          simp only [hle, not_true_eq_false, and_false, if_false, Int32.add_zero, and_self]
        · rw [if_neg hle]
          simp only [hle, not_false_eq_true, and_true]
          refine ⟨trivial, ?_⟩
          rw [cAdd_getD (by omega)]
          by_cases e : a = i
          · rw [if_pos ⟨e, by omega⟩, if_pos e]
          · rw [if_neg (fun q => e q.1), if_neg e, Int32.add_zero]
def smA (R ws : List Int32) (nW k b : Nat) : Int32 := if ¬ b = k ∧ dSee R nW (ws.getD 8 0) k b = true ∧ ws.getD b 0 < 10 then rg R (30 + 7 * k + b) else 0
def smB (R ws : List Int32) (nW k b : Nat) : Int32 := if ¬ b = k ∧ dSee R nW (ws.getD 8 0) k b = true ∧ ¬ ws.getD b 0 < 10 ∧ ¬ ws.getD b 0 ≤ ws.getD k 0 then 1 else 0
theorem sF_get {k : Nat} : ∀ m, forN (sF R ws nW k) m (0, 0) = (sumN (smA R ws nW k) m, sumN (smB R ws nW k) m)
  | 0 => rfl
  | m + 1 => by
    rw [forN_succ, sF_get m, sumN_succ, sumN_succ]
    generalize sumN (smA R ws nW k) m = x
    generalize sumN (smB R ws nW k) m = y
    unfold sF smA smB
    by_cases e : m = k
    · simp [e, Int32.add_zero]
    · rw [if_neg e]
      cases hdS : dSee R nW (ws.getD 8 0) k m
      · simp [Int32.add_zero]
      · rw [if_pos rfl]
        by_cases hd : ws.getD m 0 < 10
        · rw [if_pos hd, if_pos ⟨e, rfl, hd⟩, if_neg (fun q => q.2.2.1 hd), Int32.add_zero]
        · rw [if_neg hd, if_neg (fun (q : ¬ m = k ∧ true = true ∧ ws.getD m 0 < 10) => hd q.2.2)]
          by_cases hle : ws.getD m 0 ≤ ws.getD k 0
          · rw [if_pos hle, if_neg (fun q => q.2.2.2 hle), Int32.add_zero, Int32.add_zero]
          · rw [if_neg hle, if_pos ⟨e, rfl, hd, hle⟩, Int32.add_zero]
/-- the sums over sights are those over rows -/
theorem see_sum (hSs : TbS ss R n nS) (hW : TbW ss wl R nS nW) (hn : n ≤ 7) (hS : nS ≤ 10) (hW5 : nW ≤ 5) (hf : ∀ i, i < n → f.getD i 0 = ws.getD i 0) {i : Nat} (hi : i < n) : sumN (seA ss f (opn nS nW wl (ws.getD 8 0)) i) nS = sumN (smA R ws nW i) n ∧ sumN (seB ss f (opn nS nW wl (ws.getD 8 0)) i) nS = sumN (smB R ws nW i) n := by
  have one : ∀ s, s < nS → decide (tg ss s 0 = nI i) = true → ∃ b, b < n ∧ ¬ b = i ∧ (tg ss s 1).toNatClampNeg = b ∧ tg ss s 1 = nI b ∧ tg ss s 2 = rg R (30 + 7 * i + b) ∧ bt (opn nS nW wl (ws.getD 8 0)) s = dSee R nW (ws.getD 8 0) i b := by
    intro s hs hp
    have hp' := of_decide_eq_true hp
    obtain ⟨a, b, la, lb, hne, s0, s1, s2, s3⟩ := hSs.1 s hs
    have ea : a = i := (nI_eq (by omega) (by omega)).mp (s0.symm.trans hp')
    subst ea
    exact ⟨b, lb, fun q => hne q.symm, by rw [s1, nI_clamp (by omega)], s1, s2, opn_see hSs hW hn hS hW5 hs la lb s0 s1⟩
  have inj : ∀ s t, s < nS → t < nS → decide (tg ss s 0 = nI i) = true → decide (tg ss t 0 = nI i) = true → (tg ss s 1).toNatClampNeg = (tg ss t 1).toNatClampNeg → s = t := by
    intro s t hs ht hp hq he
    obtain ⟨b, _, _, e1, e2, _⟩ := one s hs hp
    obtain ⟨b', _, _, e1', e2', _⟩ := one t ht hq
    rw [e1, e1'] at he
    exact hSs.2.1 s t hs ht ((of_decide_eq_true hp).trans (of_decide_eq_true hq).symm) (by rw [e2, e2', he])
  have none : ∀ b, b < n → (∀ s, s < nS → decide (tg ss s 0 = nI i) = true → ¬ (tg ss s 1).toNatClampNeg = b) → dSee R nW (ws.getD 8 0) i b = false := by
    intro b hb' hno
    unfold dSee
    by_cases h0 : 0 < rg R (30 + 7 * i + b)
    · obtain ⟨s, hs, s0, s1⟩ := hSs.2.2 i b hi hb' h0
      exact absurd (by rw [s1, nI_clamp (by omega)]) (hno s hs (decide_eq_true s0))
    · rw [decide_eq_false h0, Bool.false_and]
  constructor
  · refine sumN_match (P := fun s => decide (tg ss s 0 = nI i)) (q := fun s => (tg ss s 1).toNatClampNeg) (fun s hs hp => ?_) (fun s hs hp => ?_) inj (fun b hb' hno => ?_)
    · obtain ⟨b, lb, hne, e1, e2, e3, e4⟩ := one s hs hp
      refine ⟨by rw [e1]; exact lb, ?_⟩
      unfold seA smA
      rw [e4, e1, e2, cAt_nI (by omega), hf b lb, e3]
      simp only [of_decide_eq_true hp, hne, not_false_eq_true, true_and]
    · unfold seA
      rw [if_neg (fun q => of_decide_eq_false hp q.2.1)]
    · unfold smA
      rw [none b hb' hno, if_neg (fun q => by cases q.2.1)]
  · refine sumN_match (P := fun s => decide (tg ss s 0 = nI i)) (q := fun s => (tg ss s 1).toNatClampNeg) (fun s hs hp => ?_) (fun s hs hp => ?_) inj (fun b hb' hno => ?_)
    · obtain ⟨b, lb, hne, e1, e2, e3, e4⟩ := one s hs hp
      refine ⟨by rw [e1]; exact lb, ?_⟩
      unfold seB smB
      rw [e4, e1, e2, of_decide_eq_true hp, cAt_nI (by omega), cAt_nI (by omega), hf b lb, hf i hi]
      simp only [hne, not_false_eq_true, true_and]
    · unfold seB
      rw [if_neg (fun q => of_decide_eq_false hp q.2.1)]
    · unfold smB
      rw [none b hb' hno, if_neg (fun q => by cases q.2.1)]
theorem clp_mx {x : Int32} : mx 0 (mn 30 x) = clp x := by
  unfold mx mn clp
  by_cases h0 : x < 0
  · rw [if_pos h0]
    have h30 : x < 30 := by
      rw [Int32.lt_iff_toInt_lt] at h0 ⊢
      rw [Int32.toInt_zero] at h0
      rw [show (30 : Int32).toInt = 30 by decide]
      omega
    rw [if_pos h30, if_neg (Int32.not_lt.mpr (Int32.le_of_lt h0))]
  · rw [if_neg h0]
    by_cases h30 : x < 30
    · rw [if_pos h30, if_pos (Int32.le_of_lt h30)]
      by_cases h : 0 < x
      · rw [if_pos h]
      · rw [if_neg h]
        exact Int32.le_antisymm (Int32.not_lt.mp h0) (Int32.not_lt.mp h)
    · rw [if_neg h30, if_pos (by decide)]
      by_cases h : x ≤ 30
      · rw [if_pos h]
        exact Int32.le_antisymm (Int32.not_lt.mp h30) h
      · rw [if_neg h]
theorem set_get {dS fS hd : List Int32} {rw0 f0 : List Int32} (hl : f0.length = 7) {j : Nat} : ∀ m, m ≤ 7 → (forN (setF rw0 dS fS hd) m (f0, false)).1.getD j 0 = (if j < m then nfa (tg rw0 j 0) (f0.getD j 0) (dS.getD j 0) (fS.getD j 0) (hd.getD j 0) else f0.getD j 0) ∧ (forN (setF rw0 dS fS hd) m (f0, false)).2 = exN (fun j => !(decide (nfa (tg rw0 j 0) (f0.getD j 0) (dS.getD j 0) (fS.getD j 0) (hd.getD j 0) = f0.getD j 0))) m
  | 0, _ => ⟨by rw [forN_zero, if_neg (Nat.not_lt_zero _)], rfl⟩
  | m + 1, hm => by
    have ihm := set_get (dS := dS) (fS := fS) (hd := hd) (rw0 := rw0) (f0 := f0) hl (j := m) m (by omega)
    have ihj := set_get (dS := dS) (fS := fS) (hd := hd) (rw0 := rw0) (f0 := f0) hl (j := j) m (by omega)
    have hln : (forN (setF rw0 dS fS hd) m (f0, false)).1.length = 7 := by rw [setF_len, hl]
    rw [forN_succ]
    generalize forN (setF rw0 dS fS hd) m (f0, false) = p at ihm ihj hln ⊢
    obtain ⟨p1, p2'⟩ := p
    simp only at ihm ihj hln ⊢
    rw [if_neg (Nat.lt_irrefl _)] at ihm
    unfold setF
    simp only [cAt_nI (show m < 2147483648 by omega), ihm.1]
    rw [cSet_getD (by omega), hln, exN_succ, ihm.2]
    refine ⟨?_, rfl⟩
    by_cases e : m = j
    · subst e
      rw [if_pos ⟨rfl, by omega⟩, if_pos (by omega)]
    · rw [if_neg (fun q => e q.1), ihj.1]
      by_cases c : j < m
      · rw [if_pos c, if_pos (by omega)]
      · rw [if_neg c, if_neg (by omega)]
/-- a day of the class is one of the Model -/
theorem day_eq (hR : TbR rw R n) (hSs : TbS ss R n nS) (hW : TbW ss wl R nS nW) (hG : TbG sg R n nG) (hU : TbU ru R n nU) (hn : n ≤ 7) (hS : nS ≤ 10) (hW5 : nW ≤ 5) (hG6 : nG ≤ 6) (hU5 : nU ≤ 5) (hl : f.length = 7) (hf : ∀ i, i < n → f.getD i 0 = ws.getD i 0) :
    (∀ i, i < n → (dayA sg ru rw ss nG nU nS n (ws.getD 7 0) rum (opn nS nW wl (ws.getD 8 0)) (ws.getD 9 0) f).1.getD i 0 = nfM R rum n nW nG nU ws i) ∧ (dayA sg ru rw ss nG nU nS n (ws.getD 7 0) rum (opn nS nW wl (ws.getD 8 0)) (ws.getD 9 0) f).2 = exN (fun k => decide (¬ nfM R rum n nW nG nU ws k = ws.getD k 0)) n := by
  have key : ∀ i, i < n → nfa (tg rw i 0) (f.getD i 0) ((forN (seeF ss (opn nS nW wl (ws.getD 8 0)) f) nS (z7, z7)).1.getD i 0) ((forN (seeF ss (opn nS nW wl (ws.getD 8 0)) f) nS (z7, z7)).2.getD i 0) ((hdA sg ru rw nG nU (ws.getD 7 0) rum (ws.getD 9 0)).getD i 0) = nfM R rum n nW nG nU ws i := by
    intro i hi
    have g := see_get (f := f) (op := opn nS nW wl (ws.getD 8 0)) hSs hn hS (show i < 7 by omega) nS (Nat.le_refl _)
    have g2 := see_sum (wl := wl) hSs hW hn hS hW5 hf hi
    rw [g.1, g.2, g2.1, g2.2, hd_get hR hG hU hn hG6 hU5 hi, (hR i hi).1, hf i hi]
    unfold nfa nfM tldM senM
    rw [clp_mx, sF_get]
    congr 1
    simp only
    generalize (if rg R (9 + 3 * i) = 1 then sumN (smA R ws nW i) n / 2 else sumN (smA R ws nW i) n) = X
    generalize (if rg R (9 + 3 * i) = 3 then (0 : Int32) else forN (tF2 R rum ws i) nU (forN (tF1 R ws i) nG 0)) = T
    rw [Int32.sub_eq_add_neg, Int32.sub_eq_add_neg, Int32.add_assoc, Int32.add_assoc, Int32.add_assoc]
    congr 1
    rw [← Int32.add_assoc, Int32.add_comm]
  constructor
  · intro i hi
    unfold dayA
    rw [(set_get hl (j := i) n hn).1, if_pos hi, key i hi]
  · unfold dayA
    rw [(set_get hl (j := 0) n hn).2]
    refine exN_congr (fun k hk => ?_)
    rw [key k hk, hf k hk]
    simp
end DAY
