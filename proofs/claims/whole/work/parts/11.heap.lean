/-! ===== the heap's algebra ===== -/
section HEAP
variable {H : List AC} {a b f g ci : Nat} {v : Value} {xs : List Int32} {ys : List Int64}
theorem gfl_hpf : gfl (hpf H a f v) b ci g = if a = b ∧ f = g then (gfl H b ci g).map (fun _ => v) else gfl H b ci g := by
  unfold hpf
  split
  · rename_i c fs h
    unfold gfl
    rw [List.getElem?_set]
    by_cases hab : a = b
    · subst hab
      have hl : a < H.length := (List.getElem?_eq_some_iff.mp h).1
      simp only [hl, if_true, h]
      by_cases hc : c = ci
      · simp only [hc, if_true, List.getElem?_set]
        by_cases hfg : f = g
        · subst hfg
          by_cases hl2 : f < fs.length
          · simp [hl2]
          · simp [hl2, List.getElem?_eq_none (Nat.le_of_not_lt hl2)]
        · simp [hfg]
      · simp [hc]
    · simp [hab]
  · rename_i h
    by_cases hab : a = b ∧ f = g
    · rw [if_pos hab]
      obtain ⟨rfl, rfl⟩ := hab
      cases hg : gfl H a ci f with
      | none => rfl
      | some u =>
        unfold gfl at hg
        split at hg
        · rename_i c fs h1
          exact absurd h1 (h c fs)
        · cases hg
    · rw [if_neg hab]
theorem garr_hpf : garr (hpf H a f v) b = garr H b := by
  unfold hpf
  split
  · rename_i c fs h
    unfold garr
    rw [List.getElem?_set]
    by_cases hab : a = b
    · subst hab
      have hl : a < H.length := (List.getElem?_eq_some_iff.mp h).1
      simp only [hl, if_true, h]
      try rfl
    · simp [hab]
  · rfl
theorem garl_hpf : garl (hpf H a f v) b = garl H b := by
  unfold hpf
  split
  · rename_i c fs h
    unfold garl
    rw [List.getElem?_set]
    by_cases hab : a = b
    · subst hab
      have hl : a < H.length := (List.getElem?_eq_some_iff.mp h).1
      simp only [hl, if_true, h]
      try rfl
    · simp [hab]
  · rfl
theorem gfl_hpa : gfl (hpa H a xs) b ci g = gfl H b ci g := by
  unfold hpa
  split
  · rename_i c h
    unfold gfl
    rw [List.getElem?_set]
    by_cases hab : a = b
    · subst hab
      have hl : a < H.length := (List.getElem?_eq_some_iff.mp h).1
      simp only [hl, if_true, h]
      try rfl
    · simp [hab]
  · rfl
theorem garr_hpa : garr (hpa H a xs) b = if a = b then (garr H b).map (fun _ => xs) else garr H b := by
  unfold hpa
  split
  · rename_i c h
    unfold garr
    rw [List.getElem?_set]
    by_cases hab : a = b
    · subst hab
      have hl : a < H.length := (List.getElem?_eq_some_iff.mp h).1
      simp only [hl, if_true, h]
      try rfl
    · simp [hab]
  · rename_i h
    by_cases hab : a = b
    · subst hab
      rw [if_pos rfl]
      cases hg : garr H a with
      | none => rfl
      | some u =>
        unfold garr at hg
        split at hg
        · rename_i c h1
          exact absurd h1 (h c)
        · cases hg
    · rw [if_neg hab]
theorem garl_hpa : garl (hpa H a xs) b = garl H b := by
  unfold hpa
  split
  · rename_i c h
    unfold garl
    rw [List.getElem?_set]
    by_cases hab : a = b
    · subst hab
      have hl : a < H.length := (List.getElem?_eq_some_iff.mp h).1
      simp only [hl, if_true, h]
      try rfl
    · simp [hab]
  · rfl
theorem rcv_of (h : gfl H a ci f = some v) : rcv H (some (.ref a)) ci = true := by
  unfold gfl at h
  unfold rcv
  split at h
  · rename_i c fs h1
    simp only [h1]
    split at h
    · rename_i hc; simp [hc]
    · cases h
  · cases h
theorem rcv_hpf : rcv (hpf H a f v) (some (.ref b)) ci = rcv H (some (.ref b)) ci := by
  unfold hpf
  split
  · rename_i c fs h
    unfold rcv
    simp only [List.getElem?_set]
    by_cases hab : a = b
    · subst hab
      have hl : a < H.length := (List.getElem?_eq_some_iff.mp h).1
      simp only [hl, if_true, h]
      try rfl
    · simp [hab]
  · rfl
theorem rcv_hpa : rcv (hpa H a xs) (some (.ref b)) ci = rcv H (some (.ref b)) ci := by
  unfold hpa
  split
  · rename_i c h
    unfold rcv
    simp only [List.getElem?_set]
    by_cases hab : a = b
    · subst hab
      have hl : a < H.length := (List.getElem?_eq_some_iff.mp h).1
      simp only [hl, if_true, h]
      try rfl
    · simp [hab]
  · rfl
theorem hpa_hpa {xs2 : List Int32} : hpa (hpa H a xs) a xs2 = hpa H a xs2 := by
  unfold hpa
  split
  · rename_i c h
    split at h
    · rename_i c1 h1
      have hl : a < H.length := (List.getElem?_eq_some_iff.mp h1).1
      simp [h1]
    · rename_i h1
      exact absurd h (h1 _)
  · rename_i h
    split
    · rename_i c1 h1
      have hl : a < H.length := (List.getElem?_eq_some_iff.mp h1).1
      exact absurd (by simp only [h1]; simp [hl]) (h xs)
    · rfl
theorem hpa_self (h : garr H a = some xs) : hpa H a xs = H := by
  unfold garr at h
  unfold hpa
  split at h
  · rename_i c h1
    cases h
    apply List.ext_getElem?
    intro i
    rw [List.getElem?_set]
    by_cases hi : a = i
    · subst hi
      have hl : a < H.length := (List.getElem?_eq_some_iff.mp h1).1
      rw [if_pos rfl, if_pos hl, h1]
    · simp [hi]
  · cases h
theorem hpa_get {i : Nat} : (hpa H a xs)[i]? = if a = i then (H[a]?).map (fun c => match c with | .inr (.inl _) => .inr (.inl xs) | c => c) else H[i]? := by
  unfold hpa
  split
  · rename_i c h
    have hl : a < H.length := (List.getElem?_eq_some_iff.mp h).1
    rw [List.getElem?_set]
    by_cases hi : a = i
    · subst hi
      rw [if_pos rfl, if_pos rfl, if_pos hl, h]
      rfl
    · rw [if_neg hi, if_neg hi]
  · rename_i h
    by_cases hi : a = i
    · subst hi
      rw [if_pos rfl]
      cases hc : H[a]? with
      | none => rfl
      | some c =>
        rcases c with c | c | c
        · rfl
        · exact absurd hc (h c)
        · rfl
    · rw [if_neg hi]
theorem hpa_comm {xs2 : List Int32} (hn : ¬ a = b) : hpa (hpa H a xs) b xs2 = hpa (hpa H b xs2) a xs := by
  apply List.ext_getElem?
  intro i
  simp only [hpa_get]
  by_cases h1 : b = i
  · subst h1
    simp [hn]
  · by_cases h2 : a = i
    · subst h2
      simp [h1]
    · simp [h1, h2]
theorem hpf_hpf {v2 : Value} : hpf (hpf H a f v) a f v2 = hpf H a f v2 := by
  unfold hpf
  split
  · rename_i c fs h
    split at h
    · rename_i c1 fs1 h1
      have hl : a < H.length := (List.getElem?_eq_some_iff.mp h1).1
      simp [hl] at h
      obtain ⟨rfl, rfl⟩ := h
      simp [h1]
    · rename_i h1
      exact absurd h (h1 _ _)
  · rename_i h
    split
    · rename_i c1 fs1 h1
      have hl : a < H.length := (List.getElem?_eq_some_iff.mp h1).1
      exact absurd (by simp only [h1]; simp [hl]) (h c1 (fs1.set f v))
    · rfl
end HEAP
/-! ===== indices ===== -/
theorem inb_iff {i : Int32} {n : Nat} (hn : n < 2147483648) : inb i n = true ↔ ¬ i < 0 ∧ ¬ Int32.ofNat n ≤ i := by
  unfold inb
  rw [decide_eq_true_iff]
  have h1 : (Int32.ofNat n).toInt = (n : Int) := nI_toInt (n := n) (by omega)
  rw [Int32.le_iff_toInt_le, Int32.lt_iff_toInt_lt, h1, Int32.toInt_zero]
  have h2 : i.toNatClampNeg = i.toInt.toNat := rfl
  rw [h2]
  omega
theorem inb_nI {i n : Nat} (hi : i < 2147483648) : inb (nI i) n = decide (i < n) := by
  unfold inb
  apply Bool.eq_iff_iff.mpr
  rw [decide_eq_true_iff, decide_eq_true_iff, Int32.lt_iff_toInt_lt, nI_toInt (by omega), nI_clamp (by omega), Int32.toInt_zero]
  omega
def cAt (xs : List Int32) (i : Int32) : Int32 := if inb i xs.length = true then xs.getD i.toNatClampNeg 0 else 0
def cSet (xs : List Int32) (i x : Int32) : List Int32 := if inb i xs.length = true then xs.set i.toNatClampNeg x else xs
theorem cSet_length {xs : List Int32} {i x : Int32} : (cSet xs i x).length = xs.length := by
  unfold cSet; split <;> simp
section CELLS
variable {scr : List Int32} {d h a : Nat} {H : List AC} {xs : List Int32} {Q : Option Value → List AC → Prop}
/-- Cells.at -/
theorem c_Cells_at {i : Int32} (h1 : gfl H h 0 0 = some (.ref a)) (h2 : garr H a = some xs) (hn : xs.length < 2147483648) : Wp scr d 2 0 [some (.ref h), some (.int i)] [] H Q ↔ Q (some (.int (cAt xs i))) H := by
  refine Wp_iff ?_
  have key := inb_iff (i := i) hn
  simp only [w2_0, w2_1, w2_4, w2_5, w2_6, w2_9, w2_10, w2_13, w2_14, w2_17, w2_18, w2_19, w2_22, w2_23, h1, h2, oK_some, and_true]
  unfold cAt
  by_cases hi : inb i xs.length = true
  · have k := key.mp hi
    simp [k.1, k.2, hi]
  · rw [if_neg hi]
    by_cases c1 : i < 0
    · simp [c1]
    · by_cases c2 : Int32.ofNat xs.length ≤ i
      · simp [c1, c2]
      · exact absurd (key.mpr ⟨c1, c2⟩) hi
/-- Cells.set -/
theorem c_Cells_set {i x : Int32} (h1 : gfl H h 0 0 = some (.ref a)) (h2 : garr H a = some xs) (hn : xs.length < 2147483648) : Wp scr d 3 0 [some (.ref h), some (.int i), some (.int x)] [] H Q ↔ Q none (hpa H a (cSet xs i x)) := by
  refine Wp_iff ?_
  have key := inb_iff (i := i) hn
  simp only [w3_0, w3_1, w3_4, w3_5, w3_6, w3_9, w3_10, w3_13, w3_14, w3_17, w3_18, w3_19, w3_20, h1, h2, oK_some, true_and]
  unfold cSet
  by_cases hi : inb i xs.length = true
  · have k := key.mp hi
    simp [k.1, k.2, hi]
  · rw [if_neg hi, hpa_self h2]
    by_cases c1 : i < 0
    · simp [c1]
    · by_cases c2 : Int32.ofNat xs.length ≤ i
      · simp [c1, c2]
      · exact absurd (key.mpr ⟨c1, c2⟩) hi
end CELLS
