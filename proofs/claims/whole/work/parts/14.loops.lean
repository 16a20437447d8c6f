/-! ===== loops ===== -/
theorem down {P : Nat → Prop} (N : Nat) (last : P N) (step : ∀ i, i < N → P (i + 1) → P i) : P 0 := by
  have key : ∀ j, j ≤ N → P (N - j) := by
    intro j
    induction j with
    | zero => intro _; exact last
    | succ j ih =>
      intro hj
      refine step (N - (j + 1)) (by omega) ?_
      rw [show N - (j + 1) + 1 = N - j by omega]
      exact ih (by omega)
  have := key N (Nat.le_refl _)
  rwa [Nat.sub_self] at this
theorem nI_not_ge {i n : Nat} (h : i < n) (hn : n < 2147483648) : (Int32.ofNat n ≤ nI i) = False := eq_false (nI_ge h hn)
theorem nI_ge_self {n : Nat} : (Int32.ofNat n ≤ nI n) = True := eq_true (Int32.le_refl _)
theorem cAt_nI {ys : List Int32} {i : Nat} (h : i < 2147483648) : cAt ys (nI i) = ys.getD i 0 := by
  unfold cAt
  rw [nI_clamp (by omega)]
  by_cases hi : i < ys.length
  · rw [if_pos (by rw [inb_nI h]; exact decide_eq_true hi)]
  · rw [if_neg (by rw [inb_nI h]; simpa using hi), List.getD_eq_getElem?_getD, List.getElem?_eq_none (by omega)]
    rfl
section CELLS2
variable {scr : List Int32} {d h a : Nat} {H : List AC} {xs : List Int32} {Q : Option Value → List AC → Prop}
theorem set_fill {ys xs : List Int32} {i : Nat} {v : Int32} (hi : i < xs.length) (hy : ys.length = i) : (ys ++ xs.drop i).set i v = (ys ++ [v]) ++ xs.drop (i + 1) := by
  rw [List.set_append_right _ _ (by omega), hy, Nat.sub_self, List.append_assoc]
  congr 1
  rw [List.drop_eq_getElem_cons hi]
  rfl
/-- Cells.clear -/
theorem c_Cells_clear (h1 : gfl H h 0 0 = some (.ref a)) (h2 : garr H a = some xs) (hn : xs.length < 2147483648) : Wp scr d 5 0 [some (.ref h), none] [] H Q ↔ Q none (hpa H a (List.replicate xs.length 0)) := by
  refine Wp_iff ?_
  simp only [w5_0, w5_1]
  have key := down (P := fun i => Wp scr d 5 2 [some (.ref h), some (.int (nI i))] [] (hpa H a (List.replicate i 0 ++ xs.drop i)) (fun r H' => r = none ∧ H' = hpa H a (List.replicate xs.length 0))) xs.length ?_ ?_
  · simpa [nI_0, hpa_self h2] using key
  · have hl : (List.replicate xs.length (0 : Int32) ++ xs.drop xs.length).length = xs.length := by simp
    rw [w5_2]
    simp only [w5_0, w5_1, w5_3, w5_4, w5_7, w5_8, w5_11, w5_12, w5_15, w5_16, w5_17, w5_18, w5_21, w5_24, gfl_hpa, h1, garr_hpa, h2, if_true, Option.map_some, oK_some, hl, nI_ge_self, not_true_eq_false, true_implies, false_implies, and_true]
    simp
  · intro i hi hw
    have hl : (List.replicate i (0 : Int32) ++ xs.drop i).length = xs.length := by simp; omega
    rw [w5_2]
    simp only [w5_0, w5_1, w5_3, w5_4, w5_7, w5_8, w5_11, w5_12, w5_15, w5_16, w5_17, w5_18, w5_21, w5_24, gfl_hpa, h1, garr_hpa, h2, if_true, Option.map_some, oK_some, hl, nI_not_ge hi hn, not_false_eq_true, true_implies, false_implies, true_and, inb_nI (Nat.lt_trans hi hn), decide_eq_true_eq, hi, hpa_hpa, nI_clamp (n := i) (Nat.lt_trans hi hn), nI_1]
    rw [set_fill hi (by simp), ← List.replicate_succ']
    exact hw
/-- Cells.copy: the first's length counts -/
theorem c_Cells_copy {h' a' : Nat} {ys : List Int32} (h1 : gfl H h 0 0 = some (.ref a)) (h2 : garr H a = some xs) (hn : xs.length < 2147483648) (k1 : gfl H h' 0 0 = some (.ref a')) (k2 : garr H a' = some ys) (hne : a ≠ a') (hl : ys.length = xs.length) : Wp scr (d + 1) 6 0 [some (.ref h), some (.ref h'), none] [] H Q ↔ Q none (hpa H a ys) := by
  refine Wp_iff ?_
  simp only [w6_0, w6_1]
  have key := down (P := fun i => Wp scr (d + 1) 6 2 [some (.ref h), some (.ref h'), some (.int (nI i))] [] (hpa H a (ys.take i ++ xs.drop i)) (fun r H' => r = none ∧ H' = hpa H a ys)) xs.length ?_ ?_
  · simpa [nI_0, hpa_self h2] using key
  · have hl2 : (ys.take xs.length ++ xs.drop xs.length).length = xs.length := by simp; omega
    rw [w6_2]
    simp only [w6_0, w6_1, w6_3, w6_4, w6_7, w6_8, w6_11, w6_12, w6_15, w6_16, w6_17, w6_18, w6_21, w6_22, w6_25, w6_28, gfl_hpa, h1, garr_hpa, h2, if_true, Option.map_some, oK_some, hl2, nI_ge_self, not_true_eq_false, true_implies, false_implies, and_true]
    rw [List.drop_length, List.append_nil, ← hl, List.take_length]
    exact ⟨trivial, rfl⟩
  · intro i hi hw
    have hl2 : (ys.take i ++ xs.drop i).length = xs.length := by simp; omega
    have hi2 : i < ys.length := by omega
    have hc : cAt ys (nI i) = ys.getD i 0 := cAt_nI (Nat.lt_trans hi hn)
    have k1' : gfl (hpa H a (ys.take i ++ xs.drop i)) h' 0 0 = some (.ref a') := by rw [gfl_hpa]; exact k1
    have k2' : garr (hpa H a (ys.take i ++ xs.drop i)) a' = some ys := by rw [garr_hpa, if_neg hne]; exact k2
    rw [w6_2]
    simp only [w6_0, w6_1, w6_3, w6_4, w6_7, w6_8, w6_11, w6_12, w6_15, w6_16, w6_17, w6_18, w6_21, w6_22, w6_25, w6_28, gfl_hpa, h1, garr_hpa, h2, if_true, Option.map_some, oK_some, hl2, nI_not_ge hi hn, not_false_eq_true, true_implies, false_implies, true_and, rcv_of k1', c_Cells_at k1' k2' (by omega), cont_int, inb_nI (Nat.lt_trans hi hn), decide_eq_true_eq, hi, hpa_hpa, nI_clamp (n := i) (Nat.lt_trans hi hn), nI_1, hc]
    rw [set_fill hi (by simp; omega)]
    rw [show ys.take i ++ [ys.getD i 0] = ys.take (i + 1) by rw [List.take_succ_eq_append_getElem hi2, List.getD_eq_getElem?_getD, List.getElem?_eq_getElem hi2]; rfl]
    exact hw
end CELLS2
