/-! ===== the draft: the slope's line, rows ===== -/
section DRAFT3
variable {rw ss wl sg ru sd xs R R' : List Int32} {n c2 c3 c4 c5 c6 c7 pos pos' : Nat} {t : Tk}
theorem dt_slope {b h0 : Nat} (h : DT rw ss wl sg ru sd xs R c2 c3 c4 c5 c6 c7 pos) (hb : b ≤ 99) (hh : h0 ≤ 100) (hp : pos ≤ pos') : DT rw ss wl sg ru sd xs (((R.set 0 (nI b)).set 1 (nI h0)).set 8 1) c2 c3 c4 c5 c6 c7 pos' := by
  obtain ⟨⟨a2, a3, a4, a5, a6, a7, b2, b3, b4, b5, b6, b7⟩, hR, hS, hW, hG, hU, hN, hM, hV⟩ := h
  obtain ⟨l0, _, _, _, v4, v5⟩ := hV
  generalize hR' : ((R.set 0 (nI b)).set 1 (nI h0)).set 8 1 = R'
  have old : ∀ j, ¬ j = 0 → ¬ j = 1 → ¬ j = 8 → rg R' j = rg R j := by
    intro j q0 q1 q8
    rw [← hR', rgset (by omega), rgset (by omega), rgset (by omega)]
  have n8 : rg R' 8 = 1 := by rw [← hR']; exact rgset_eq (by simp only [List.length_set, l0]; decide)
  have n1 : rg R' 1 = nI h0 := by rw [← hR', rgset (by decide)]; exact rgset_eq (by simp only [List.length_set, l0]; decide)
  have n0 : rg R' 0 = nI b := by rw [← hR', rgset (by decide), rgset (by decide)]; exact rgset_eq (by rw [l0]; decide)
  refine ⟨⟨?_, ?_, ?_, ?_, ?_, ?_, b2, b3, b4, b5, b6, b7⟩, tbR_cg hR b2 (fun j h1 h2 => old j (by omega) (by omega) (by omega)) rf4, tbS_cg hS b2 (fun j h1 h2 => old j (by omega) (by omega) (by omega)) rf4, tbW_cg hW b4 (fun j h1 h2 => old j (by omega) (by omega) (by omega)) rf4 rf4, tbG_cg hG b5 (fun j h1 h2 => old j (by omega) (by omega) (by omega)) rf4, tbU_cg hU b6 (fun j h1 h2 => old j (by omega) (by omega) (by omega)) rf4, tbN_cg hN b7 (fun j h1 h2 => old j (by omega) (by omega) (by omega)) rf4, nmR_cg hM b2 hp (fun j h1 h2 => old j (by omega) (by omega) (by omega)) rf4, ?_, ⟨b, hb, n0⟩, ⟨h0, hh, n1⟩, Or.inr n8, fun i hi => ?_, fun x y hx hy => ?_⟩
  · rw [old 2 (by decide) (by decide) (by decide)]; exact a2
  · rw [old 3 (by decide) (by decide) (by decide)]; exact a3
  · rw [old 4 (by decide) (by decide) (by decide)]; exact a4
  · rw [old 5 (by decide) (by decide) (by decide)]; exact a5
  · rw [old 6 (by decide) (by decide) (by decide)]; exact a6
  · rw [old 7 (by decide) (by decide) (by decide)]; exact a7
  · rw [← hR']; simp only [List.length_set]; exact l0
  · rw [old (9 + 3 * i) (by omega) (by omega) (by omega), old (9 + 3 * i + 1) (by omega) (by omega) (by omega), old (9 + 3 * i + 2) (by omega) (by omega) (by omega)]; exact v4 i hi
  · rw [old (30 + 7 * x + y) (by omega) (by omega) (by omega)]; exact v5 x y hx hy
theorem nmF_old {r j : Nat} : ∀ m (R : List Int32), (j < 155 + 8 * r ∨ 155 + 8 * r + m ≤ j) → rg (forN (nmF xs t r) m R) j = rg R j
  | 0, R, _ => rfl
  | m + 1, R, h => by
    rw [forN_succ]; unfold nmF
    rw [rgset (by omega)]
    exact nmF_old m R (by omega)
theorem nmF_new {r : Nat} : ∀ m (R : List Int32), 155 + 8 * r + m ≤ R.length → ∀ k, k < m → rg (forN (nmF xs t r) m R) (155 + 8 * r + k) = xs.getD (t.1 + k) 0
  | 0, R, _, k, hk => absurd hk (Nat.not_lt_zero _)
  | m + 1, R, h, k, hk => by
    rw [forN_succ]
    have hl : (forN (nmF xs t r) m R).length = R.length := nmF_len m R
    have ih : ∀ k, k < m → rg (forN (nmF xs t r) m R) (155 + 8 * r + k) = xs.getD (t.1 + k) 0 := nmF_new m R (by omega)
    generalize forN (nmF xs t r) m R = Y at hl ih
    unfold nmF
    by_cases e : k = m
    · subst e
      exact rgset_eq (by omega)
    · rw [rgset (by omega)]
      exact ih k (by omega)
theorem dt_row {kd x g : Nat} (h : DT rw ss wl sg ru sd xs R c2 c3 c4 c5 c6 c7 pos) (hc : c2 < 7) (hs : rw.length = 28) (ht : Wlt xs t) (h0 : 0 < t.2.1 - t.1) (hz : isL (xs.getD t.2.1 0) = false) (hk : kd < 4) (hx : x ≤ 30) (hg : g ≤ 99) (hp : pos ≤ pos') (hp2 : t.2.1 ≤ pos') : DT (ad4 rw c2 (nI kd) (nI x) (nI g) (nI t.1)) ss wl sg ru sd xs (((((nmW xs R t c2).set (9 + 3 * c2) (nI kd)).set (9 + 3 * c2 + 1) (nI x)).set (9 + 3 * c2 + 2) (nI g)).set 2 (nI (c2 + 1))) (c2 + 1) c3 c4 c5 c6 c7 pos' := by
  obtain ⟨⟨a2, a3, a4, a5, a6, a7, b2, b3, b4, b5, b6, b7⟩, hR, hS, hW, hG, hU, hN, hM, hV⟩ := h
  obtain ⟨l0, v1, v2, v3, v4, v5⟩ := hV
  obtain ⟨tl, t8, tlt⟩ := ht
  generalize hm : t.2.1 - t.1 = m at *
  have l1 : (nmW xs R t c2).length = 211 := by unfold nmW; rw [List.length_set, nmF_len, l0]
  generalize hR' : ((((nmW xs R t c2).set (9 + 3 * c2) (nI kd)).set (9 + 3 * c2 + 1) (nI x)).set (9 + 3 * c2 + 2) (nI g)).set 2 (nI (c2 + 1)) = R'
  have w : ∀ j, ¬ j = 2 → (j < 9 + 3 * c2 ∨ 9 + 3 * c2 + 3 ≤ j) → rg R' j = rg (nmW xs R t c2) j := by
    intro j q hj
    rw [← hR', rgset (by omega), rgset (by omega), rgset (by omega), rgset (by omega)]
  have u : ∀ j, ¬ j = 148 + c2 → (j < 155 + 8 * c2 ∨ 155 + 8 * c2 + 8 ≤ j) → rg (nmW xs R t c2) j = rg R j := by
    intro j q hj
    unfold nmW
    rw [rgset (by omega)]
    exact nmF_old _ _ (by omega)
  have old : ∀ j, ¬ j = 2 → (j < 9 + 3 * c2 ∨ 9 + 3 * c2 + 3 ≤ j) → ¬ j = 148 + c2 → (j < 155 + 8 * c2 ∨ 155 + 8 * c2 + 8 ≤ j) → rg R' j = rg R j := fun j q0 q1 q2 q3 => (w j q0 q1).trans (u j q2 q3)
  have n2 : rg R' 2 = nI (c2 + 1) := by rw [← hR']; exact rgset_eq (by simp only [List.length_set, l1]; decide)
  have k0 : rg R' (9 + 3 * c2) = nI kd := by
    rw [← hR', rgset (by omega), rgset (by omega), rgset (by omega)]; exact rgset_eq (by rw [l1]; omega)
  have k1 : rg R' (9 + 3 * c2 + 1) = nI x := by
    rw [← hR', rgset (by omega), rgset (by omega)]; exact rgset_eq (by simp only [List.length_set, l1]; omega)
  have k2 : rg R' (9 + 3 * c2 + 2) = nI g := by
    rw [← hR', rgset (by omega)]; exact rgset_eq (by simp only [List.length_set, l1]; omega)
  have m0 : rg R' (148 + c2) = nI m := by
    rw [w _ (by omega) (by omega)]
    unfold nmW
    rw [hm]
    exact rgset_eq (by rw [nmF_len, l0]; omega)
  have mk : ∀ k, k < m → rg R' (155 + 8 * c2 + k) = xs.getD (t.1 + k) 0 := by
    intro k hk'
    rw [w _ (by omega) (by omega)]
    unfold nmW
    rw [hm, rgset (by omega)]
    exact nmF_new m R (by omega) k hk'
  have oR : ∀ i k, i < c2 → k < 4 → tg (ad4 rw c2 (nI kd) (nI x) (nI g) (nI t.1)) i k = tg rw i k := fun i k hi hk => ad4_old hi hk
  obtain ⟨z0, z1, z2, z3⟩ := ad4_new (xs := rw) (c := c2) (v0 := nI kd) (v1 := nI x) (v2 := nI g) (v3 := nI t.1) (by omega)
  obtain ⟨s1, s2, s3⟩ := hS
  refine ⟨⟨n2, ?_, ?_, ?_, ?_, ?_, by omega, b3, b4, b5, b6, b7⟩, fun i hi => ?_, ⟨fun s hs' => ?_, s2, fun a b ha hb hp' => ?_⟩, tbW_cg hW b4 (fun j h1 h2 => old j (by omega) (by omega) (by omega) (by omega)) rf4 rf4, tbG_up (tbG_cg hG b5 (fun j h1 h2 => old j (by omega) (by omega) (by omega) (by omega)) rf4), tbU_up (tbU_cg hU b6 (fun j h1 h2 => old j (by omega) (by omega) (by omega) (by omega)) rf4), tbN_up (tbN_cg hN b7 (fun j h1 h2 => old j (by omega) (by omega) (by omega) (by omega)) rf4), ⟨fun i hi => ?_, fun i hi hi7 => ?_⟩, ?_, ?_, ?_, ?_, fun i hi => ?_, fun a b ha hb => ?_⟩
  · rw [old 3 (by decide) (by omega) (by omega) (by omega)]; exact a3
  · rw [old 4 (by decide) (by omega) (by omega) (by omega)]; exact a4
  · rw [old 5 (by decide) (by omega) (by omega) (by omega)]; exact a5
  · rw [old 6 (by decide) (by omega) (by omega) (by omega)]; exact a6
  · rw [old 7 (by decide) (by omega) (by omega) (by omega)]; exact a7
  · by_cases e : i = c2
    · subst e
      exact ⟨by rw [z0, k0], by rw [z1, k1], by rw [z2, k2]⟩
    · rw [oR i 0 (by omega) (by decide), oR i 1 (by omega) (by decide), oR i 2 (by omega) (by decide), old (9 + 3 * i) (by omega) (by omega) (by omega) (by omega), old (9 + 3 * i + 1) (by omega) (by omega) (by omega) (by omega), old (9 + 3 * i + 2) (by omega) (by omega) (by omega) (by omega)]
      exact hR i (by omega)
  · obtain ⟨a, b, ha, hb, q⟩ := s1 s hs'
    refine ⟨a, b, by omega, by omega, ?_⟩
    rw [old (30 + 7 * a + b) (by omega) (by omega) (by omega) (by omega)]
    exact q
  · rw [old (30 + 7 * a + b) (by omega) (by omega) (by omega) (by omega)] at hp'
    rcases v5 a b (by omega) (by omega) with q | ⟨y, _, _, _, qa, qb⟩
    · rw [q] at hp'; exact absurd hp' (by decide)
    · exact s3 a b qa qb hp'
  · by_cases e : i = c2
    · subst e
      exact ⟨t.1, m, h0, t8, by omega, z3, m0, fun k hk' => ⟨mk k hk', tlt k hk'⟩, by rw [show t.1 + m = t.2.1 by omega]; exact hz⟩
    · obtain ⟨q, m', q0, q8, qp, eq, er, el, ez⟩ := hM.1 i (by omega)
      refine ⟨q, m', q0, q8, by omega, ?_, ?_, fun k hk' => ?_, ez⟩
      · rw [oR i 3 (by omega) (by decide)]; exact eq
      · rw [old _ (by omega) (by omega) (by omega) (by omega)]; exact er
      · rw [old _ (by omega) (by omega) (by omega) (by omega)]; exact el k hk'
  · rw [old _ (by omega) (by omega) (by omega) (by omega)]; exact hM.2 i (by omega) hi7
  · rw [← hR']; simp only [List.length_set]; exact l1
  · rw [old 0 (by decide) (by omega) (by omega) (by omega)]; exact v1
  · rw [old 1 (by decide) (by omega) (by omega) (by omega)]; exact v2
  · rw [old 8 (by decide) (by omega) (by omega) (by omega)]; exact v3
  · by_cases e : i = c2
    · subst e
      exact ⟨kd, x, g, hk, hx, hg, k0, k1, k2⟩
    · rw [old (9 + 3 * i) (by omega) (by omega) (by omega) (by omega), old (9 + 3 * i + 1) (by omega) (by omega) (by omega) (by omega), old (9 + 3 * i + 2) (by omega) (by omega) (by omega) (by omega)]
      exact v4 i (by omega)
  · rw [old (30 + 7 * a + b) (by omega) (by omega) (by omega) (by omega)]
    rcases v5 a b ha hb with q | ⟨y, y1, y9, ye, qa, qb⟩
    · exact Or.inl q
    · exact Or.inr ⟨y, y1, y9, ye, by omega, by omega⟩
end DRAFT3
