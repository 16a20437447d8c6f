/-! ===== the draft: the class's tables against what the reference wrote ===== -/
def DV (R : List Int32) (c2 : Nat) : Prop := R.length = 211 ∧ (∃ b, b ≤ 99 ∧ rg R 0 = nI b) ∧ (∃ b, b ≤ 100 ∧ rg R 1 = nI b) ∧ (rg R 8 = 0 ∨ rg R 8 = 1) ∧ (∀ i, i < c2 → ∃ k x g, k < 4 ∧ x ≤ 30 ∧ g ≤ 99 ∧ rg R (9 + 3 * i) = nI k ∧ rg R (9 + 3 * i + 1) = nI x ∧ rg R (9 + 3 * i + 2) = nI g) ∧ (∀ a b, a < 7 → b < 7 → rg R (30 + 7 * a + b) = 0 ∨ (∃ y, 1 ≤ y ∧ y ≤ 9 ∧ rg R (30 + 7 * a + b) = nI y ∧ a < c2 ∧ b < c2))
/-- what was told so far, on both sides -/
def DT (rw ss wl sg ru sd xs R : List Int32) (c2 c3 c4 c5 c6 c7 pos : Nat) : Prop := Mn R c2 c3 c4 c5 c6 c7 ∧ TbR rw R c2 ∧ TbS ss R c2 c3 ∧ TbW ss wl R c3 c4 ∧ TbG sg R c2 c5 ∧ TbU ru R c2 c6 ∧ TbN sd R c2 c7 ∧ NmR xs rw R c2 pos ∧ DV R c2
section DRAFT
variable {rw rw' ss ss' wl wl' sg sg' ru ru' sd sd' xs R R' : List Int32} {c2 c3 c4 c5 c6 c7 pos pos' : Nat}
theorem tbR_cg (h : TbR rw R c2) (hc : c2 ≤ 7) (hR : ∀ j, 9 ≤ j → j < 30 → rg R' j = rg R j) (hr : ∀ i k, i < c2 → k < 4 → tg rw' i k = tg rw i k) : TbR rw' R' c2 := by
  intro i hi
  rw [hR _ (by omega) (by omega), hR _ (by omega) (by omega), hR _ (by omega) (by omega), hr i 0 hi (by decide), hr i 1 hi (by decide), hr i 2 hi (by decide)]
  exact h i hi
theorem tbS_cg (h : TbS ss R c2 c3) (hc : c2 ≤ 7) (hR : ∀ j, 30 ≤ j → j < 79 → rg R' j = rg R j) (hr : ∀ i k, i < c3 → k < 4 → tg ss' i k = tg ss i k) : TbS ss' R' c2 c3 := by
  obtain ⟨h1, h2, h3⟩ := h
  refine ⟨fun s hs => ?_, fun s t hs ht => ?_, fun a b ha hb hp => ?_⟩
  · obtain ⟨a, b, ha, hb, q⟩ := h1 s hs
    refine ⟨a, b, ha, hb, ?_⟩
    rw [hR _ (by omega) (by omega), hr s 0 hs (by decide), hr s 1 hs (by decide), hr s 2 hs (by decide)]
    exact q
  · rw [hr s 0 hs (by decide), hr s 1 hs (by decide), hr t 0 ht (by decide), hr t 1 ht (by decide)]
    exact h2 s t hs ht
  · rw [hR _ (by omega) (by omega)] at hp
    obtain ⟨s, hs, q⟩ := h3 a b ha hb hp
    refine ⟨s, hs, ?_⟩
    rw [hr s 0 hs (by decide), hr s 1 hs (by decide)]
    exact q
theorem tbW_cg (h : TbW ss wl R c3 c4) (hc : c4 ≤ 5) (hR : ∀ j, 79 ≤ j → j < 94 → rg R' j = rg R j) (hs' : ∀ i k, i < c3 → k < 4 → tg ss' i k = tg ss i k) (hr : ∀ i k, i < c4 → k < 4 → tg wl' i k = tg wl i k) : TbW ss' wl' R' c3 c4 := by
  obtain ⟨h1, h2⟩ := h
  refine ⟨fun k hk => ?_, fun k l hk hl => ?_⟩
  · obtain ⟨s, c, hs, q⟩ := h1 k hk
    refine ⟨s, c, hs, ?_⟩
    rw [hR (79 + 3 * k) (by omega) (by omega), hR (79 + 3 * k + 1) (by omega) (by omega), hR (79 + 3 * k + 2) (by omega) (by omega), hr k 0 hk (by decide), hr k 1 hk (by decide), hr k 2 hk (by decide), hr k 3 hk (by decide), hs' s 0 hs (by decide), hs' s 1 hs (by decide)]
    exact q
  · rw [hr k 3 hk (by decide), hr l 3 hl (by decide)]
    exact h2 k l hk hl
theorem tbG_cg (h : TbG sg R c2 c5) (hc : c5 ≤ 6) (hR : ∀ j, 94 ≤ j → j < 118 → rg R' j = rg R j) (hr : ∀ i k, i < c5 → k < 4 → tg sg' i k = tg sg i k) : TbG sg' R' c2 c5 := by
  intro k hk
  rw [hR (94 + 4 * k) (by omega) (by omega), hR (94 + 4 * k + 1) (by omega) (by omega), hR (94 + 4 * k + 2) (by omega) (by omega), hR (94 + 4 * k + 3) (by omega) (by omega), hr k 0 hk (by decide), hr k 1 hk (by decide), hr k 2 hk (by decide), hr k 3 hk (by decide)]
  exact h k hk
theorem tbU_cg (h : TbU ru R c2 c6) (hc : c6 ≤ 5) (hR : ∀ j, 118 ≤ j → j < 133 → rg R' j = rg R j) (hr : ∀ i k, i < c6 → k < 4 → tg ru' i k = tg ru i k) : TbU ru' R' c2 c6 := by
  intro k hk
  rw [hR (118 + 3 * k) (by omega) (by omega), hR (118 + 3 * k + 1) (by omega) (by omega), hR (118 + 3 * k + 2) (by omega) (by omega), hr k 0 hk (by decide), hr k 1 hk (by decide), hr k 3 hk (by decide)]
  exact h k hk
theorem tbN_cg (h : TbN sd R c2 c7) (hc : c7 ≤ 5) (hR : ∀ j, 133 ≤ j → j < 148 → rg R' j = rg R j) (hr : ∀ i k, i < c7 → k < 4 → tg sd' i k = tg sd i k) : TbN sd' R' c2 c7 := by
  intro k hk
  rw [hR (133 + 3 * k) (by omega) (by omega), hR (133 + 3 * k + 1) (by omega) (by omega), hR (133 + 3 * k + 2) (by omega) (by omega), hr k 0 hk (by decide), hr k 1 hk (by decide), hr k 3 hk (by decide)]
  exact h k hk
theorem nmR_cg (h : NmR xs rw R c2 pos) (hc : c2 ≤ 7) (hp : pos ≤ pos') (hR : ∀ j, 148 ≤ j → j < 211 → rg R' j = rg R j) (hr : ∀ i k, i < c2 → k < 4 → tg rw' i k = tg rw i k) : NmR xs rw' R' c2 pos' := by
  obtain ⟨h1, h2⟩ := h
  refine ⟨fun i hi => ?_, fun i hi hi7 => ?_⟩
  · obtain ⟨q, m, m0, m8, qp, eq, er, el, ez⟩ := h1 i hi
    refine ⟨q, m, m0, m8, by omega, ?_, ?_, fun k hk => ?_, ez⟩
    · rw [hr i 3 hi (by decide)]; exact eq
    · rw [hR _ (by omega) (by omega)]; exact er
    · rw [hR _ (by omega) (by omega)]; exact el k hk
  · rw [hR _ (by omega) (by omega)]; exact h2 i hi hi7
theorem dv_cg (h : DV R c2) (hc : c2 ≤ 7) (hl : R'.length = R.length) (hR : ∀ j, (j < 2 ∨ 8 ≤ j ∧ j < 79) → rg R' j = rg R j) : DV R' c2 := by
  obtain ⟨h0, h1, h2, h3, h4, h5⟩ := h
  refine ⟨by rw [hl, h0], ?_, ?_, ?_, fun i hi => ?_, fun a b ha hb => ?_⟩
  · rw [hR 0 (by omega)]; exact h1
  · rw [hR 1 (by omega)]; exact h2
  · rw [hR 8 (by omega)]; exact h3
  · rw [hR (9 + 3 * i) (by omega), hR (9 + 3 * i + 1) (by omega), hR (9 + 3 * i + 2) (by omega)]; exact h4 i hi
  · rw [hR (30 + 7 * a + b) (by omega)]; exact h5 a b ha hb
/-- more rows do no harm -/
theorem tbG_up (h : TbG sg R c2 c5) : TbG sg R (c2 + 1) c5 := fun k hk => by
  obtain ⟨r, dd, c, hr, q⟩ := h k hk
  exact ⟨r, dd, c, by omega, q⟩
theorem tbU_up (h : TbU ru R c2 c6) : TbU ru R (c2 + 1) c6 := fun k hk => by
  obtain ⟨r, dd, hr, q⟩ := h k hk
  exact ⟨r, dd, by omega, q⟩
theorem tbN_up (h : TbN sd R c2 c7) : TbN sd R (c2 + 1) c7 := fun k hk => by
  obtain ⟨r, dd, hr, q⟩ := h k hk
  exact ⟨r, dd, by omega, q⟩
theorem rgset {R : List Int32} {i j : Nat} {v : Int32} (h : ¬ i = j) : rg (R.set i v) j = rg R j := by
  unfold rg; rw [getD_set, if_neg (fun q => h q.1)]
theorem rgset_eq {R : List Int32} {i : Nat} {v : Int32} (h : i < R.length) : rg (R.set i v) i = v := by
  unfold rg; rw [getD_set, if_pos ⟨rfl, h⟩]
/-- a sign told -/
theorem dt_sign {r dd co : Nat} {tl : Int32} (h : DT rw ss wl sg ru sd xs R c2 c3 c4 c5 c6 c7 pos) (hc : c5 < 6) (hs : sg.length = 24) (hr : r < c2) (hd : dd ≤ 20) (hco : co ≤ 99) (hp : pos ≤ pos') : DT rw ss wl (ad4 sg c5 (nI r) tl (nI co) (nI dd)) ru sd xs (((((R.set (94 + 4 * c5) (nI r)).set (94 + 4 * c5 + 1) tl).set (94 + 4 * c5 + 2) (nI co)).set (94 + 4 * c5 + 3) (nI dd)).set 5 (nI (c5 + 1))) c2 c3 c4 (c5 + 1) c6 c7 pos' := by
  obtain ⟨⟨a2, a3, a4, a5, a6, a7, b2, b3, b4, b5, b6, b7⟩, hR, hS, hW, hG, hU, hN, hM, hV⟩ := h
  have l0 := hV.1
  generalize hR' : ((((R.set (94 + 4 * c5) (nI r)).set (94 + 4 * c5 + 1) tl).set (94 + 4 * c5 + 2) (nI co)).set (94 + 4 * c5 + 3) (nI dd)).set 5 (nI (c5 + 1)) = R'
  have old : ∀ j, ¬ j = 5 → (j < 94 + 4 * c5 ∨ 94 + 4 * c5 + 4 ≤ j) → rg R' j = rg R j := by
    intro j h5 hj
    rw [← hR', rgset (by omega), rgset (by omega), rgset (by omega), rgset (by omega), rgset (by omega)]
  have new : rg R' 5 = nI (c5 + 1) := by rw [← hR']; exact rgset_eq (by simp only [List.length_set, l0]; decide)
  have n0 : rg R' (94 + 4 * c5) = nI r := by
    rw [← hR', rgset (by omega), rgset (by omega), rgset (by omega), rgset (by omega)]; exact rgset_eq (by rw [l0]; omega)
  have n1 : rg R' (94 + 4 * c5 + 1) = tl := by
    rw [← hR', rgset (by omega), rgset (by omega), rgset (by omega)]; exact rgset_eq (by simp only [List.length_set, l0]; omega)
  have n2 : rg R' (94 + 4 * c5 + 2) = nI co := by
    rw [← hR', rgset (by omega), rgset (by omega)]; exact rgset_eq (by simp only [List.length_set, l0]; omega)
  have n3 : rg R' (94 + 4 * c5 + 3) = nI dd := by
    rw [← hR', rgset (by omega)]; exact rgset_eq (by simp only [List.length_set, l0]; omega)
  have rf : ∀ {ys : List Int32} {c : Nat}, ∀ i k, i < c → k < 4 → tg ys i k = tg ys i k := fun _ _ _ _ => rfl
  obtain ⟨z0, z1, z2, z3⟩ := ad4_new (xs := sg) (c := c5) (v0 := nI r) (v1 := tl) (v2 := nI co) (v3 := nI dd) (by omega)
  refine ⟨⟨?_, ?_, ?_, new, ?_, ?_, b2, b3, b4, by omega, b6, b7⟩, tbR_cg hR b2 (fun j h1 h2 => old j (by omega) (by omega)) rf, tbS_cg hS b2 (fun j h1 h2 => old j (by omega) (by omega)) rf, tbW_cg hW b4 (fun j h1 h2 => old j (by omega) (by omega)) rf rf, fun k hk => ?_, tbU_cg hU b6 (fun j h1 h2 => old j (by omega) (by omega)) rf, tbN_cg hN b7 (fun j h1 h2 => old j (by omega) (by omega)) rf, nmR_cg hM b2 hp (fun j h1 h2 => old j (by omega) (by omega)) rf, dv_cg hV b2 (by rw [← hR']; simp only [List.length_set]) (fun j hj => old j (by omega) (by omega))⟩
  · rw [old 2 (by decide) (by omega)]; exact a2
  · rw [old 3 (by decide) (by omega)]; exact a3
  · rw [old 4 (by decide) (by omega)]; exact a4
  · rw [old 6 (by decide) (by omega)]; exact a6
  · rw [old 7 (by decide) (by omega)]; exact a7
  · by_cases e : k = c5
    · subst e
      exact ⟨r, dd, co, hr, hd, hco, z0, n0, by rw [z1, n1], z2, n2, z3, n3⟩
    · rw [ad4_old (by omega) (by decide), ad4_old (by omega) (by decide), ad4_old (by omega) (by decide), ad4_old (by omega) (by decide), old (94 + 4 * k) (by omega) (by omega), old (94 + 4 * k + 1) (by omega) (by omega), old (94 + 4 * k + 2) (by omega) (by omega), old (94 + 4 * k + 3) (by omega) (by omega)]
      exact hG k (by omega)
end DRAFT
