/-! ===== the draft: rumours, what was seen, walls, sights ===== -/
section DRAFT2
variable {rw ss wl sg ru sd xs R R' : List Int32} {c2 c3 c4 c5 c6 c7 pos pos' : Nat}
theorem rf4 {ys : List Int32} {c : Nat} : ∀ i k, i < c → k < 4 → tg ys i k = tg ys i k := fun _ _ _ _ => rfl
theorem dt_rum {r dd : Nat} {tl z : Int32} (h : DT rw ss wl sg ru sd xs R c2 c3 c4 c5 c6 c7 pos) (hc : c6 < 5) (hs : ru.length = 20) (hr : r < c2) (hd : dd ≤ 20) (hp : pos ≤ pos') : DT rw ss wl sg (ad4 ru c6 (nI r) tl z (nI dd)) sd xs ((((R.set (118 + 3 * c6) (nI r)).set (118 + 3 * c6 + 1) tl).set (118 + 3 * c6 + 2) (nI dd)).set 6 (nI (c6 + 1))) c2 c3 c4 c5 (c6 + 1) c7 pos' := by
  obtain ⟨⟨a2, a3, a4, a5, a6, a7, b2, b3, b4, b5, b6, b7⟩, hR, hS, hW, hG, hU, hN, hM, hV⟩ := h
  have l0 := hV.1
  generalize hR' : (((R.set (118 + 3 * c6) (nI r)).set (118 + 3 * c6 + 1) tl).set (118 + 3 * c6 + 2) (nI dd)).set 6 (nI (c6 + 1)) = R'
  have old : ∀ j, ¬ j = 6 → (j < 118 + 3 * c6 ∨ 118 + 3 * c6 + 3 ≤ j) → rg R' j = rg R j := by
    intro j h5 hj
    rw [← hR', rgset (by omega), rgset (by omega), rgset (by omega), rgset (by omega)]
  have new : rg R' 6 = nI (c6 + 1) := by rw [← hR']; exact rgset_eq (by simp only [List.length_set, l0]; decide)
  have n0 : rg R' (118 + 3 * c6) = nI r := by
    rw [← hR', rgset (by omega), rgset (by omega), rgset (by omega)]; exact rgset_eq (by rw [l0]; omega)
  have n1 : rg R' (118 + 3 * c6 + 1) = tl := by
    rw [← hR', rgset (by omega), rgset (by omega)]; exact rgset_eq (by simp only [List.length_set, l0]; omega)
  have n2 : rg R' (118 + 3 * c6 + 2) = nI dd := by
    rw [← hR', rgset (by omega)]; exact rgset_eq (by simp only [List.length_set, l0]; omega)
  obtain ⟨z0, z1, z2, z3⟩ := ad4_new (xs := ru) (c := c6) (v0 := nI r) (v1 := tl) (v2 := z) (v3 := nI dd) (by omega)
  refine ⟨⟨?_, ?_, ?_, ?_, new, ?_, b2, b3, b4, b5, by omega, b7⟩, tbR_cg hR b2 (fun j h1 h2 => old j (by omega) (by omega)) rf4, tbS_cg hS b2 (fun j h1 h2 => old j (by omega) (by omega)) rf4, tbW_cg hW b4 (fun j h1 h2 => old j (by omega) (by omega)) rf4 rf4, tbG_cg hG b5 (fun j h1 h2 => old j (by omega) (by omega)) rf4, fun k hk => ?_, tbN_cg hN b7 (fun j h1 h2 => old j (by omega) (by omega)) rf4, nmR_cg hM b2 hp (fun j h1 h2 => old j (by omega) (by omega)) rf4, dv_cg hV b2 (by rw [← hR']; simp only [List.length_set]) (fun j hj => old j (by omega) (by omega))⟩
  · rw [old 2 (by decide) (by omega)]; exact a2
  · rw [old 3 (by decide) (by omega)]; exact a3
  · rw [old 4 (by decide) (by omega)]; exact a4
  · rw [old 5 (by decide) (by omega)]; exact a5
  · rw [old 7 (by decide) (by omega)]; exact a7
  · by_cases e : k = c6
    · subst e
      exact ⟨r, dd, hr, hd, z0, n0, by rw [z1, n1], z3, n2⟩
    · rw [ad4_old (by omega) (by decide), ad4_old (by omega) (by decide), ad4_old (by omega) (by decide), old (118 + 3 * k) (by omega) (by omega), old (118 + 3 * k + 1) (by omega) (by omega), old (118 + 3 * k + 2) (by omega) (by omega)]
      exact hU k (by omega)
theorem dt_said {r dd : Nat} {v z : Int32} (h : DT rw ss wl sg ru sd xs R c2 c3 c4 c5 c6 c7 pos) (hc : c7 < 5) (hs : sd.length = 20) (hr : r < c2) (hd : dd ≤ 20) (hp : pos ≤ pos') : DT rw ss wl sg ru (ad4 sd c7 (nI r) v z (nI dd)) xs ((((R.set (133 + 3 * c7) (nI r)).set (133 + 3 * c7 + 1) (nI dd)).set (133 + 3 * c7 + 2) v).set 7 (nI (c7 + 1))) c2 c3 c4 c5 c6 (c7 + 1) pos' := by
  obtain ⟨⟨a2, a3, a4, a5, a6, a7, b2, b3, b4, b5, b6, b7⟩, hR, hS, hW, hG, hU, hN, hM, hV⟩ := h
  have l0 := hV.1
  generalize hR' : (((R.set (133 + 3 * c7) (nI r)).set (133 + 3 * c7 + 1) (nI dd)).set (133 + 3 * c7 + 2) v).set 7 (nI (c7 + 1)) = R'
  have old : ∀ j, ¬ j = 7 → (j < 133 + 3 * c7 ∨ 133 + 3 * c7 + 3 ≤ j) → rg R' j = rg R j := by
    intro j h5 hj
    rw [← hR', rgset (by omega), rgset (by omega), rgset (by omega), rgset (by omega)]
  have new : rg R' 7 = nI (c7 + 1) := by rw [← hR']; exact rgset_eq (by simp only [List.length_set, l0]; decide)
  have n0 : rg R' (133 + 3 * c7) = nI r := by
    rw [← hR', rgset (by omega), rgset (by omega), rgset (by omega)]; exact rgset_eq (by rw [l0]; omega)
  have n1 : rg R' (133 + 3 * c7 + 1) = nI dd := by
    rw [← hR', rgset (by omega), rgset (by omega)]; exact rgset_eq (by simp only [List.length_set, l0]; omega)
  have n2 : rg R' (133 + 3 * c7 + 2) = v := by
    rw [← hR', rgset (by omega)]; exact rgset_eq (by simp only [List.length_set, l0]; omega)
  obtain ⟨z0, z1, z2, z3⟩ := ad4_new (xs := sd) (c := c7) (v0 := nI r) (v1 := v) (v2 := z) (v3 := nI dd) (by omega)
  refine ⟨⟨?_, ?_, ?_, ?_, ?_, new, b2, b3, b4, b5, b6, by omega⟩, tbR_cg hR b2 (fun j h1 h2 => old j (by omega) (by omega)) rf4, tbS_cg hS b2 (fun j h1 h2 => old j (by omega) (by omega)) rf4, tbW_cg hW b4 (fun j h1 h2 => old j (by omega) (by omega)) rf4 rf4, tbG_cg hG b5 (fun j h1 h2 => old j (by omega) (by omega)) rf4, tbU_cg hU b6 (fun j h1 h2 => old j (by omega) (by omega)) rf4, fun k hk => ?_, nmR_cg hM b2 hp (fun j h1 h2 => old j (by omega) (by omega)) rf4, dv_cg hV b2 (by rw [← hR']; simp only [List.length_set]) (fun j hj => old j (by omega) (by omega))⟩
  · rw [old 2 (by decide) (by omega)]; exact a2
  · rw [old 3 (by decide) (by omega)]; exact a3
  · rw [old 4 (by decide) (by omega)]; exact a4
  · rw [old 5 (by decide) (by omega)]; exact a5
  · rw [old 6 (by decide) (by omega)]; exact a6
  · by_cases e : k = c7
    · subst e
      exact ⟨r, dd, hr, hd, z0, n0, z3, n1, by rw [z1, n2]⟩
    · rw [ad4_old (by omega) (by decide), ad4_old (by omega) (by decide), ad4_old (by omega) (by decide), old (133 + 3 * k) (by omega) (by omega), old (133 + 3 * k + 1) (by omega) (by omega), old (133 + 3 * k + 2) (by omega) (by omega)]
      exact hN k (by omega)
theorem dt_wall {a b s co : Nat} (h : DT rw ss wl sg ru sd xs R c2 c3 c4 c5 c6 c7 pos) (hc : c4 < 5) (hs : wl.length = 20) (hsc : s < c3) (e0 : tg ss s 0 = nI a) (e1 : tg ss s 1 = nI b) (hno : ∀ k, k < c4 → ¬ tg wl k 3 = nI s) (hco : co ≤ 99) (hp : pos ≤ pos') : DT rw ss (ad4 wl c4 (nI a) (nI b) (nI co) (nI s)) sg ru sd xs ((((R.set (79 + 3 * c4) (nI a)).set (79 + 3 * c4 + 1) (nI b)).set (79 + 3 * c4 + 2) (nI co)).set 4 (nI (c4 + 1))) c2 c3 (c4 + 1) c5 c6 c7 pos' := by
  obtain ⟨⟨a2, a3, a4, a5, a6, a7, b2, b3, b4, b5, b6, b7⟩, hR, hS, hW, hG, hU, hN, hM, hV⟩ := h
  have l0 := hV.1
  generalize hR' : (((R.set (79 + 3 * c4) (nI a)).set (79 + 3 * c4 + 1) (nI b)).set (79 + 3 * c4 + 2) (nI co)).set 4 (nI (c4 + 1)) = R'
  have old : ∀ j, ¬ j = 4 → (j < 79 + 3 * c4 ∨ 79 + 3 * c4 + 3 ≤ j) → rg R' j = rg R j := by
    intro j h5 hj
    rw [← hR', rgset (by omega), rgset (by omega), rgset (by omega), rgset (by omega)]
  have new : rg R' 4 = nI (c4 + 1) := by rw [← hR']; exact rgset_eq (by simp only [List.length_set, l0]; decide)
  have n0 : rg R' (79 + 3 * c4) = nI a := by
    rw [← hR', rgset (by omega), rgset (by omega), rgset (by omega)]; exact rgset_eq (by rw [l0]; omega)
  have n1 : rg R' (79 + 3 * c4 + 1) = nI b := by
    rw [← hR', rgset (by omega), rgset (by omega)]; exact rgset_eq (by simp only [List.length_set, l0]; omega)
  have n2 : rg R' (79 + 3 * c4 + 2) = nI co := by
    rw [← hR', rgset (by omega)]; exact rgset_eq (by simp only [List.length_set, l0]; omega)
  obtain ⟨z0, z1, z2, z3⟩ := ad4_new (xs := wl) (c := c4) (v0 := nI a) (v1 := nI b) (v2 := nI co) (v3 := nI s) (by omega)
  obtain ⟨w1, w2⟩ := hW
  refine ⟨⟨?_, ?_, new, ?_, ?_, ?_, b2, b3, by omega, b5, b6, b7⟩, tbR_cg hR b2 (fun j h1 h2 => old j (by omega) (by omega)) rf4, tbS_cg hS b2 (fun j h1 h2 => old j (by omega) (by omega)) rf4, ⟨fun k hk => ?_, fun k l hk hl => ?_⟩, tbG_cg hG b5 (fun j h1 h2 => old j (by omega) (by omega)) rf4, tbU_cg hU b6 (fun j h1 h2 => old j (by omega) (by omega)) rf4, tbN_cg hN b7 (fun j h1 h2 => old j (by omega) (by omega)) rf4, nmR_cg hM b2 hp (fun j h1 h2 => old j (by omega) (by omega)) rf4, dv_cg hV b2 (by rw [← hR']; simp only [List.length_set]) (fun j hj => old j (by omega) (by omega))⟩
  · rw [old 2 (by decide) (by omega)]; exact a2
  · rw [old 3 (by decide) (by omega)]; exact a3
  · rw [old 5 (by decide) (by omega)]; exact a5
  · rw [old 6 (by decide) (by omega)]; exact a6
  · rw [old 7 (by decide) (by omega)]; exact a7
  · by_cases e : k = c4
    · subst e
      exact ⟨s, co, hsc, hco, z3, by rw [z0, n0], by rw [z1, n1], z2, n2, by rw [e0, n0], by rw [e1, n1]⟩
    · obtain ⟨s', c', q⟩ := w1 k (by omega)
      refine ⟨s', c', ?_⟩
      rw [ad4_old (by omega) (by decide), ad4_old (by omega) (by decide), ad4_old (by omega) (by decide), ad4_old (by omega) (by decide), old (79 + 3 * k) (by omega) (by omega), old (79 + 3 * k + 1) (by omega) (by omega), old (79 + 3 * k + 2) (by omega) (by omega)]
      exact q
  · by_cases ek : k = c4
    · by_cases el : l = c4
      · intro _; omega
      · rw [ek, z3, ad4_old (by omega) (by decide)]
        intro q
        exact absurd q.symm (hno l (by omega))
    · by_cases el : l = c4
      · rw [el, z3, ad4_old (by omega) (by decide)]
        intro q
        exact absurd q (hno k (by omega))
      · rw [ad4_old (by omega) (by decide), ad4_old (by omega) (by decide)]
        exact w2 k l (by omega) (by omega)
theorem dt_sees {a b y : Nat} {z : Int32} (h : DT rw ss wl sg ru sd xs R c2 c3 c4 c5 c6 c7 pos) (hc : c3 < 10) (hs : ss.length = 40) (ha : a < c2) (hb : b < c2) (hab : ¬ a = b) (y1 : 1 ≤ y) (y9 : y ≤ 9) (hno : ¬ 0 < rg R (30 + 7 * a + b)) (hp : pos ≤ pos') : DT rw (ad4 ss c3 (nI a) (nI b) (nI y) z) wl sg ru sd xs ((R.set (30 + 7 * a + b) (nI y)).set 3 (nI (c3 + 1))) c2 (c3 + 1) c4 c5 c6 c7 pos' := by
  obtain ⟨⟨a2, a3, a4, a5, a6, a7, b2, b3, b4, b5, b6, b7⟩, hR, hS, hW, hG, hU, hN, hM, hV⟩ := h
  have l0 := hV.1
  generalize hR' : (R.set (30 + 7 * a + b) (nI y)).set 3 (nI (c3 + 1)) = R'
  have old : ∀ j, ¬ j = 3 → ¬ j = 30 + 7 * a + b → rg R' j = rg R j := by
    intro j h5 hj
    rw [← hR', rgset (by omega), rgset (by omega)]
  have new : rg R' 3 = nI (c3 + 1) := by rw [← hR']; exact rgset_eq (by simp only [List.length_set, l0]; decide)
  have n0 : rg R' (30 + 7 * a + b) = nI y := by
    rw [← hR', rgset (by omega)]; exact rgset_eq (by rw [l0]; omega)
  have yp : 0 < nI y := (nI_ltI (a := 0) (by decide) (by omega)).mpr (by omega)
  have oS : ∀ i k, i < c3 → k < 4 → tg (ad4 ss c3 (nI a) (nI b) (nI y) z) i k = tg ss i k := fun i k hi hk => ad4_old hi hk
  obtain ⟨z0, z1, z2, z3⟩ := ad4_new (xs := ss) (c := c3) (v0 := nI a) (v1 := nI b) (v2 := nI y) (v3 := z) (by omega)
  obtain ⟨s1, s2, s3⟩ := hS
  have ne : ∀ s, s < c3 → ¬ (tg ss s 0 = nI a ∧ tg ss s 1 = nI b) := by
    intro s hs' q
    obtain ⟨a', b', ha', hb', _, q0, q1, _, q3⟩ := s1 s hs'
    have e1 : a' = a := (nI_eqI (by omega) (by omega)).mp (q0.symm.trans q.1)
    have e2 : b' = b := (nI_eqI (by omega) (by omega)).mp (q1.symm.trans q.2)
    rw [e1, e2] at q3
    exact hno q3
  refine ⟨⟨?_, new, ?_, ?_, ?_, ?_, b2, by omega, b4, b5, b6, b7⟩, tbR_cg hR b2 (fun j h1 h2 => old j (by omega) (by omega)) rf4, ⟨fun s hs' => ?_, fun s t hs' ht => ?_, fun a' b' ha' hb' hp' => ?_⟩, ?_, tbG_cg hG b5 (fun j h1 h2 => old j (by omega) (by omega)) rf4, tbU_cg hU b6 (fun j h1 h2 => old j (by omega) (by omega)) rf4, tbN_cg hN b7 (fun j h1 h2 => old j (by omega) (by omega)) rf4, nmR_cg hM b2 hp (fun j h1 h2 => old j (by omega) (by omega)) rf4, ?_⟩
  · rw [old 2 (by decide) (by omega)]; exact a2
  · rw [old 4 (by decide) (by omega)]; exact a4
  · rw [old 5 (by decide) (by omega)]; exact a5
  · rw [old 6 (by decide) (by omega)]; exact a6
  · rw [old 7 (by decide) (by omega)]; exact a7
  · by_cases e : s = c3
    · subst e
      exact ⟨a, b, ha, hb, hab, z0, z1, by rw [z2, n0], by rw [n0]; exact yp⟩
    · obtain ⟨a', b', ha', hb', q, q0, q1, q2, q3⟩ := s1 s (by omega)
      have hne : ¬ 30 + 7 * a' + b' = 30 + 7 * a + b := by
        intro hq
        have e1 : a' = a := by omega
        have e2 : b' = b := by omega
        exact ne s (by omega) ⟨by rw [q0, e1], by rw [q1, e2]⟩
      refine ⟨a', b', ha', hb', q, ?_⟩
      rw [oS s 0 (by omega) (by decide), oS s 1 (by omega) (by decide), oS s 2 (by omega) (by decide), old _ (by omega) hne]
      exact ⟨q0, q1, q2, q3⟩
  · by_cases ek : s = c3
    · by_cases el : t = c3
      · intro _ _; omega
      · rw [ek, z0, z1, oS t 0 (by omega) (by decide), oS t 1 (by omega) (by decide)]
        intro q0 q1
        exact absurd ⟨q0.symm, q1.symm⟩ (ne t (by omega))
    · by_cases el : t = c3
      · rw [el, z0, z1, oS s 0 (by omega) (by decide), oS s 1 (by omega) (by decide)]
        intro q0 q1
        exact absurd ⟨q0, q1⟩ (ne s (by omega))
      · rw [oS s 0 (by omega) (by decide), oS s 1 (by omega) (by decide), oS t 0 (by omega) (by decide), oS t 1 (by omega) (by decide)]
        exact s2 s t (by omega) (by omega)
  · by_cases e : a' = a ∧ b' = b
    · rw [e.1, e.2]
      exact ⟨c3, by omega, z0, z1⟩
    · rw [old _ (by omega) (by omega)] at hp'
      obtain ⟨s, hs', q0, q1⟩ := s3 a' b' ha' hb' hp'
      exact ⟨s, by omega, by rw [oS s 0 hs' (by decide)]; exact q0, by rw [oS s 1 hs' (by decide)]; exact q1⟩
  · have w := tbW_cg (R' := R') hW b4 (fun j h1 h2 => old j (by omega) (by omega)) oS rf4
    refine ⟨fun k hk => ?_, w.2⟩
    obtain ⟨s, c', hs', q⟩ := w.1 k hk
    exact ⟨s, c', by omega, q⟩
  · obtain ⟨h0, h1, h2, h3, h4, h5⟩ := hV
    refine ⟨by rw [← hR']; simp only [List.length_set]; exact h0, ?_, ?_, ?_, fun i hi => ?_, fun a' b' ha' hb' => ?_⟩
    · rw [old 0 (by decide) (by omega)]; exact h1
    · rw [old 1 (by decide) (by omega)]; exact h2
    · rw [old 8 (by decide) (by omega)]; exact h3
    · rw [old (9 + 3 * i) (by omega) (by omega), old (9 + 3 * i + 1) (by omega) (by omega), old (9 + 3 * i + 2) (by omega) (by omega)]; exact h4 i hi
    · by_cases e : a' = a ∧ b' = b
      · rw [e.1, e.2, n0]
        exact Or.inr ⟨y, y1, y9, rfl, ha, hb⟩
      · rw [old _ (by omega) (by omega)]
        exact h5 a' b' ha' hb'
end DRAFT2
