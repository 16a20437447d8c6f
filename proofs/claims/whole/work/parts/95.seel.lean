/-! ===== reading: sights, walls, what was said, kinds; the slope's line on the heap ===== -/
theorem fnd_in {p : Nat → Bool} {m : Nat} {dd : Int32} : (∃ i, i < m ∧ p i = true ∧ fnd p m dd = nI i) ∨ ((∀ i, i < m → p i = false) ∧ fnd p m dd = dd) := by
  unfold fnd
  cases e : (List.range m).find? p with
  | some i => exact Or.inl ⟨i, List.mem_range.mp (List.mem_of_find?_eq_some e), List.find?_some e, rfl⟩
  | none =>
    refine Or.inr ⟨fun i hi => ?_, rfl⟩
    have := List.find?_eq_none.mp e i (List.mem_range.mpr hi)
    simpa using this
theorem sOn_in {ss : List Int32} {m : Nat} {x y : Int32} : (∃ s, s < m ∧ tg ss s 0 = x ∧ tg ss s 1 = y ∧ sOn ss m x y = nI s) ∨ ((∀ s, s < m → ¬ (tg ss s 0 = x ∧ tg ss s 1 = y)) ∧ sOn ss m x y = -1) := by
  rcases fnd_in (p := fun s => decide (tg ss s 0 = x) && decide (tg ss s 1 = y)) (m := m) (dd := -1) with ⟨i, hi, hp, e⟩ | ⟨hn, e⟩
  · simp only [Bool.and_eq_true, decide_eq_true_eq] at hp
    exact Or.inl ⟨i, hi, hp.1, hp.2, e⟩
  · refine Or.inr ⟨fun s hs q => ?_, e⟩
    have := hn s hs
    simp only [q.1, q.2, decide_true, Bool.and_self] at this
    exact absurd this (by decide)
theorem nI_m1 {k : Nat} (h : k < 1000) : (nI k = -1) = False := eq_false (fun q => by
  have := congrArg Int32.toInt q
  rw [nI_toInt (by omega)] at this
  have e : (-1 : Int32).toInt = -1 := rfl
  rw [e] at this
  omega)
section SEES
variable {ss wl sd R : List Int32} {n nS nW nN a b : Nat}
theorem see_pos {s : Nat} (h : TbS ss R n nS) (hn : n ≤ 7) (hs : s < nS) (g0 : tg ss s 0 = nI a) (g1 : tg ss s 1 = nI b) (ha : a < n) (hb : b < n) : 0 < rg R (30 + 7 * a + b) := by
  obtain ⟨a', b', ha', hb', hab, e0, e1, e2, e3⟩ := h.1 s hs
  have q0 : a' = a := (nI_eqI (by omega) (by omega)).mp (e0.symm.trans g0)
  have q1 : b' = b := (nI_eqI (by omega) (by omega)).mp (e1.symm.trans g1)
  subst q0; subst q1
  exact e3
theorem sOn_see (h : TbS ss R n nS) (ha : a < n) (hb : b < n) (hn : n ≤ 7 := by omega) (hS : nS ≤ 10 := by omega) : sOn ss nS (nI a) (nI b) = -1 ↔ ¬ 0 < rg R (30 + 7 * a + b) := by
  rcases sOn_in (ss := ss) (m := nS) (x := nI a) (y := nI b) with ⟨s, hs, g0, g1, gs⟩ | ⟨gn, gs⟩
  · have := see_pos h hn hs g0 g1 ha hb
    rw [gs]
    exact ⟨fun q => absurd q (by rw [nI_m1 (show s < 1000 by omega)]; exact id), fun q => absurd this q⟩
  · refine ⟨fun _ q => ?_, fun _ => gs⟩
    obtain ⟨s, hs, e0, e1⟩ := h.2.2 a b ha hb q
    exact gn s hs ⟨e0, e1⟩
theorem see_zero (h : TbS ss R n nS) (hV : DV R n) (hn : n ≤ 7) (gn : ∀ s, s < nS → ¬ (tg ss s 0 = nI a ∧ tg ss s 1 = nI b)) (ha : a < n) (hb : b < n) : rg R (30 + 7 * a + b) = 0 := by
  rcases hV.2.2.2.2.2 a b (by omega) (by omega) with q | ⟨y, y1, y9, ey, _⟩
  · exact q
  · have : 0 < rg R (30 + 7 * a + b) := by rw [ey]; exact nI_lt (a := 0) (b := y) (by omega) (by omega)
    obtain ⟨s, hs, e0, e1⟩ := h.2.2 a b ha hb this
    exact absurd ⟨e0, e1⟩ (gn s hs)
theorem wlh_ex (hab : ¬ a = b) : ∀ m, wlh R a b m = true ↔ ∃ k, k < m ∧ rg R (79 + 3 * k) = nI a ∧ rg R (79 + 3 * k + 1) = nI b
  | 0 => by
    unfold wlh
    rw [decide_eq_false hab]
    exact ⟨fun q => absurd q (by decide), fun ⟨k, hk, _⟩ => absurd hk (Nat.not_lt_zero _)⟩
  | m + 1 => by
    unfold wlh
    rw [Bool.or_eq_true, wlh_ex hab m]
    simp only [Bool.and_eq_true, decide_eq_true_eq]
    constructor
    · rintro (⟨k, hk, q⟩ | q)
      · exact ⟨k, by omega, q⟩
      · exact ⟨m, by omega, q⟩
    · rintro ⟨k, hk, q⟩
      rcases Nat.lt_or_ge k m with z | z
      · exact Or.inl ⟨k, z, q⟩
      · rw [show k = m by omega] at q; exact Or.inr q
theorem wlh_eq : ∀ m, wlh R a a m = true
  | 0 => by unfold wlh; exact decide_eq_true rfl
  | m + 1 => by unfold wlh; rw [wlh_eq m]; rfl
theorem wlh_iff {s : Nat} (hS : TbS ss R n nS) (hW : TbW ss wl R nS nW) (hs : s < nS) (g0 : tg ss s 0 = nI a) (g1 : tg ss s 1 = nI b) (hab : ¬ a = b) (h10 : nS ≤ 10) : wlh R a b nW = true ↔ ∃ k, k < nW ∧ tg wl k 3 = nI s := by
  rw [wlh_ex hab]
  constructor
  · rintro ⟨k, hk, q0, q1⟩
    obtain ⟨s', c, hs', hc, e3, _, _, _, _, e0, e1⟩ := hW.1 k hk
    have := hS.2.1 s' s hs' hs (by rw [e0, q0, g0]) (by rw [e1, q1, g1])
    subst this
    exact ⟨k, hk, e3⟩
  · rintro ⟨k, hk, q⟩
    obtain ⟨s', c, hs', hc, e3, _, _, _, _, e0, e1⟩ := hW.1 k hk
    have es : s' = s ∨ ¬ s' = s := by omega
    rcases es with es | es
    · subst es
      exact ⟨k, hk, by rw [← e0, g0], by rw [← e1, g1]⟩
    · rw [e3] at q
      exact absurd ((nI_eqI (by omega) (by omega)).mp q) es
theorem wlh_no (hW : TbW ss wl R nS nW) (gn : ∀ s, s < nS → ¬ (tg ss s 0 = nI a ∧ tg ss s 1 = nI b)) (hab : ¬ a = b) : ¬ wlh R a b nW = true := by
  rw [wlh_ex hab]
  rintro ⟨k, hk, q0, q1⟩
  obtain ⟨s', c, hs', hc, e3, _, _, _, _, e0, e1⟩ := hW.1 k hk
  exact gn s' hs' ⟨by rw [e0, q0], by rw [e1, q1]⟩
theorem wOn_m1 (hW : TbW ss wl R nS nW) (hS : nS ≤ 10) (h5 : nW ≤ 5) : wOn wl nW (-1) = -1 := by
  unfold wOn
  refine fnd_miss (fun k hk => decide_eq_false (fun q => ?_))
  obtain ⟨s', c, hs', hc, e3, _⟩ := hW.1 k hk
  rw [e3] at q
  exact (nI_m1 (show s' < 1000 by omega)).mp q
theorem sdB_snh {r : Nat} {w : Int32} (h : TbN sd R n nN) : ∀ m, m ≤ nN → sdB sd m (nI r) w = snh R r w m
  | 0, _ => rfl
  | m + 1, hm => by
    have ih := sdB_snh (r := r) (w := w) h m (by omega)
    unfold sdB at ih ⊢
    unfold snh
    rw [exN_succ, ih]
    obtain ⟨r', dd, _, _, e0, e0', e3, e3', _⟩ := h m (by omega)
    rw [e0, e0', e3, e3']
end SEES
theorem pKind_lt {xs : List Int32} {t : Tk} {k : Nat} (h : pKind xs t = some k) : k < 4 := by
  unfold pKind at h
  repeat' split at h
  all_goals first | (injection h with h; omega) | (exact absurd h (by simp))
theorem pKind_w {xs : List Int32} {t : Tk} {k : Nat} (h : pKind xs t = some k) : t.2.2 = 1 := by
  have key : ∀ j, isWt xs t j = true → t.2.2 = 1 := fun j q => by
    unfold isWt isW at q
    rw [Bool.and_eq_true] at q
    exact of_decide_eq_true q.1
  unfold pKind at h
  split at h
  · exact key _ (by assumption)
  · split at h
    · exact key _ (by assumption)
    · split at h
      · exact key _ (by assumption)
      · split at h
        · exact key _ (by assumption)
        · exact absurd h (by simp)
theorem kind_end {xs : List Int32} {n k : Nat} {t : Tk} (hw : Wlt xs t) (et : (t.2.2, t.2.1) = tkT xs n t.1) (h1 : t.2.2 = 1) (h : pKind xs (tk xs n t.2.1) = some k) : 0 < t.2.1 - t.1 ∧ isL (xs.getD t.2.1 0) = false := by
  have e1 : (tkT xs n t.1).1 = 1 := by rw [← et]; exact h1
  have e2 : t.2.1 = tkL xs n t.1 := by rw [← tkT_wlt e1, ← et]
  have e3 : t.2.1 = (tkT xs n t.1).2 := by rw [← et]
  have e4 := tkT_w8 e1
  have hlt : t.2.1 < n := by
    have hk := pKind_w h
    change (tkT xs n (tkP xs n t.2.1)).1 = 1 at hk
    have : ¬ n ≤ tkP xs n t.2.1 := fun q => by
      unfold tkT at hk
      rw [if_pos q] at hk
      exact absurd hk (by simp)
    have h2 : t.2.1 ≤ tkP xs n t.2.1 := sk_le
    omega
  refine ⟨by rw [e3]; exact e4.2, ?_⟩
  rw [e2] at hlt ⊢
  exact sk_ex hlt
def DHx (H : List AC) (xs : List Int32) (n : Nat) (R : List Int32) : Prop := ∃ c2 c3 c4 c5 c6 c7, DH H xs n R c2 c3 c4 c5 c6 c7
section DSL
variable {xs R : List Int32} {n c2 c3 c4 c5 c6 c7 : Nat} {H : List AC}
theorem DH_slope {b h0 : Nat} (h : DH H xs n R c2 c3 c4 c5 c6 c7) (hb : b ≤ 99) (hh : h0 ≤ 100) : DH (hpf (hpf (hpf H 16 0 (.int (nI b))) 16 1 (.int (nI h0))) 29 6 (.int 1)) xs n (((R.set 0 (nI b)).set 1 (nI h0)).set 8 1) c2 c3 c4 c5 c6 c7 ∧ Fg [] [(16, 0), (16, 1), (29, 6)] H (hpf (hpf (hpf H 16 0 (.int (nI b))) 16 1 (.int (nI h0))) 29 6 (.int 1)) := by
  obtain ⟨hS, hr, ⟨d2, d3, d4, d5, d6, d7⟩, hT, h9, e0, e1, e6, zz⟩ := h
  have l0 : R.length = 211 := hT.2.2.2.2.2.2.2.2.1
  have s1 := sf_16_0 (v := nI b) hS
  have s2 := sf_16_1 (v := nI h0) s1
  have hF : Fg [] [(16, 0), (16, 1), (29, 6)] H (hpf (hpf (hpf H 16 0 (.int (nI b))) 16 1 (.int (nI h0))) 29 6 (.int 1)) := (((fg_hpf (a := 16) (f := 0) (ci := 6) hS rfl (by decide))).trans (fg_hpf (a := 16) (f := 1) (ci := 6) s1 rfl (by decide))).trans (fg_hpf (a := 29) (f := 6) (ci := 4) s2 rfl (by decide))
  have a1 : fi (hpf (hpf (hpf H 16 0 (.int (nI b))) 16 1 (.int (nI h0))) 29 6 (.int 1)) 16 0 = nI b := by rw [fi_hpf_ne (by decide), fi_hpf_ne (by decide)]; exact fe_16_0 hS
  have a2 : fi (hpf (hpf (hpf H 16 0 (.int (nI b))) 16 1 (.int (nI h0))) 29 6 (.int 1)) 16 1 = nI h0 := by rw [fi_hpf_ne (by decide)]; exact fe_16_1 s1
  have a3 : fi (hpf (hpf (hpf H 16 0 (.int (nI b))) 16 1 (.int (nI h0))) 29 6 (.int 1)) 29 6 = 1 := fe_29_6 s2
  generalize hpf (hpf (hpf H 16 0 (.int (nI b))) 16 1 (.int (nI h0))) 29 6 (.int 1) = X at hF a1 a2 a3 ⊢
  have hD := dt_slope hT hb hh (Nat.le_refl n)
  have o0 : rg (((R.set 0 (nI b)).set 1 (nI h0)).set 8 1) 0 = nI b := by rw [rgset (by decide), rgset (by decide)]; exact rgset_eq (by omega)
  have o1 : rg (((R.set 0 (nI b)).set 1 (nI h0)).set 8 1) 1 = nI h0 := by rw [rgset (by decide)]; exact rgset_eq (by rw [List.length_set]; omega)
  have o8 : rg (((R.set 0 (nI b)).set 1 (nI h0)).set 8 1) 8 = 1 := rgset_eq (by simp only [List.length_set]; omega)
  refine ⟨⟨hF.shp, hr.og hF (by decide) (by decide), ⟨?_, ?_, ?_, ?_, ?_, ?_⟩, ?_, h9, ?_, ?_, ?_, fun q => ?_⟩, hF⟩
  · rw [hF.int (by decide) (by decide)]; exact d2
  · rw [hF.int (by decide) (by decide)]; exact d3
  · rw [hF.int (by decide) (by decide)]; exact d4
  · rw [hF.int (by decide) (by decide)]; exact d5
  · rw [hF.int (by decide) (by decide)]; exact d6
  · rw [hF.int (by decide) (by decide)]; exact d7
  · rw [hF.arr (a := 18) (by decide), hF.arr (a := 20) (by decide), hF.arr (a := 22) (by decide), hF.arr (a := 24) (by decide), hF.arr (a := 26) (by decide), hF.arr (a := 28) (by decide)]; exact hD
  · rw [a1, o0]
  · rw [a2, o1]
  · rw [a3, o8]
  · rw [o8] at q; exact absurd q (by decide)
end DSL
