/-! ===== names: what the reference wrote down, and where the class looks ===== -/
def NmR (xs rw R : List Int32) (c pos : Nat) : Prop := (∀ i, i < c → ∃ q m, 0 < m ∧ m ≤ 8 ∧ q + m ≤ pos ∧ tg rw i 3 = nI q ∧ rg R (148 + i) = nI m ∧ (∀ k, k < m → rg R (155 + 8 * i + k) = xs.getD (q + k) 0 ∧ isL (xs.getD (q + k) 0) = true) ∧ isL (xs.getD (q + m) 0) = false) ∧ (∀ i, c ≤ i → i < 7 → rg R (148 + i) = 0)
section NAMES
variable {xs rw R : List Int32} {n c pos : Nat} {t : Tk}
/-- a word's signs are letters -/
def Wlt (xs : List Int32) (t : Tk) : Prop := t.1 ≤ t.2.1 ∧ t.2.1 - t.1 ≤ 8 ∧ ∀ k, k < t.2.1 - t.1 → isL (xs.getD (t.1 + k) 0) = true
theorem tkT_wlt {a : Nat} (h : (tkT xs n a).1 = 1) : (tkT xs n a).2 = tkL xs n a := by
  unfold tkT at h ⊢
  by_cases h1 : n ≤ a
  · rw [if_pos h1] at h; exact absurd (show (0 : Nat) = 1 from h) (by decide)
  · rw [if_neg h1] at h ⊢
    by_cases h2 : isL (xs.getD a 0) = true
    · rw [if_pos h2]
    · rw [if_neg h2] at h
      by_cases h3 : isD (xs.getD a 0) = true
      · rw [if_pos h3] at h
        change (if tkD xs n a - a ≤ 3 then 2 else 4) = 1 at h
        by_cases q : tkD xs n a - a ≤ 3
        · rw [if_pos q] at h; exact absurd h (by decide)
        · rw [if_neg q] at h; exact absurd h (by decide)
      · rw [if_neg h3] at h
        change (if xs.getD a 0 = 59 then 3 else 4) = 1 at h
        by_cases q : xs.getD a 0 = 59
        · rw [if_pos q] at h; exact absurd h (by decide)
        · rw [if_neg q] at h; exact absurd h (by decide)
theorem wlt_of (et : (t.2.2, t.2.1) = tkT xs n t.1) (h1 : t.2.2 = 1) : Wlt xs t := by
  have e1 := congrArg Prod.fst et
  have e2 := congrArg Prod.snd et
  change t.2.2 = _ at e1
  change t.2.1 = _ at e2
  rw [h1] at e1
  have h8 := tkT_w8 e1.symm
  have hL := tkT_wlt e1.symm
  rw [hL] at e2 h8
  rw [← e2] at h8
  refine ⟨by omega, h8.1, fun k hk => ?_⟩
  exact sk_in (g := fun q => isL (xs.getD q 0)) (n := n) (p := t.1) (by omega) (by show t.1 + k < tkL xs n t.1; omega)
theorem nm_one {q m i : Nat} (hm : 0 < m) (h8 : m ≤ 8) (hr : rg R (148 + i) = nI m) (hl : ∀ k, k < m → rg R (155 + 8 * i + k) = xs.getD (q + k) 0 ∧ isL (xs.getD (q + k) 0) = true) (hz : isL (xs.getD (q + m) 0) = false) (ht : Wlt xs t) : nmE xs R t i = waE xs t q := by
  obtain ⟨hle, ht8, htl⟩ := ht
  unfold nmE waE
  have p0 : 0 < rg R (148 + i) := by rw [hr]; exact (nI_ltI (a := 0) (by decide) (by omega)).mpr hm
  rw [decide_eq_true p0, Bool.true_and, hr]
  generalize hmt : t.2.1 - t.1 = mt at *
  rw [show decide (nI m = nI mt) = decide (m = mt) from by rw [decide_eq_decide]; exact nI_eqI (by omega) (by omega)]
  rcases Nat.lt_trichotomy m mt with h | h | h
  · rw [decide_eq_false (by omega), Bool.false_and]
    have : eqp xs t.1 (xs.drop q) mt = false := decide_eq_false (fun hq => by
      have := hq m h
      rw [getD_dropI] at this
      have h2 := htl m h
      rw [this, hz] at h2
      exact absurd h2 (by decide))
    rw [this, Bool.false_and]
  · subst h
    rw [decide_eq_true rfl, Bool.true_and, hz, Bool.not_false, Bool.and_true]
    unfold eqp
    rw [decide_eq_decide]
    refine ⟨fun h k hk => ?_, fun h k hk => ?_⟩
    · have := h k hk
      rw [getD_dropI] at this ⊢
      rw [this]
      exact (hl k hk).1
    · have := h k hk
      rw [getD_dropI] at this ⊢
      rw [this]
      exact (hl k hk).1.symm
  · rw [decide_eq_false (by omega), Bool.false_and, (hl mt h).2, Bool.not_true, Bool.and_false]
theorem find_eq (hN : NmR xs rw R c pos) (hp : pos ≤ 900) (hc : c ≤ 7) (ht : Wlt xs t) : findR xs R t 7 = nmH xs rw t c := by
  obtain ⟨h1, h2⟩ := hN
  have A : ∀ k, k ≤ c → findR xs R t k = nmH xs rw t k := by
    intro k
    induction k with
    | zero => intro _; rfl
    | succ k ih =>
      intro hk
      obtain ⟨q, m, m0, m8, qp, eq, er, el, ez⟩ := h1 k (by omega)
      show (match findR xs R t k with | some i => some i | none => if nmE xs R t k = true then some k else none) = (match nmH xs rw t k with | some i => some i | none => if waE xs t (tg rw k 3).toNatClampNeg = true then some k else none)
      rw [ih (by omega), eq, nI_clamp (by omega), nm_one m0 m8 er el ez ht]
  have B : ∀ j, c + j ≤ 7 → findR xs R t (c + j) = nmH xs rw t c := by
    intro j
    induction j with
    | zero => intro _; exact A c (Nat.le_refl _)
    | succ j ih =>
      intro hj
      have z : nmE xs R t (c + j) = false := by
        unfold nmE
        rw [h2 (c + j) (by omega) (by omega)]
        rfl
      show (match findR xs R t (c + j) with | some i => some i | none => if nmE xs R t (c + j) = true then some (c + j) else none) = _
      rw [ih (by omega), z]
      cases nmH xs rw t c with
      | some i => rfl
      | none => rfl
  have := B (7 - c) (by omega)
  rwa [show c + (7 - c) = 7 by omega] at this
end NAMES
