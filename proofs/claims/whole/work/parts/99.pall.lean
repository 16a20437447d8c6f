/-! ===== reading: lines one behind another, the whole text ===== -/
section PALL
variable {xs R R' : List Int32} {n : Nat} {t t' : Tk}
theorem pSlope_ok (hn : t.2.1 ≤ n) (h : pSlope xs n R t = .ok (R', t')) : Fr0 xs n t.2.1 t' := by
  unfold pSlope at h
  split at h
  · exact absurd h (by simp)
  · obtain ⟨⟨b, t1⟩, e1, h⟩ := eb_inv h
    have f0 : Fr0 xs n t.2.1 (tk xs n t.2.1) := Fr0.nx hn
    have f1 := (pAfter_ok f0.le.2.1 e1).1
    obtain ⟨⟨c, t2⟩, e2, h⟩ := eb_inv h
    have f2 := (pAfter_ok f1.le.2.1 e2).1
    injection h with h
    injection h with h1 h2
    subst h2
    exact (f0.tr f1).tr f2
theorem pRowL_ok (hn : t.2.1 ≤ n) (h : pRowL xs n R t = .ok (R', t')) : Fr0 xs n t.2.1 t' := by
  unfold pRowL at h
  obtain ⟨⟨R1, t1⟩, e1, h⟩ := eb_inv h
  have f1 := (pNew_ok hn e1).1
  cases ek : pKind xs t1 with
  | none => simp only [ek] at h; exact absurd h (by simp)
  | some kd =>
    simp only [ek] at h
    have f0 : Fr0 xs n t1.2.1 (tk xs n t1.2.1) := Fr0.nx f1.le.2.1
    obtain ⟨⟨b, t2⟩, e2, h⟩ := eb_inv h
    have f2 := (pAfter_ok f0.le.2.1 e2).1
    obtain ⟨⟨c, t3⟩, e3, h⟩ := eb_inv h
    have f3 := (pAfter_ok f2.le.2.1 e3).1
    injection h with h
    injection h with h1 h2
    subst h2
    exact ((f1.tr f0).tr f2).tr f3
theorem pSees_ok (hn : t.2.1 ≤ n) (h : pSees xs n R t = .ok (R', t')) : Fr0 xs n t.2.1 t' := by
  unfold pSees at h
  obtain ⟨⟨a, t1⟩, e1, h⟩ := eb_inv h
  have f1 := (pRow_ok hn e1).1
  obtain ⟨b, e2, h⟩ := eb_inv h
  simp only at h
  split at h
  · exact absurd h (by simp)
  · have f0 : Fr0 xs n t1.2.1 (tk xs n t1.2.1) := Fr0.nx f1.le.2.1
    obtain ⟨⟨c, t2⟩, e3, h⟩ := eb_inv h
    have f2 := (pAfter_ok f0.le.2.1 e3).1
    injection h with h
    injection h with h1 h2
    subst h2
    exact (f1.tr f0).tr f2
theorem pWall_ok (hn : t.2.1 ≤ n) (h : pWall xs n R t = .ok (R', t')) : Fr0 xs n t.2.1 t' := by
  unfold pWall at h
  obtain ⟨⟨a, t1⟩, e1, h⟩ := eb_inv h
  have f1 := (pRow_ok hn e1).1
  obtain ⟨b, e2, h⟩ := eb_inv h
  simp only at h
  split at h
  · exact absurd h (by simp)
  · split at h
    · exact absurd h (by simp)
    · have f0 : Fr0 xs n t1.2.1 (tk xs n t1.2.1) := Fr0.nx f1.le.2.1
      obtain ⟨⟨c, t2⟩, e3, h⟩ := eb_inv h
      have f2 := (pAfter_ok f0.le.2.1 e3).1
      injection h with h
      injection h with h1 h2
      subst h2
      exact (f1.tr f0).tr f2
theorem pSign_ok (hn : t.2.1 ≤ n) (h : pSign xs n R t = .ok (R', t')) : Fr0 xs n t.2.1 t' := by
  unfold pSign at h
  obtain ⟨⟨a, t1⟩, e1, h⟩ := eb_inv h
  have f1 := (pRow_ok hn e1).1
  obtain ⟨⟨b, t2⟩, e2, h⟩ := eb_inv h
  have f2 := (pNum_ok f1.le.2.1 e2).1
  obtain ⟨⟨c, t3⟩, e3, h⟩ := eb_inv h
  have f3 := (pAfter_ok f2.le.2.1 e3).1
  obtain ⟨⟨c, t4⟩, e4, h⟩ := eb_inv h
  have f4 := (pAfter_ok f3.le.2.1 e4).1
  injection h with h
  injection h with h1 h2
  subst h2
  exact ((f1.tr f2).tr f3).tr f4
theorem pRum_ok (hn : t.2.1 ≤ n) (h : pRum xs n R t = .ok (R', t')) : Fr0 xs n t.2.1 t' := by
  unfold pRum at h
  obtain ⟨⟨a, t1⟩, e1, h⟩ := eb_inv h
  have f1 := (pRow_ok hn e1).1
  obtain ⟨⟨b, t2⟩, e2, h⟩ := eb_inv h
  have f2 := (pNum_ok f1.le.2.1 e2).1
  obtain ⟨⟨c, t3⟩, e3, h⟩ := eb_inv h
  have f3 := (pAfter_ok f2.le.2.1 e3).1
  injection h with h
  injection h with h1 h2
  subst h2
  exact (f1.tr f2).tr f3
theorem pSeen_ok {v : Int32} (hn : t.2.1 ≤ n) (h : pSeen xs n R v t = .ok (R', t')) : Fr0 xs n t.2.1 t' := by
  unfold pSeen at h
  obtain ⟨⟨a, t1⟩, e1, h⟩ := eb_inv h
  have f1 := (pRow_ok hn e1).1
  obtain ⟨t2, e2, h⟩ := eb_inv h
  have f2 := pWord_ok f1.le.2.1 e2
  obtain ⟨w, e3, h⟩ := eb_inv h
  simp only at h
  split at h
  · exact absurd h (by simp)
  · injection h with h
    injection h with h1 h2
    subst h2
    exact (f1.tr f2).tr (Fr0.nx f2.le.2.1)
theorem pLine_ok (hn : t.2.1 ≤ n) (h : pLine xs n R t = .ok (R', t')) : Fr0 xs n t.2.1 t' ∧ t.2.2 = 1 := by
  have key : ∀ j, isWt xs t j = true → t.2.2 = 1 := fun j q => by
    unfold isWt isW at q
    rw [Bool.and_eq_true] at q
    exact of_decide_eq_true q.1
  have bg : ∀ {b : Bool} {f : Tk → Er (List Int32 × Tk)}, (∀ t1, t1.2.1 ≤ n → f t1 = .ok (R', t') → Fr0 xs n t1.2.1 t') → eb (pBeg xs n R b t) f = .ok (R', t') → Fr0 xs n t.2.1 t' := fun {b} {f} hf h => by
    obtain ⟨t1, e1, h⟩ := eb_inv h
    have f1 := (pBeg_ok hn e1).1
    exact f1.tr (hf t1 f1.le.2.1 h)
  unfold pLine at h
  split at h
  · exact ⟨pSlope_ok hn h, key _ (by assumption)⟩
  · split at h
    · exact ⟨bg (fun t1 h1 h2 => pRowL_ok h1 h2) h, key _ (by assumption)⟩
    · split at h
      · exact ⟨bg (fun t1 h1 h2 => pSees_ok h1 h2) h, key _ (by assumption)⟩
      · split at h
        · exact ⟨bg (fun t1 h1 h2 => pWall_ok h1 h2) h, key _ (by assumption)⟩
        · split at h
          · exact ⟨bg (fun t1 h1 h2 => pSign_ok h1 h2) h, key _ (by assumption)⟩
          · split at h
            · exact ⟨bg (fun t1 h1 h2 => pRum_ok h1 h2) h, key _ (by assumption)⟩
            · split at h
              · exact ⟨bg (fun t1 h1 h2 => pSeen_ok h1 h2) h, key _ (by assumption)⟩
              · split at h
                · exact ⟨bg (fun t1 h1 h2 => pSeen_ok h1 h2) h, key _ (by assumption)⟩
                · exact absurd h (by simp)
/-- lines, with fuel -/
def pLs (xs : List Int32) (n : Nat) : Nat → List Int32 → Tk → Er (List Int32 × Tk)
  | 0, _, t => .error (1, t.1)
  | k + 1, R, t => eb (pLine xs n R t) fun q => if q.2.2.2 = 3 then pLs xs n k q.1 (tk xs n q.2.2.1) else .ok q
def pAll (xs : List Int32) (n : Nat) (R : List Int32) : Er (List Int32) := eb (pLs xs n (n + 1) R (tk xs n 0)) fun q => if q.2.2.2 = 0 then (if rg q.1 8 = 0 ∨ rg q.1 2 = 0 then .error (6, q.2.1) else .ok q.1) else .error (1, q.2.1)
/-- a mark is one byte -/
theorem tkT_mark {a : Nat} (h : (tkT xs n a).1 = 3) : (tkT xs n a).2 = a + 1 := by
  unfold tkT at h ⊢
  by_cases c1 : n ≤ a
  · rw [if_pos c1] at h; exact absurd h (by simp)
  · rw [if_neg c1] at h ⊢
    by_cases c2 : isL (xs.getD a 0) = true
    · rw [if_pos c2] at h
      by_cases c3 : tkL xs n a - a ≤ 8
      · rw [if_pos c3] at h; exact absurd h (by simp)
      · rw [if_neg c3] at h; exact absurd h (by simp)
    · rw [if_neg c2] at h ⊢
      by_cases c4 : isD (xs.getD a 0) = true
      · rw [if_pos c4] at h
        by_cases c3 : tkD xs n a - a ≤ 3
        · rw [if_pos c3] at h; exact absurd h (by simp)
        · rw [if_neg c3] at h; exact absurd h (by simp)
      · rw [if_neg c4]
/-- the next line begins further on -/
theorem ls_step (hn : t.2.1 ≤ n) (h : pLine xs n R t = .ok (R', t')) (h3 : t'.2.2 = 3) : t.1 < (tk xs n t'.2.1).1 ∨ t.2.1 < t.1 := by
  obtain ⟨⟨p, hp, hpn, e⟩, h1⟩ := pLine_ok hn h
  have hm : (tkT xs n t'.1).1 = 3 := by rw [e] at h3 ⊢; exact h3
  have he : t'.2.1 = t'.1 + 1 := by
    have := tkT_mark hm
    rw [e] at this ⊢
    exact this
  have a1 : p ≤ t'.1 := by rw [e]; exact tk_le
  have a2 : t'.2.1 ≤ (tk xs n t'.2.1).1 := tk_le
  omega
end PALL
