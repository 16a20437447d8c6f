/-! ===== reading goes on: where a token is taken from ===== -/
def Fr0 (xs : List Int32) (n e : Nat) (t : Tk) : Prop := ∃ p, e ≤ p ∧ p ≤ n ∧ t = tk xs n p
theorem tk_le {xs : List Int32} {n p : Nat} : p ≤ (tk xs n p).1 := sk_le
theorem tk_le2 {xs : List Int32} {n p : Nat} : (tk xs n p).1 ≤ (tk xs n p).2.1 := tkT_ge
theorem tk_ub {xs : List Int32} {n p : Nat} (h : p ≤ n) : (tk xs n p).2.1 ≤ n := tkT_end (sk_ub h)
section PROG
variable {xs R R' : List Int32} {n e j : Nat} {t t' : Tk}
theorem Fr0.le (h : Fr0 xs n e t) : e ≤ t.2.1 ∧ t.2.1 ≤ n ∧ e ≤ t.1 := by
  obtain ⟨p, h1, h2, h3⟩ := h
  rw [h3]
  have a := tk_le (xs := xs) (n := n) (p := p)
  have b := tk_le2 (xs := xs) (n := n) (p := p)
  exact ⟨by omega, tk_ub h2, by omega⟩
theorem Fr0.nx (h : e ≤ n) : Fr0 xs n e (tk xs n e) := ⟨e, Nat.le_refl _, h, rfl⟩
theorem Fr0.mono {e' : Nat} (h : Fr0 xs n e' t) (he : e ≤ e') : Fr0 xs n e t := by
  obtain ⟨p, h1, h2, h3⟩ := h
  exact ⟨p, by omega, h2, h3⟩
theorem Fr0.tr {t1 : Tk} (h1 : Fr0 xs n e t1) (h2 : Fr0 xs n t1.2.1 t) : Fr0 xs n e t := h2.mono h1.le.1
theorem eb_inv {α β : Type} {x : Er α} {f : α → Er β} {y : β} (h : eb x f = .ok y) : ∃ a, x = .ok a ∧ f a = .ok y := by
  cases x with
  | ok a => exact ⟨a, rfl, h⟩
  | error er => exact absurd h (by simp [eb])
theorem pWord_ok (hn : t.2.1 ≤ n) (h : pWord xs n j t = .ok t') : Fr0 xs n t.2.1 t' := by
  unfold pWord at h
  cases q : isWt xs t j
  · rw [q] at h; exact absurd h (by simp)
  · rw [q, if_pos rfl] at h
    injection h with h
    rw [← h]; exact Fr0.nx hn
theorem pNum_ok {lo hi w : Int32} (hn : t.2.1 ≤ n) (h : pNum xs n lo hi t = .ok (w, t')) : Fr0 xs n t.2.1 t' ∧ lo ≤ w ∧ w ≤ hi := by
  unfold pNum pNumH at h
  by_cases h2 : t.2.2 = 2
  · by_cases hb : lo ≤ whT xs t ∧ whT xs t ≤ hi
    · rw [if_pos h2, if_pos hb] at h
      injection h with h
      injection h with h1 h3
      rw [← h3, ← h1]
      exact ⟨Fr0.nx hn, hb⟩
    · rw [if_pos h2, if_neg hb] at h; exact absurd h (by simp)
  · rw [if_neg h2] at h; exact absurd h (by simp)
theorem pNumH_ok {lo hi w : Int32} (h : pNumH xs lo hi t = .ok w) : lo ≤ w ∧ w ≤ hi := by
  unfold pNumH at h
  by_cases h2 : t.2.2 = 2
  · by_cases hb : lo ≤ whT xs t ∧ whT xs t ≤ hi
    · rw [if_pos h2, if_pos hb] at h
      injection h with h
      rw [← h]
      exact hb
    · rw [if_pos h2, if_neg hb] at h; exact absurd h (by simp)
  · rw [if_neg h2] at h; exact absurd h (by simp)
theorem pAfter_ok {lo hi w : Int32} (hn : t.2.1 ≤ n) (h : pAfter xs n j lo hi t = .ok (w, t')) : Fr0 xs n t.2.1 t' ∧ lo ≤ w ∧ w ≤ hi := by
  unfold pAfter at h
  cases q : pWord xs n j t with
  | ok t1 =>
    rw [q] at h
    have f1 := pWord_ok hn q
    obtain ⟨f2, b⟩ := pNum_ok f1.le.2.1 h
    exact ⟨f1.tr f2, b⟩
  | error er => rw [q] at h; exact absurd h (by simp)
theorem pRowH_ok {i : Nat} (h : pRowH xs R t = .ok i) : findR xs R t 7 = some i ∧ pName xs t = true := by
  unfold pRowH at h
  cases q : pName xs t
  · rw [q] at h; exact absurd h (by simp)
  · rw [q, if_pos rfl] at h
    cases e : findR xs R t 7 with
    | some i' => rw [e] at h; injection h with h; rw [h]; exact ⟨rfl, rfl⟩
    | none => rw [e] at h; exact absurd h (by simp)
theorem pRow_ok {i : Nat} (hn : t.2.1 ≤ n) (h : pRow xs n R t = .ok (i, t')) : Fr0 xs n t.2.1 t' ∧ findR xs R t 7 = some i := by
  unfold pRow at h
  cases q : pRowH xs R t with
  | ok i' =>
    rw [q] at h
    injection h with h
    injection h with h1 h2
    rw [← h2, ← h1]
    exact ⟨Fr0.nx hn, (pRowH_ok q).1⟩
  | error er => rw [q] at h; exact absurd h (by simp)
theorem pNew_ok {r : Nat} (hn : t.2.1 ≤ n) (h : pNew xs n R r t = .ok (R', t')) : Fr0 xs n t.2.1 t' ∧ R' = nmW xs R t r ∧ findR xs R t 7 = none ∧ pName xs t = true := by
  unfold pNew at h
  cases q : pName xs t
  · rw [q] at h; exact absurd h (by simp)
  · rw [q, if_pos rfl] at h
    cases e : findR xs R t 7 with
    | some i' => rw [e] at h; exact absurd h (by simp)
    | none =>
      rw [e] at h
      injection h with h
      injection h with h1 h2
      rw [← h2, ← h1]
      exact ⟨Fr0.nx hn, rfl, rfl, rfl⟩
theorem pBeg_ok {b : Bool} (hn : t.2.1 ≤ n) (h : pBeg xs n R b t = .ok t') : Fr0 xs n t.2.1 t' ∧ b = true ∧ ¬ rg R 8 = 0 := by
  unfold pBeg at h
  cases b
  · exact absurd h (by simp)
  · rw [if_pos rfl] at h
    by_cases h8 : rg R 8 = 0
    · rw [if_pos h8] at h; exact absurd h (by simp)
    · rw [if_neg h8] at h
      injection h with h
      rw [← h]
      exact ⟨Fr0.nx hn, rfl, h8⟩
end PROG
