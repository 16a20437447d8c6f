/-! ===== the law: its beginning ===== -/
theorem bstep_ind {scr : List Int32} {k pc : Nat} {i : Instr} {ops : List Nat} {ls : ALs} {st : List Value} {H : List AC} (hk : ¬ k = 0) : bstep scr k pc i ops ls st H = bstep [] k pc i ops ls st H := by
  cases i
  case iaload =>
    simp only [bstep]
    split
    · rfl
    · simp [hk]
    · rfl
  case arraylength =>
    simp only [bstep]
    split
    · rfl
    · simp [hk]
    · rfl
  case ifCond cc oo => cases cc <;> rfl
  case if_icmp cc oo => cases cc <;> rfl
  all_goals rfl
theorem call_pos {k pc : Nat} {i : Instr} {ops : List Nat} {kind j na ci : Nat} (ha : acode k pc = some (i, ops)) (hc : cinfo i ops = some (kind, j, na, ci)) (h3 : ¬ kind = 3) : ¬ j = 0 := by
  rcases cinfo_spec hc with ⟨nn, w, x, si, rfl, rfl, rfl⟩ | ⟨nn, w, x, rfl, rfl, rfl⟩ | ⟨nn, w, x, rfl, rfl, rfl⟩ | ⟨nn, w, x, rfl, rfl, rfl⟩
  · have h2 := acode_chk ha (by simp)
    simp only [chkI, Bool.and_eq_true, decide_eq_true_eq] at h2
    have := h2.1.1.1.1.1.1.1
    omega
  · have h2 := acode_chk ha (by simp)
    simp only [chkI, Bool.and_eq_true, decide_eq_true_eq] at h2
    have := h2.1.1.1.1.1
    omega
  · exact absurd rfl h3
  · have h2 := acode_chk ha (by simp)
    simp only [chkI, Bool.and_eq_true, decide_eq_true_eq] at h2
    have := h2.1.1.1.1.1.1
    omega
theorem run_ind {scr : List Int32} : ∀ n d k pc ls st H, ¬ k = 0 → run scr n d k pc ls st H = run [] n d k pc ls st H := by
  intro n
  induction n with
  | zero => intro d k pc ls st H hk; rfl
  | succ n ih =>
    intro d k pc ls st H hk
    rw [run, run]
    cases ha : acode k pc with
    | none => rfl
    | some q =>
      obtain ⟨i, ops⟩ := q
      simp only
      cases rstep k i ops st H with
      | some r => rfl
      | none =>
        simp only
        cases hc : cinfo i ops with
        | none =>
          simp only [bstep_ind hk]
          cases bstep [] k pc i ops ls st H with
          | none => rfl
          | some cf => exact ih _ _ _ _ _ _ hk
        | some q =>
          obtain ⟨kind, j, na, ci⟩ := q
          simp only
          cases d with
          | zero => rfl
          | succ d =>
            simp only
            by_cases h3 : kind = 3
            · simp only [h3, if_true, ih _ k _ _ _ _ hk, ih _ 180 _ _ _ _ (by decide)]
            · have hj := call_pos ha hc h3
              simp only [h3, if_false, ih _ k _ _ _ _ hk, ih _ j _ _ _ _ hj]
def HA0 : List AC := [.inl (11, [.ref 1, .int (0), .ref 3, .ref 16, .ref 29, .ref 30, .ref 33, .ref 43, .ref 44, .ref 52, .ref 61, .ref 62, .ref 65, .int (0), .int (0), .int (-1)]),
  .inl (0, [.ref 2]),
  .inr (.inl (List.replicate 900 0)),
  .inl (6, [.int (0), .int (0), .ref 4, .ref 6, .ref 8, .ref 10, .ref 12, .ref 14]),
  .inl (9, [.int (7), .ref 5, .int (0)]),
  .inr (.inl (List.replicate 28 0)),
  .inl (9, [.int (10), .ref 7, .int (0)]),
  .inr (.inl (List.replicate 40 0)),
  .inl (9, [.int (5), .ref 9, .int (0)]),
  .inr (.inl (List.replicate 20 0)),
  .inl (9, [.int (6), .ref 11, .int (0)]),
  .inr (.inl (List.replicate 24 0)),
  .inl (9, [.int (5), .ref 13, .int (0)]),
  .inr (.inl (List.replicate 20 0)),
  .inl (9, [.int (5), .ref 15, .int (0)]),
  .inr (.inl (List.replicate 20 0)),
  .inl (6, [.int (0), .int (0), .ref 17, .ref 19, .ref 21, .ref 23, .ref 25, .ref 27]),
  .inl (9, [.int (7), .ref 18, .int (0)]),
  .inr (.inl (List.replicate 28 0)),
  .inl (9, [.int (10), .ref 20, .int (0)]),
  .inr (.inl (List.replicate 40 0)),
  .inl (9, [.int (5), .ref 22, .int (0)]),
  .inr (.inl (List.replicate 20 0)),
  .inl (9, [.int (6), .ref 24, .int (0)]),
  .inr (.inl (List.replicate 24 0)),
  .inl (9, [.int (5), .ref 26, .int (0)]),
  .inr (.inl (List.replicate 20 0)),
  .inl (9, [.int (5), .ref 28, .int (0)]),
  .inr (.inl (List.replicate 20 0)),
  .inl (4, [.ref 1, .ref 16, .int (0), .int (0), .int (0), .int (0), .int (0), .int (0), .int (0)]),
  .inl (8, [.ref 31, .int (0), .int (0), .int (0)]),
  .inl (0, [.ref 32]),
  .inr (.inl (List.replicate 7 0)),
  .inl (10, [.ref 3, .ref 34, .ref 37, .ref 39, .ref 41, .int (0), .int (0)]),
  .inl (8, [.ref 35, .int (0), .int (0), .int (0)]),
  .inl (0, [.ref 36]),
  .inr (.inl (List.replicate 7 0)),
  .inl (0, [.ref 38]),
  .inr (.inl (List.replicate 7 0)),
  .inl (0, [.ref 40]),
  .inr (.inl (List.replicate 7 0)),
  .inl (0, [.ref 42]),
  .inr (.inl (List.replicate 7 0)),
  .inl (1, [.ref 3, .ref 33, .int (0), .int (0), .int (0), .int (0)]),
  .inl (7, [.ref 3, .ref 33, .ref 45, .ref 48, .ref 50, .int (0), .int (0), .int (0)]),
  .inl (8, [.ref 46, .int (0), .int (0), .int (0)]),
  .inl (0, [.ref 47]),
  .inr (.inl (List.replicate 7 0)),
  .inl (0, [.ref 49]),
  .inr (.inl (List.replicate 21 0)),
  .inl (0, [.ref 51]),
  .inr (.inl (List.replicate 147 0)),
  .inl (2, [.ref 3, .ref 33, .ref 53, .ref 55, .ref 57, .ref 59, .int (0), .int (0)]),
  .inl (0, [.ref 54]),
  .inr (.inl (List.replicate 6 0)),
  .inl (0, [.ref 56]),
  .inr (.inl (List.replicate 64 0)),
  .inl (0, [.ref 58]),
  .inr (.inl (List.replicate 729 0)),
  .inl (0, [.ref 60]),
  .inr (.inl (List.replicate 729 0)),
  .inl (3, [.ref 3, .ref 33, .long 0, .long 0]),
  .inl (5, [.int (16), .ref 63, .int (0), .int (0)]),
  .inl (0, [.ref 64]),
  .inr (.inl (List.replicate 160 0)),
  .inl (5, [.int (3), .ref 66, .int (0), .int (0)]),
  .inl (0, [.ref 67]),
  .inr (.inl (List.replicate 30 0))]
def HB0 : List AC := [.inl (12, [.int (0), .ref 69, .int (0), .int (0), .int (0), .int (0), .int (0), .int (0), .int (0), .int (0), .int (-1), .int (0), .ref 70, .int (0), .int (0), .ref 71, .ref 72, .ref 73, .ref 74, .ref 75, .int (0), .int (0), .int (0), .ref 76, .ref 77, .ref 78, .ref 79, .ref 80, .int (0), .int (0), .int (0), .int (0), .int (0), .ref 81, .ref 82, .long 0, .long 0, .long 0, .long 0, .int (0)]),
  .inr (.inl (List.replicate 900 0)),
  .inr (.inl (List.replicate 8 0)),
  .inr (.inl (List.replicate 211 0)),
  .inr (.inl (List.replicate 211 0)),
  .inr (.inl (List.replicate 10 0)),
  .inr (.inl (List.replicate 160 0)),
  .inr (.inl (List.replicate 30 0)),
  .inr (.inl (List.replicate 7 0)),
  .inr (.inl (List.replicate 10 0)),
  .inr (.inl (List.replicate 10 0)),
  .inr (.inl (List.replicate 21 0)),
  .inr (.inl (List.replicate 147 0)),
  .inr (.inl (List.replicate 64 0)),
  .inr (.inl (List.replicate 16384 0))]
def H00 : List AC := (HA0 ++ HB0) ++ [.inr (.inr (List.replicate 1 0))]
def eqI : List Int32 → List Int32 → Bool
  | [], [] => true
  | x :: xs, y :: ys => if x = y then eqI xs ys else false
  | _, _ => false
theorem eqI_eq : ∀ xs ys, eqI xs ys = true → xs = ys
  | [], [], _ => rfl
  | x :: xs, y :: ys, h => by
    unfold eqI at h
    split at h
    · rename_i e; rw [e, eqI_eq xs ys h]
    · exact absurd h (by simp)
  | [], _ :: _, h => by simp [eqI] at h
  | _ :: _, [], h => by simp [eqI] at h
def eqC (c d : AC) : Bool := match c, d with
  | .inl a, .inl b => decide (a = b)
  | .inr (.inl xs), .inr (.inl ys) => eqI xs ys
  | .inr (.inr xs), .inr (.inr ys) => decide (xs = ys)
  | _, _ => false
theorem eqC_eq {c d : AC} (h : eqC c d = true) : c = d := by
  unfold eqC at h
  split at h
  · rw [of_decide_eq_true h]
  · rw [eqI_eq _ _ h]
  · rw [of_decide_eq_true h]
  · exact absurd h (by simp)
def eqH : List AC → List AC → Bool
  | [], [] => true
  | c :: cs, d :: ds => if eqC c d = true then eqH cs ds else false
  | _, _ => false
theorem eqH_eq : ∀ cs ds, eqH cs ds = true → cs = ds
  | [], [], _ => rfl
  | c :: cs, d :: ds, h => by
    unfold eqH at h
    split at h
    · rename_i e; rw [eqC_eq e, eqH_eq cs ds h]
    · exact absurd h (by simp)
  | [], _ :: _, h => by simp [eqH] at h
  | _ :: _, [], h => by simp [eqH] at h
def isN (o : ARs) (H : List AC) : Bool := match o with
  | some (none, H') => eqH H' H
  | _ => false
theorem isN_eq {o : ARs} {H : List AC} (h : isN o H = true) : o = some (none, H) := by
  unfold isN at h
  split at h
  · rw [eqH_eq _ _ h]
  · exact absurd h (by simp)
theorem init_A : isN (run [] 1200 16 118 0 (ent (mMax 118) [.ref 0]) [] [.inl (11, fdef 11)]) HA0 = true := by decide +kernel
theorem init_B : isN (run [] 400 16 183 0 (ent (mMax 183) [.ref 68]) [] (HA0 ++ [.inl (12, fdef 12)])) (HA0 ++ HB0) = true := by decide +kernel
