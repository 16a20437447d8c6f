/-! ===== what a run comes to ===== -/
def Wp (scr : List Int32) (d k pc : Nat) (ls : ALs) (st : List Value) (H : List AC) (Q : Option Value → List AC → Prop) : Prop := ∃ n r H', run scr n d k pc ls st H = some (r, H') ∧ Q r H'
def oK {α : Type} (o : Option α) (K : α → Prop) : Prop := match o with
  | some v => K v
  | none => False
theorem oK_some {α : Type} {v : α} {K : α → Prop} : oK (some v) K ↔ K v := Iff.rfl
section MONO
variable {scr : List Int32}
theorem run_mono : ∀ n d k pc ls st H r, run scr n d k pc ls st H = some r → run scr (n + 1) d k pc ls st H = some r := by
  intro n
  induction n with
  | zero => intro d k pc ls st H r h; simp [run] at h
  | succ n ih =>
    intro d k pc ls st H r h
    rw [run] at h
    rw [run]
    cases ha : acode k pc with
    | none => simp [ha] at h
    | some p =>
      obtain ⟨i, ops⟩ := p
      simp only [ha] at h ⊢
      cases hr : rstep k i ops st H with
      | some r' => simp only [hr] at h ⊢; exact h
      | none =>
        simp only [hr] at h ⊢
        cases hc : cinfo i ops with
        | none =>
          simp only [hc] at h ⊢
          cases hb : bstep scr k pc i ops ls st H with
          | none => simp [hb] at h
          | some c => simp only [hb] at h ⊢; exact ih _ _ _ _ _ _ _ h
        | some q =>
          obtain ⟨kind, j, na, ci⟩ := q
          simp only [hc] at h ⊢
          cases d with
          | zero => simp at h
          | succ d =>
            simp only at h ⊢
            by_cases h3 : kind = 3
            · simp only [h3, if_true] at h ⊢
              split at h
              · rename_i o p0 x rest
                by_cases hk : csum rest ≤ 8 ∧ lok H.length ls = true ∧ sok H.length (.ref o :: .int p0 :: .ref x :: rest) = true
                · simp only [hk, and_self, if_true] at h ⊢
                  cases d with
                  | zero => simp at h
                  | succ d =>
                    simp only at h ⊢
                    cases hq : run scr n d 180 0 (ent (mMax 180) [.ref x, .int p0]) [] H with
                    | none => simp [hq] at h
                    | some z =>
                      rw [ih _ _ _ _ _ _ _ hq]
                      simp only [hq] at h ⊢
                      split at h
                      · rename_i e; cases e; exact ih _ _ _ _ _ _ _ h
                      · rename_i e; cases e
                        split at h
                        · exact ih _ _ _ _ _ _ _ h
                        · cases h
                      · cases h
                · rw [if_neg hk] at h; cases h
              · cases h
            · simp only [h3, if_false] at h ⊢
              by_cases hk : cok kind na ci (mMax j) ls st H = true
              · simp only [hk, if_true] at h ⊢
                cases hq : run scr n d j 0 (ent (mMax j) (st.take na).reverse) [] H with
                | none => simp [hq] at h
                | some z =>
                  obtain ⟨r1, H1⟩ := z
                  rw [ih _ _ _ _ _ _ _ hq]
                  simp only [hq] at h ⊢
                  by_cases hz : rok r1 = true ∧ (kind = 0 ∨ H1.length = H.length)
                  · rw [if_pos hz] at h ⊢; exact ih _ _ _ _ _ _ _ h
                  · rw [if_neg hz] at h; cases h
              · rw [if_neg hk] at h; cases h
theorem run_le {n m d k pc : Nat} {ls : ALs} {st : List Value} {H : List AC} {r : Option Value × List AC} (hm : n ≤ m) (h : run scr n d k pc ls st H = some r) : run scr m d k pc ls st H = some r := by
  induction hm with
  | refl => exact h
  | step _ ih => exact run_mono _ _ _ _ _ _ _ _ ih
theorem Wp_iff {d k pc : Nat} {ls : ALs} {st : List Value} {H : List AC} {Q : Option Value → List AC → Prop} {r0 : Option Value} {H0 : List AC} (h : Wp scr d k pc ls st H (fun r H' => r = r0 ∧ H' = H0)) : Wp scr d k pc ls st H Q ↔ Q r0 H0 := by
  obtain ⟨n, r, H', e, rfl, rfl⟩ := h
  constructor
  · rintro ⟨m, r1, H1, e1, hq⟩
    have h1 := run_le (Nat.le_max_left n m) e
    have h2 := run_le (Nat.le_max_right n m) e1
    rw [h1] at h2
    cases h2
    exact hq
  · intro hq; exact ⟨n, r, H', e, hq⟩
theorem Wp_mono {d k pc : Nat} {ls : ALs} {st : List Value} {H : List AC} {Q Q' : Option Value → List AC → Prop} (h : Wp scr d k pc ls st H Q) (hq : ∀ r H', Q r H' → Q' r H') : Wp scr d k pc ls st H Q' := by
  obtain ⟨n, r, H', e, q⟩ := h
  exact ⟨n, r, H', e, hq _ _ q⟩
variable {d k pc : Nat} {ls : ALs} {st : List Value} {H : List AC} {Q : Option Value → List AC → Prop} {i : Instr} {ops : List Nat}
theorem Wp_b {o : Option Cf} (ha : acode k pc = some (i, ops)) (hr : rstep k i ops st H = none) (hc : cinfo i ops = none) (hb : bstep scr k pc i ops ls st H = o) : Wp scr d k pc ls st H Q ↔ oK o (fun c => Wp scr d k c.1 c.2.1 c.2.2.1 c.2.2.2 Q) := by
  constructor
  · rintro ⟨n, r, H', e, q⟩
    cases n with
    | zero => simp [run] at e
    | succ n =>
      rw [run] at e
      simp only [ha, hr, hc, hb] at e
      cases o with
      | none => simp at e
      | some c => exact ⟨n, r, H', e, q⟩
  · intro h
    cases o with
    | none => exact h.elim
    | some c =>
      obtain ⟨n, r, H', e, q⟩ := h
      refine ⟨n + 1, r, H', ?_, q⟩
      rw [run]
      simp only [ha, hr, hc, hb]
      exact e
theorem Wp_r {r : Option Value × List AC} (ha : acode k pc = some (i, ops)) (hr : rstep k i ops st H = some r) : Wp scr d k pc ls st H Q ↔ Q r.1 r.2 := by
  constructor
  · rintro ⟨n, r', H', e, q⟩
    cases n with
    | zero => simp [run] at e
    | succ n =>
      rw [run] at e
      simp only [ha, hr] at e
      cases e
      exact q
  · intro h
    refine ⟨1, r.1, r.2, ?_, h⟩
    rw [run]
    simp only [ha, hr]
def cont (scr : List Int32) (d k pc : Nat) (ls : ALs) (st : List Value) (kind : Nat) (H : List AC) (Q : Option Value → List AC → Prop) (r : Option Value) (H' : List AC) : Prop := rok r = true ∧ (kind = 0 ∨ H'.length = H.length) ∧ Wp scr d k pc ls (r.toList ++ st) H' Q
theorem Wp_c {kind j na ci : Nat} (ha : acode k pc = some (i, ops)) (hr : rstep k i ops st H = none) (hc : cinfo i ops = some (kind, j, na, ci)) (h3 : kind ≠ 3) : Wp scr (d + 1) k pc ls st H Q ↔ cok kind na ci (mMax j) ls st H = true ∧ Wp scr d j 0 (ent (mMax j) (st.take na).reverse) [] H (cont scr (d + 1) k (pc + 3) ls (st.drop na) kind H Q) := by
  constructor
  · rintro ⟨n, r, H', e, q⟩
    cases n with
    | zero => simp [run] at e
    | succ n =>
      rw [run] at e
      simp only [ha, hr, hc, h3, if_false] at e
      by_cases hk : cok kind na ci (mMax j) ls st H = true
      · simp only [hk, if_true] at e
        refine ⟨hk, ?_⟩
        cases hq : run scr n d j 0 (ent (mMax j) (st.take na).reverse) [] H with
        | none => simp [hq] at e
        | some z =>
          obtain ⟨r1, H1⟩ := z
          simp only [hq] at e
          by_cases hz : rok r1 = true ∧ (kind = 0 ∨ H1.length = H.length)
          · rw [if_pos hz] at e
            exact ⟨n, r1, H1, hq, hz.1, hz.2, n, r, H', e, q⟩
          · rw [if_neg hz] at e; cases e
      · rw [if_neg hk] at e; cases e
  · rintro ⟨hk, n1, r1, H1, e1, hz1, hz2, n2, r, H', e, q⟩
    refine ⟨max n1 n2 + 1, r, H', ?_, q⟩
    rw [run]
    simp only [ha, hr, hc, h3, if_false, hk, if_true]
    rw [run_le (Nat.le_max_left n1 n2) e1]
    simp only [hz1, hz2, and_self, if_true]
    exact run_le (Nat.le_max_right n1 n2) e
end MONO
theorem cont_int {scr : List Int32} {d k pc : Nat} {ls : ALs} {st : List Value} {H H' : List AC} {Q : Option Value → List AC → Prop} {v : Int32} : cont scr d k pc ls st 1 H Q (some (.int v)) H' ↔ H'.length = H.length ∧ Wp scr d k pc ls (.int v :: st) H' Q := by
  simp [cont, rok]
theorem cont_intS {scr : List Int32} {d k pc : Nat} {ls : ALs} {st : List Value} {H H' : List AC} {Q : Option Value → List AC → Prop} {v : Int32} : cont scr d k pc ls st 2 H Q (some (.int v)) H' ↔ H'.length = H.length ∧ Wp scr d k pc ls (.int v :: st) H' Q := by
  simp [cont, rok]
theorem cont_long {scr : List Int32} {d k pc : Nat} {ls : ALs} {st : List Value} {H H' : List AC} {Q : Option Value → List AC → Prop} {v : Int64} : cont scr d k pc ls st 1 H Q (some (.long v)) H' ↔ H'.length = H.length ∧ Wp scr d k pc ls (.long v :: st) H' Q := by
  simp [cont, rok]
theorem cont_longS {scr : List Int32} {d k pc : Nat} {ls : ALs} {st : List Value} {H H' : List AC} {Q : Option Value → List AC → Prop} {v : Int64} : cont scr d k pc ls st 2 H Q (some (.long v)) H' ↔ H'.length = H.length ∧ Wp scr d k pc ls (.long v :: st) H' Q := by
  simp [cont, rok]
theorem cont_none {scr : List Int32} {d k pc : Nat} {ls : ALs} {st : List Value} {H H' : List AC} {Q : Option Value → List AC → Prop} : cont scr d k pc ls st 1 H Q none H' ↔ H'.length = H.length ∧ Wp scr d k pc ls st H' Q := by
  simp [cont, rok]
theorem cont_noneS {scr : List Int32} {d k pc : Nat} {ls : ALs} {st : List Value} {H H' : List AC} {Q : Option Value → List AC → Prop} : cont scr d k pc ls st 2 H Q none H' ↔ H'.length = H.length ∧ Wp scr d k pc ls st H' Q := by
  simp [cont, rok]
theorem hpf_length {H : List AC} {a f : Nat} {v : Value} : (hpf H a f v).length = H.length := by
  unfold hpf; split <;> simp
theorem hpa_length {H : List AC} {a : Nat} {xs : List Int32} : (hpa H a xs).length = H.length := by
  unfold hpa; split <;> simp
theorem hpl_length {H : List AC} {a : Nat} {xs : List Int64} : (hpl H a xs).length = H.length := by
  unfold hpl; split <;> simp
section KINDS
variable {scr : List Int32} {d k pc : Nat} {ls : ALs} {st : List Value} {H : List AC} {Q : Option Value → List AC → Prop} {ops : List Nat}
theorem Wp_iadd {x y : Int32} (ha : acode k pc = some (.iadd, ops)) : Wp scr d k pc ls (.int y :: .int x :: st) H Q ↔ Wp scr d k (pc + 1) ls (.int (x + y) :: st) H Q := Wp_b ha rfl rfl rfl
theorem Wp_isub {x y : Int32} (ha : acode k pc = some (.isub, ops)) : Wp scr d k pc ls (.int y :: .int x :: st) H Q ↔ Wp scr d k (pc + 1) ls (.int (x - y) :: st) H Q := Wp_b ha rfl rfl rfl
theorem Wp_imul {x y : Int32} (ha : acode k pc = some (.imul, ops)) : Wp scr d k pc ls (.int y :: .int x :: st) H Q ↔ Wp scr d k (pc + 1) ls (.int (x * y) :: st) H Q := Wp_b ha rfl rfl rfl
theorem Wp_iand {x y : Int32} (ha : acode k pc = some (.iand, ops)) : Wp scr d k pc ls (.int y :: .int x :: st) H Q ↔ Wp scr d k (pc + 1) ls (.int (x &&& y) :: st) H Q := Wp_b ha rfl rfl rfl
theorem Wp_ior {x y : Int32} (ha : acode k pc = some (.ior, ops)) : Wp scr d k pc ls (.int y :: .int x :: st) H Q ↔ Wp scr d k (pc + 1) ls (.int (x ||| y) :: st) H Q := Wp_b ha rfl rfl rfl
theorem Wp_ixor {x y : Int32} (ha : acode k pc = some (.ixor, ops)) : Wp scr d k pc ls (.int y :: .int x :: st) H Q ↔ Wp scr d k (pc + 1) ls (.int (x ^^^ y) :: st) H Q := Wp_b ha rfl rfl rfl
theorem Wp_ishl {x y : Int32} (ha : acode k pc = some (.ishl, ops)) : Wp scr d k pc ls (.int y :: .int x :: st) H Q ↔ Wp scr d k (pc + 1) ls (.int (x <<< (y &&& 31)) :: st) H Q := Wp_b ha rfl rfl rfl
theorem Wp_ishr {x y : Int32} (ha : acode k pc = some (.ishr, ops)) : Wp scr d k pc ls (.int y :: .int x :: st) H Q ↔ Wp scr d k (pc + 1) ls (.int (x >>> (y &&& 31)) :: st) H Q := Wp_b ha rfl rfl rfl
theorem Wp_iushr {x y : Int32} (ha : acode k pc = some (.iushr, ops)) : Wp scr d k pc ls (.int y :: .int x :: st) H Q ↔ Wp scr d k (pc + 1) ls (.int ((x.toUInt32 >>> (y.toUInt32 &&& Int32.toUInt32 31)).toInt32) :: st) H Q := Wp_b ha rfl rfl rfl
theorem Wp_ladd {x y : Int64} (ha : acode k pc = some (.ladd, ops)) : Wp scr d k pc ls (.long y :: .long x :: st) H Q ↔ Wp scr d k (pc + 1) ls (.long (x + y) :: st) H Q := Wp_b ha rfl rfl rfl
theorem Wp_lmul {x y : Int64} (ha : acode k pc = some (.lmul, ops)) : Wp scr d k pc ls (.long y :: .long x :: st) H Q ↔ Wp scr d k (pc + 1) ls (.long (x * y) :: st) H Q := Wp_b ha rfl rfl rfl
theorem Wp_lcmp {x y : Int64} (ha : acode k pc = some (.lcmp, ops)) : Wp scr d k pc ls (.long y :: .long x :: st) H Q ↔ Wp scr d k (pc + 1) ls (.int (lg_cmp x y) :: st) H Q := Wp_b ha rfl rfl rfl
theorem Wp_idiv {x y : Int32} (ha : acode k pc = some (.idiv, ops)) : Wp scr d k pc ls (.int y :: .int x :: st) H Q ↔ ¬ y = 0 ∧ Wp scr d k (pc + 1) ls (.int (x / y) :: st) H Q := by
  by_cases h : y = 0
  · refine (Wp_b (o := none) ha rfl rfl (by simp [bstep, h])).trans ?_
    simp [oK, h]
  · refine (Wp_b (o := some (pc + 1, ls, .int (x / y) :: st, H)) ha rfl rfl (by simp [bstep, h])).trans ?_
    simp [oK, h]
theorem Wp_irem {x y : Int32} (ha : acode k pc = some (.irem, ops)) : Wp scr d k pc ls (.int y :: .int x :: st) H Q ↔ ¬ y = 0 ∧ Wp scr d k (pc + 1) ls (.int (x - x / y * y) :: st) H Q := by
  by_cases h : y = 0
  · refine (Wp_b (o := none) ha rfl rfl (by simp [bstep, h])).trans ?_
    simp [oK, h]
  · refine (Wp_b (o := some (pc + 1, ls, .int (x - x / y * y) :: st, H)) ha rfl rfl (by simp [bstep, h])).trans ?_
    simp [oK, h]
theorem Wp_ldiv {x y : Int64} (ha : acode k pc = some (.ldiv, ops)) : Wp scr d k pc ls (.long y :: .long x :: st) H Q ↔ ¬ y = 0 ∧ Wp scr d k (pc + 1) ls (.long (x / y) :: st) H Q := by
  by_cases h : y = 0
  · refine (Wp_b (o := none) ha rfl rfl (by simp [bstep, h])).trans ?_
    simp [oK, h]
  · refine (Wp_b (o := some (pc + 1, ls, .long (x / y) :: st, H)) ha rfl rfl (by simp [bstep, h])).trans ?_
    simp [oK, h]
theorem Wp_lrem {x y : Int64} (ha : acode k pc = some (.lrem, ops)) : Wp scr d k pc ls (.long y :: .long x :: st) H Q ↔ ¬ y = 0 ∧ Wp scr d k (pc + 1) ls (.long (x - x / y * y) :: st) H Q := by
  by_cases h : y = 0
  · refine (Wp_b (o := none) ha rfl rfl (by simp [bstep, h])).trans ?_
    simp [oK, h]
  · refine (Wp_b (o := some (pc + 1, ls, .long (x - x / y * y) :: st, H)) ha rfl rfl (by simp [bstep, h])).trans ?_
    simp [oK, h]
theorem Wp_ineg {x : Int32} (ha : acode k pc = some (.ineg, ops)) : Wp scr d k pc ls (.int x :: st) H Q ↔ Wp scr d k (pc + 1) ls (.int (-x) :: st) H Q := Wp_b ha rfl rfl rfl
theorem Wp_i2l {x : Int32} (ha : acode k pc = some (.i2l, ops)) : Wp scr d k pc ls (.int x :: st) H Q ↔ Wp scr d k (pc + 1) ls (.long (x.toInt64) :: st) H Q := Wp_b ha rfl rfl rfl
theorem Wp_i2c {x : Int32} (ha : acode k pc = some (.i2c, ops)) : Wp scr d k pc ls (.int x :: st) H Q ↔ Wp scr d k (pc + 1) ls (.int ((x.toUInt32 % 65536).toInt32) :: st) H Q := Wp_b ha rfl rfl rfl
theorem Wp_iconst {n : Int} {v : Int32} (ha : acode k pc = some (.iconst n, ops)) (hv : Int32.ofInt n = v) : Wp scr d k pc ls (st) H Q ↔ Wp scr d k (pc + 1) ls (.int v :: st) H Q := by subst hv; exact Wp_b ha rfl rfl rfl
theorem Wp_bipush {n : Int} {v : Int32} (ha : acode k pc = some (.bipush n, ops)) (hv : (Int8.ofInt n).toInt32 = v) : Wp scr d k pc ls (st) H Q ↔ Wp scr d k (pc + 2) ls (.int v :: st) H Q := by subst hv; exact Wp_b ha rfl rfl rfl
theorem Wp_sipush {n : Int} {v : Int32} (ha : acode k pc = some (.sipush n, ops)) (hv : (Int16.ofInt n).toInt32 = v) : Wp scr d k pc ls (st) H Q ↔ Wp scr d k (pc + 3) ls (.int v :: st) H Q := by subst hv; exact Wp_b ha rfl rfl rfl
theorem Wp_lconst {n : Fin 2} {v : Int64} (ha : acode k pc = some (.lconst n, ops)) (hv : Int64.ofNat n = v) : Wp scr d k pc ls (st) H Q ↔ Wp scr d k (pc + 1) ls (.long v :: st) H Q := by subst hv; exact Wp_b ha rfl rfl rfl
theorem Wp_ldcs {n j w : Nat} (ha : acode k pc = some (.ldc n, [0, j, w])) : Wp scr d k pc ls (st) H Q ↔ Wp scr d k (pc + 2) ls (.retAddr j :: st) H Q := Wp_b ha rfl rfl rfl
theorem Wp_ldci {n v w : Nat} {x : Int32} (ha : acode k pc = some (.ldc n, [1, v, w])) (hv : Int32.ofNat v = x) : Wp scr d k pc ls (st) H Q ↔ Wp scr d k (pc + 2) ls (.int x :: st) H Q := by subst hv; exact Wp_b ha rfl rfl rfl
theorem Wp_ldcw {n v w : Nat} {x : Int32} (ha : acode k pc = some (.ldc_w n, [v, w])) (hv : Int32.ofNat v = x) : Wp scr d k pc ls (st) H Q ↔ Wp scr d k (pc + 3) ls (.int x :: st) H Q := by subst hv; exact Wp_b ha rfl rfl rfl
theorem Wp_ldc2p {n v w : Nat} {x : Int64} (ha : acode k pc = some (.ldc2_w n, [0, v, w])) (hv : Int64.ofNat v = x) : Wp scr d k pc ls (st) H Q ↔ Wp scr d k (pc + 3) ls (.long x :: st) H Q := by subst hv; exact Wp_b ha rfl rfl rfl
theorem Wp_ldc2n {n v w : Nat} {x : Int64} (ha : acode k pc = some (.ldc2_w n, [1, v, w])) (hv : -(Int64.ofNat v) = x) : Wp scr d k pc ls (st) H Q ↔ Wp scr d k (pc + 3) ls (.long x :: st) H Q := by subst hv; exact Wp_b ha rfl rfl rfl
theorem Wp_getsi {n v w : Nat} {x : Int32} (ha : acode k pc = some (.getstatic n, [0, v, w])) (hv : Int32.ofNat v = x) : Wp scr d k pc ls (st) H Q ↔ Wp scr d k (pc + 3) ls (.int x :: st) H Q := by subst hv; exact Wp_b ha rfl rfl rfl
theorem Wp_getsr {n j w : Nat} (ha : acode k pc = some (.getstatic n, [1, j, w])) : Wp scr d k pc ls (st) H Q ↔ Wp scr d k (pc + 3) ls (.retAddr j :: st) H Q := Wp_b ha rfl rfl rfl
theorem Wp_iload_n {n : Fin 4} {x : Int32} (ha : acode k pc = some (.iload_n n, ops)) (hl : lgt ls n = some (.int x)) : Wp scr d k pc ls (st) H Q ↔ Wp scr d k (pc + 1) ls (.int x :: st) H Q := Wp_b (o := some (pc + 1, ls, .int x :: st, H)) ha rfl rfl (by simp only [bstep, hl])
theorem Wp_iload {n : Nat} {x : Int32} (ha : acode k pc = some (.iload n, ops)) (hl : lgt ls n = some (.int x)) : Wp scr d k pc ls (st) H Q ↔ Wp scr d k (pc + 2) ls (.int x :: st) H Q := Wp_b (o := some (pc + 2, ls, .int x :: st, H)) ha rfl rfl (by simp only [bstep, hl])
theorem Wp_lload_n {n : Fin 4} {x : Int64} (ha : acode k pc = some (.lload_n n, ops)) (hl : lgt ls n = some (.long x)) : Wp scr d k pc ls (st) H Q ↔ Wp scr d k (pc + 1) ls (.long x :: st) H Q := Wp_b (o := some (pc + 1, ls, .long x :: st, H)) ha rfl rfl (by simp only [bstep, hl])
theorem Wp_lload {n : Nat} {x : Int64} (ha : acode k pc = some (.lload n, ops)) (hl : lgt ls n = some (.long x)) : Wp scr d k pc ls (st) H Q ↔ Wp scr d k (pc + 2) ls (.long x :: st) H Q := Wp_b (o := some (pc + 2, ls, .long x :: st, H)) ha rfl rfl (by simp only [bstep, hl])
theorem Wp_aload_n {n : Fin 4} {x : Nat} (ha : acode k pc = some (.aload_n n, ops)) (hl : lgt ls n = some (.ref x)) : Wp scr d k pc ls (st) H Q ↔ Wp scr d k (pc + 1) ls (.ref x :: st) H Q := Wp_b (o := some (pc + 1, ls, .ref x :: st, H)) ha rfl rfl (by simp only [bstep, hl])
theorem Wp_aload_s {n : Fin 4} {x : Nat} (ha : acode k pc = some (.aload_n n, ops)) (hl : lgt ls n = some (.retAddr x)) : Wp scr d k pc ls (st) H Q ↔ (x < 200 ∨ x = 1000) ∧ Wp scr d k (pc + 1) ls (.retAddr x :: st) H Q := by
  by_cases h : x < 200 ∨ x = 1000
  · refine (Wp_b (o := some (pc + 1, ls, .retAddr x :: st, H)) ha rfl rfl (by simp [bstep, hl, h])).trans ?_
    simp [oK, h]
  · refine (Wp_b (o := none) ha rfl rfl (by simp [bstep, hl, h])).trans ?_
    simp [oK, h]
theorem Wp_istore_n {n : Fin 4} {x : Int32} {ls2 : ALs} (ha : acode k pc = some (.istore_n n, ops)) (hn : (n : Nat) < ls.length) (hl : lst1 ls n (.int x) = ls2) : Wp scr d k pc ls (.int x :: st) H Q ↔ Wp scr d k (pc + 1) ls2 st H Q := by subst hl; exact Wp_b (o := some (pc + 1, lst1 ls n (.int x), st, H)) ha rfl rfl (by simp only [bstep, hn, if_true])
theorem Wp_istore {n : Nat} {x : Int32} {ls2 : ALs} (ha : acode k pc = some (.istore n, ops)) (hn : (n : Nat) < ls.length) (hl : lst1 ls n (.int x) = ls2) : Wp scr d k pc ls (.int x :: st) H Q ↔ Wp scr d k (pc + 2) ls2 st H Q := by subst hl; exact Wp_b (o := some (pc + 2, lst1 ls n (.int x), st, H)) ha rfl rfl (by simp only [bstep, hn, if_true])
theorem Wp_astore_n {n : Fin 4} {x : Nat} {ls2 : ALs} (ha : acode k pc = some (.astore_n n, ops)) (hn : (n : Nat) < ls.length) (hl : lst1 ls n (.ref x) = ls2) : Wp scr d k pc ls (.ref x :: st) H Q ↔ Wp scr d k (pc + 1) ls2 st H Q := by subst hl; exact Wp_b (o := some (pc + 1, lst1 ls n (.ref x), st, H)) ha rfl rfl (by simp only [bstep, hn, if_true])
theorem Wp_lstore_n {n : Fin 4} {x : Int64} {ls2 : ALs} (ha : acode k pc = some (.lstore_n n, ops)) (hn : (n : Nat) + 1 < ls.length) (hl : lst2 ls n (.long x) = ls2) : Wp scr d k pc ls (.long x :: st) H Q ↔ Wp scr d k (pc + 1) ls2 st H Q := by subst hl; exact Wp_b (o := some (pc + 1, lst2 ls n (.long x), st, H)) ha rfl rfl (by simp only [bstep, hn, if_true])
theorem Wp_lstore {n : Nat} {x : Int64} {ls2 : ALs} (ha : acode k pc = some (.lstore n, ops)) (hn : (n : Nat) + 1 < ls.length) (hl : lst2 ls n (.long x) = ls2) : Wp scr d k pc ls (.long x :: st) H Q ↔ Wp scr d k (pc + 2) ls2 st H Q := by subst hl; exact Wp_b (o := some (pc + 2, lst2 ls n (.long x), st, H)) ha rfl rfl (by simp only [bstep, hn, if_true])
theorem Wp_iinc {n : Nat} {c : Int} {x v : Int32} {ls2 : ALs} (ha : acode k pc = some (.iinc n c, ops)) (hg : lgt ls n = some (.int x)) (hn : n < ls.length) (hv : Int32.ofInt c = v) (hl : lst1 ls n (.int (x + v)) = ls2) : Wp scr d k pc ls (st) H Q ↔ Wp scr d k (pc + 3) ls2 st H Q := by subst hl; subst hv; exact Wp_b (o := some (pc + 3, lst1 ls n (.int (x + Int32.ofInt c)), st, H)) ha rfl rfl (by simp only [bstep, hg, hn, if_true])
theorem Wp_dup {v : Value} (ha : acode k pc = some (.dup, ops)) (hv : v.category = 1) : Wp scr d k pc ls (v :: st) H Q ↔ Wp scr d k (pc + 1) ls (v :: v :: st) H Q := Wp_b (o := some (pc + 1, ls, v :: v :: st, H)) ha rfl rfl (by simp only [bstep, hv, if_true])
theorem Wp_dup2 {v w : Value} (ha : acode k pc = some (.dup2, ops)) (hv : v.category = 1) (hw : w.category = 1) : Wp scr d k pc ls (v :: w :: st) H Q ↔ Wp scr d k (pc + 1) ls (v :: w :: v :: w :: st) H Q := Wp_b (o := some (pc + 1, ls, v :: w :: v :: w :: st, H)) ha rfl rfl (by simp only [bstep, hv, hw, and_self, if_true])
theorem Wp_pop {v : Value} (ha : acode k pc = some (.pop, ops)) (hv : v.category = 1) : Wp scr d k pc ls (v :: st) H Q ↔ Wp scr d k (pc + 1) ls st H Q := Wp_b (o := some (pc + 1, ls, st, H)) ha rfl rfl (by simp only [bstep, hv, if_true])
theorem Wp_getf {n a ci f : Nat} {r : List Nat} (ha : acode k pc = some (.getfield n, ci :: f :: r)) : Wp scr d k pc ls (.ref a :: st) H Q ↔ oK (gfl H a ci f) (fun v => Wp scr d k (pc + 3) ls (v :: st) H Q) := by
  cases h : gfl H a ci f with
  | none => exact (Wp_b (o := none) ha rfl rfl (by simp only [bstep, h])).trans Iff.rfl
  | some v => exact (Wp_b (o := some (pc + 3, ls, v :: st, H)) ha rfl rfl (by simp only [bstep, h])).trans Iff.rfl
theorem Wp_getsv {n j : Nat} {r : List Nat} (ha : acode k pc = some (.getfield n, 200 :: 0 :: r)) (hj : j < 19) : Wp scr d k pc ls (.retAddr j :: st) H Q ↔ Wp scr d k (pc + 3) ls (.retAddr (100 + j) :: st) H Q :=
  Wp_b (o := some (pc + 3, ls, .retAddr (100 + j) :: st, H)) ha rfl rfl (by simp [bstep, hj])
theorem Wp_getsc {n j : Nat} {r : List Nat} (ha : acode k pc = some (.getfield n, 200 :: 1 :: r)) (hj : j < 19) : Wp scr d k pc ls (.retAddr j :: st) H Q ↔ Wp scr d k (pc + 3) ls (.int 0 :: st) H Q :=
  Wp_b (o := some (pc + 3, ls, .int 0 :: st, H)) ha rfl rfl (by simp [bstep, hj])
theorem Wp_putf {n a ci f : Nat} {r : List Nat} {v : Value} (ha : acode k pc = some (.putfield n, ci :: f :: r)) : Wp scr d k pc ls (v :: .ref a :: st) H Q ↔ (gfl H a ci f).isSome = true ∧ fok (fty ci f) v = true ∧ Wp scr d k (pc + 3) ls st (hpf H a f v) Q := by
  cases h : gfl H a ci f with
  | none => exact (Wp_b (o := none) ha rfl rfl (by simp only [bstep, h])).trans (by simp [oK])
  | some u =>
    by_cases hf : fok (fty ci f) v = true
    · exact (Wp_b (o := some (pc + 3, ls, st, hpf H a f v)) ha rfl rfl (by simp only [bstep, h, hf, if_true])).trans (by simp [oK, hf])
    · exact (Wp_b (o := none) ha rfl rfl (by simp only [bstep, h, hf, if_false]; rfl)).trans (by simp [oK, hf])
theorem Wp_iaload {a : Nat} {j : Int32} (ha : acode k pc = some (.iaload, ops)) : Wp scr d k pc ls (.int j :: .ref a :: st) H Q ↔ oK (garr H a) (fun xs => inb j xs.length = true ∧ Wp scr d k (pc + 1) ls (.int (xs.getD j.toNatClampNeg 0) :: st) H Q) := by
  cases h : garr H a with
  | none => exact (Wp_b (o := none) ha rfl rfl (by simp only [bstep, h])).trans Iff.rfl
  | some xs =>
    by_cases hi : inb j xs.length = true
    · exact (Wp_b (o := some (pc + 1, ls, .int (xs.getD j.toNatClampNeg 0) :: st, H)) ha rfl rfl (by simp only [bstep, h, hi, if_true])).trans (by simp [oK, hi])
    · exact (Wp_b (o := none) ha rfl rfl (by simp only [bstep, h, hi, if_false]; rfl)).trans (by simp [oK, hi])
theorem Wp_ialoadS {j : Int32} (ha : acode 0 pc = some (.iaload, ops)) : Wp scr d 0 pc ls (.int j :: .retAddr 1000 :: st) H Q ↔ inb j scr.length = true ∧ Wp scr d 0 (pc + 1) ls (.int (scr.getD j.toNatClampNeg 0) :: st) H Q := by
  by_cases hi : inb j scr.length = true
  · exact (Wp_b (o := some (pc + 1, ls, .int (scr.getD j.toNatClampNeg 0) :: st, H)) ha rfl rfl (by simp [bstep, hi])).trans (by simp [oK, hi])
  · exact (Wp_b (o := none) ha rfl rfl (by simp [bstep, hi])).trans (by simp [oK, hi])
theorem Wp_alenS (ha : acode 0 pc = some (.arraylength, ops)) : Wp scr d 0 pc ls (.retAddr 1000 :: st) H Q ↔ Wp scr d 0 (pc + 1) ls (.int (Int32.ofNat scr.length) :: st) H Q :=
  Wp_b (o := some (pc + 1, ls, .int (Int32.ofNat scr.length) :: st, H)) ha rfl rfl (by simp [bstep])
theorem Wp_alenB {b : Nat} (ha : acode k pc = some (.arraylength, ops)) (h1 : 100 ≤ b) (h2 : b < 119) : Wp scr d k pc ls (.retAddr b :: st) H Q ↔ Wp scr d k (pc + 1) ls (.int (Int32.ofNat (bytS.getD (b - 100) []).length) :: st) H Q :=
  Wp_b (o := some (pc + 1, ls, .int (Int32.ofNat (bytS.getD (b - 100) []).length) :: st, H)) ha rfl rfl (by simp [bstep, h1, h2, show b ≠ 1000 by omega])
theorem Wp_baload {b : Nat} {j : Int32} (ha : acode k pc = some (.baload, ops)) (h1 : 100 ≤ b) (h2 : b < 119) : Wp scr d k pc ls (.int j :: .retAddr b :: st) H Q ↔ inb j (bytS.getD (b - 100) []).length = true ∧ Wp scr d k (pc + 1) ls (.int ((bytS.getD (b - 100) []).getD j.toNatClampNeg 0) :: st) H Q := by
  by_cases hi : inb j (bytS.getD (b - 100) []).length = true
  · exact (Wp_b (o := some (pc + 1, ls, .int ((bytS.getD (b - 100) []).getD j.toNatClampNeg 0) :: st, H)) ha rfl rfl (by simp only [bstep, h1, h2, hi, and_self, if_true])).trans ⟨fun q => ⟨hi, q⟩, fun q => q.2⟩
  · exact (Wp_b (o := none) ha rfl rfl (by simp only [bstep, h1, h2, hi, true_and, if_false]; rfl)).trans ⟨fun q => q.elim, fun q => absurd q.1 hi⟩
theorem Wp_iastore {a : Nat} {j x : Int32} (ha : acode k pc = some (.iastore, ops)) : Wp scr d k pc ls (.int x :: .int j :: .ref a :: st) H Q ↔ oK (garr H a) (fun xs => inb j xs.length = true ∧ Wp scr d k (pc + 1) ls st (hpa H a (xs.set j.toNatClampNeg x)) Q) := by
  cases h : garr H a with
  | none => exact (Wp_b (o := none) ha rfl rfl (by simp only [bstep, h])).trans Iff.rfl
  | some xs =>
    by_cases hi : inb j xs.length = true
    · exact (Wp_b (o := some (pc + 1, ls, st, hpa H a (xs.set j.toNatClampNeg x))) ha rfl rfl (by simp only [bstep, h, hi, if_true])).trans (by simp [oK, hi])
    · exact (Wp_b (o := none) ha rfl rfl (by simp only [bstep, h, hi, if_false]; rfl)).trans (by simp [oK, hi])
theorem Wp_laload {a : Nat} {j : Int32} (ha : acode k pc = some (.laload, ops)) : Wp scr d k pc ls (.int j :: .ref a :: st) H Q ↔ oK (garl H a) (fun xs => inb j xs.length = true ∧ Wp scr d k (pc + 1) ls (.long (xs.getD j.toNatClampNeg 0) :: st) H Q) := by
  cases h : garl H a with
  | none => exact (Wp_b (o := none) ha rfl rfl (by simp only [bstep, h])).trans Iff.rfl
  | some xs =>
    by_cases hi : inb j xs.length = true
    · exact (Wp_b (o := some (pc + 1, ls, .long (xs.getD j.toNatClampNeg 0) :: st, H)) ha rfl rfl (by simp only [bstep, h, hi, if_true])).trans (by simp [oK, hi])
    · exact (Wp_b (o := none) ha rfl rfl (by simp only [bstep, h, hi, if_false]; rfl)).trans (by simp [oK, hi])
theorem Wp_alen {a : Nat} (ha : acode k pc = some (.arraylength, ops)) : Wp scr d k pc ls (.ref a :: st) H Q ↔ oK (garr H a) (fun xs => Wp scr d k (pc + 1) ls (.int (Int32.ofNat xs.length) :: st) H Q) := by
  cases h : garr H a with
  | none => exact (Wp_b (o := none) ha rfl rfl (by simp only [bstep, h])).trans Iff.rfl
  | some xs => exact (Wp_b (o := some (pc + 1, ls, .int (Int32.ofNat xs.length) :: st, H)) ha rfl rfl (by simp only [bstep, h])).trans Iff.rfl
theorem jto_of {pc t : Nat} {o : Int} {ls : ALs} {st : List Value} {H : List AC} (ht : (pc : Int) + o = (t : Int)) : jto pc o ls st H = some (t, ls, st, H) := by
  unfold jto
  rw [ht, if_pos (Int.natCast_nonneg t), Int.toNat_natCast]
theorem Wp_goto {t : Nat} {o : Int} (ha : acode k pc = some (.goto o, ops)) (ht : (pc : Int) + o = (t : Int)) : Wp scr d k pc ls (st) H Q ↔ Wp scr d k t ls st H Q := Wp_b (o := some (t, ls, st, H)) ha rfl rfl (by simp only [bstep, jto_of ht])
theorem Wp_ifCond_eq {x : Int32} {t : Nat} {o : Int} (ha : acode k pc = some (.ifCond .eq o, ops)) (ht : (pc : Int) + o = (t : Int)) : Wp scr d k pc ls (.int x :: st) H Q ↔ (x = 0 → Wp scr d k t ls st H Q) ∧ (¬ (x = 0) → Wp scr d k (pc + 3) ls st H Q) := by
  by_cases h : x = 0
  · exact (Wp_b (o := some (t, ls, st, H)) ha rfl rfl (by simp only [bstep]; rw [if_pos h]; exact jto_of ht)).trans ⟨fun q => ⟨fun _ => q, fun z => absurd h z⟩, fun q => q.1 h⟩
  · exact (Wp_b (o := some (pc + 3, ls, st, H)) ha rfl rfl (by simp only [bstep]; rw [if_neg h])).trans ⟨fun q => ⟨fun z => absurd z h, fun _ => q⟩, fun q => q.2 h⟩
theorem Wp_if_icmp_eq {x y : Int32} {t : Nat} {o : Int} (ha : acode k pc = some (.if_icmp .eq o, ops)) (ht : (pc : Int) + o = (t : Int)) : Wp scr d k pc ls (.int y :: .int x :: st) H Q ↔ (x = y → Wp scr d k t ls st H Q) ∧ (¬ (x = y) → Wp scr d k (pc + 3) ls st H Q) := by
  by_cases h : x = y
  · exact (Wp_b (o := some (t, ls, st, H)) ha rfl rfl (by simp only [bstep]; rw [if_pos h]; exact jto_of ht)).trans ⟨fun q => ⟨fun _ => q, fun z => absurd h z⟩, fun q => q.1 h⟩
  · exact (Wp_b (o := some (pc + 3, ls, st, H)) ha rfl rfl (by simp only [bstep]; rw [if_neg h])).trans ⟨fun q => ⟨fun z => absurd z h, fun _ => q⟩, fun q => q.2 h⟩
theorem Wp_ifCond_ne {x : Int32} {t : Nat} {o : Int} (ha : acode k pc = some (.ifCond .ne o, ops)) (ht : (pc : Int) + o = (t : Int)) : Wp scr d k pc ls (.int x :: st) H Q ↔ (¬ x = 0 → Wp scr d k t ls st H Q) ∧ (¬ (¬ x = 0) → Wp scr d k (pc + 3) ls st H Q) := by
  by_cases h : ¬ x = 0
  · exact (Wp_b (o := some (t, ls, st, H)) ha rfl rfl (by simp only [bstep]; rw [if_pos h]; exact jto_of ht)).trans ⟨fun q => ⟨fun _ => q, fun z => absurd h z⟩, fun q => q.1 h⟩
  · exact (Wp_b (o := some (pc + 3, ls, st, H)) ha rfl rfl (by simp only [bstep]; rw [if_neg h])).trans ⟨fun q => ⟨fun z => absurd z h, fun _ => q⟩, fun q => q.2 h⟩
theorem Wp_if_icmp_ne {x y : Int32} {t : Nat} {o : Int} (ha : acode k pc = some (.if_icmp .ne o, ops)) (ht : (pc : Int) + o = (t : Int)) : Wp scr d k pc ls (.int y :: .int x :: st) H Q ↔ (¬ x = y → Wp scr d k t ls st H Q) ∧ (¬ (¬ x = y) → Wp scr d k (pc + 3) ls st H Q) := by
  by_cases h : ¬ x = y
  · exact (Wp_b (o := some (t, ls, st, H)) ha rfl rfl (by simp only [bstep]; rw [if_pos h]; exact jto_of ht)).trans ⟨fun q => ⟨fun _ => q, fun z => absurd h z⟩, fun q => q.1 h⟩
  · exact (Wp_b (o := some (pc + 3, ls, st, H)) ha rfl rfl (by simp only [bstep]; rw [if_neg h])).trans ⟨fun q => ⟨fun z => absurd z h, fun _ => q⟩, fun q => q.2 h⟩
theorem Wp_ifCond_lt {x : Int32} {t : Nat} {o : Int} (ha : acode k pc = some (.ifCond .lt o, ops)) (ht : (pc : Int) + o = (t : Int)) : Wp scr d k pc ls (.int x :: st) H Q ↔ (x < 0 → Wp scr d k t ls st H Q) ∧ (¬ (x < 0) → Wp scr d k (pc + 3) ls st H Q) := by
  by_cases h : x < 0
  · exact (Wp_b (o := some (t, ls, st, H)) ha rfl rfl (by simp only [bstep]; rw [if_pos h]; exact jto_of ht)).trans ⟨fun q => ⟨fun _ => q, fun z => absurd h z⟩, fun q => q.1 h⟩
  · exact (Wp_b (o := some (pc + 3, ls, st, H)) ha rfl rfl (by simp only [bstep]; rw [if_neg h])).trans ⟨fun q => ⟨fun z => absurd z h, fun _ => q⟩, fun q => q.2 h⟩
theorem Wp_if_icmp_lt {x y : Int32} {t : Nat} {o : Int} (ha : acode k pc = some (.if_icmp .lt o, ops)) (ht : (pc : Int) + o = (t : Int)) : Wp scr d k pc ls (.int y :: .int x :: st) H Q ↔ (x < y → Wp scr d k t ls st H Q) ∧ (¬ (x < y) → Wp scr d k (pc + 3) ls st H Q) := by
  by_cases h : x < y
  · exact (Wp_b (o := some (t, ls, st, H)) ha rfl rfl (by simp only [bstep]; rw [if_pos h]; exact jto_of ht)).trans ⟨fun q => ⟨fun _ => q, fun z => absurd h z⟩, fun q => q.1 h⟩
  · exact (Wp_b (o := some (pc + 3, ls, st, H)) ha rfl rfl (by simp only [bstep]; rw [if_neg h])).trans ⟨fun q => ⟨fun z => absurd z h, fun _ => q⟩, fun q => q.2 h⟩
theorem Wp_ifCond_ge {x : Int32} {t : Nat} {o : Int} (ha : acode k pc = some (.ifCond .ge o, ops)) (ht : (pc : Int) + o = (t : Int)) : Wp scr d k pc ls (.int x :: st) H Q ↔ (0 ≤ x → Wp scr d k t ls st H Q) ∧ (¬ (0 ≤ x) → Wp scr d k (pc + 3) ls st H Q) := by
  by_cases h : 0 ≤ x
  · exact (Wp_b (o := some (t, ls, st, H)) ha rfl rfl (by simp only [bstep]; rw [if_pos h]; exact jto_of ht)).trans ⟨fun q => ⟨fun _ => q, fun z => absurd h z⟩, fun q => q.1 h⟩
  · exact (Wp_b (o := some (pc + 3, ls, st, H)) ha rfl rfl (by simp only [bstep]; rw [if_neg h])).trans ⟨fun q => ⟨fun z => absurd z h, fun _ => q⟩, fun q => q.2 h⟩
theorem Wp_if_icmp_ge {x y : Int32} {t : Nat} {o : Int} (ha : acode k pc = some (.if_icmp .ge o, ops)) (ht : (pc : Int) + o = (t : Int)) : Wp scr d k pc ls (.int y :: .int x :: st) H Q ↔ (y ≤ x → Wp scr d k t ls st H Q) ∧ (¬ (y ≤ x) → Wp scr d k (pc + 3) ls st H Q) := by
  by_cases h : y ≤ x
  · exact (Wp_b (o := some (t, ls, st, H)) ha rfl rfl (by simp only [bstep]; rw [if_pos h]; exact jto_of ht)).trans ⟨fun q => ⟨fun _ => q, fun z => absurd h z⟩, fun q => q.1 h⟩
  · exact (Wp_b (o := some (pc + 3, ls, st, H)) ha rfl rfl (by simp only [bstep]; rw [if_neg h])).trans ⟨fun q => ⟨fun z => absurd z h, fun _ => q⟩, fun q => q.2 h⟩
theorem Wp_ifCond_gt {x : Int32} {t : Nat} {o : Int} (ha : acode k pc = some (.ifCond .gt o, ops)) (ht : (pc : Int) + o = (t : Int)) : Wp scr d k pc ls (.int x :: st) H Q ↔ (0 < x → Wp scr d k t ls st H Q) ∧ (¬ (0 < x) → Wp scr d k (pc + 3) ls st H Q) := by
  by_cases h : 0 < x
  · exact (Wp_b (o := some (t, ls, st, H)) ha rfl rfl (by simp only [bstep]; rw [if_pos h]; exact jto_of ht)).trans ⟨fun q => ⟨fun _ => q, fun z => absurd h z⟩, fun q => q.1 h⟩
  · exact (Wp_b (o := some (pc + 3, ls, st, H)) ha rfl rfl (by simp only [bstep]; rw [if_neg h])).trans ⟨fun q => ⟨fun z => absurd z h, fun _ => q⟩, fun q => q.2 h⟩
theorem Wp_if_icmp_gt {x y : Int32} {t : Nat} {o : Int} (ha : acode k pc = some (.if_icmp .gt o, ops)) (ht : (pc : Int) + o = (t : Int)) : Wp scr d k pc ls (.int y :: .int x :: st) H Q ↔ (y < x → Wp scr d k t ls st H Q) ∧ (¬ (y < x) → Wp scr d k (pc + 3) ls st H Q) := by
  by_cases h : y < x
  · exact (Wp_b (o := some (t, ls, st, H)) ha rfl rfl (by simp only [bstep]; rw [if_pos h]; exact jto_of ht)).trans ⟨fun q => ⟨fun _ => q, fun z => absurd h z⟩, fun q => q.1 h⟩
  · exact (Wp_b (o := some (pc + 3, ls, st, H)) ha rfl rfl (by simp only [bstep]; rw [if_neg h])).trans ⟨fun q => ⟨fun z => absurd z h, fun _ => q⟩, fun q => q.2 h⟩
theorem Wp_ifCond_le {x : Int32} {t : Nat} {o : Int} (ha : acode k pc = some (.ifCond .le o, ops)) (ht : (pc : Int) + o = (t : Int)) : Wp scr d k pc ls (.int x :: st) H Q ↔ (x ≤ 0 → Wp scr d k t ls st H Q) ∧ (¬ (x ≤ 0) → Wp scr d k (pc + 3) ls st H Q) := by
  by_cases h : x ≤ 0
  · exact (Wp_b (o := some (t, ls, st, H)) ha rfl rfl (by simp only [bstep]; rw [if_pos h]; exact jto_of ht)).trans ⟨fun q => ⟨fun _ => q, fun z => absurd h z⟩, fun q => q.1 h⟩
  · exact (Wp_b (o := some (pc + 3, ls, st, H)) ha rfl rfl (by simp only [bstep]; rw [if_neg h])).trans ⟨fun q => ⟨fun z => absurd z h, fun _ => q⟩, fun q => q.2 h⟩
theorem Wp_if_icmp_le {x y : Int32} {t : Nat} {o : Int} (ha : acode k pc = some (.if_icmp .le o, ops)) (ht : (pc : Int) + o = (t : Int)) : Wp scr d k pc ls (.int y :: .int x :: st) H Q ↔ (x ≤ y → Wp scr d k t ls st H Q) ∧ (¬ (x ≤ y) → Wp scr d k (pc + 3) ls st H Q) := by
  by_cases h : x ≤ y
  · exact (Wp_b (o := some (t, ls, st, H)) ha rfl rfl (by simp only [bstep]; rw [if_pos h]; exact jto_of ht)).trans ⟨fun q => ⟨fun _ => q, fun z => absurd h z⟩, fun q => q.1 h⟩
  · exact (Wp_b (o := some (pc + 3, ls, st, H)) ha rfl rfl (by simp only [bstep]; rw [if_neg h])).trans ⟨fun q => ⟨fun z => absurd z h, fun _ => q⟩, fun q => q.2 h⟩
theorem Wp_tswO {x : Int32} {dd lo hi : Int} {offs : Array Int} {t : Nat} (ha : acode k pc = some (.tableswitch dd lo hi offs, ops)) (h : x.toInt < lo ∨ hi < x.toInt) (ht : (pc : Int) + dd = (t : Int)) : Wp scr d k pc ls (.int x :: st) H Q ↔ Wp scr d k t ls st H Q :=
  Wp_b (o := some (t, ls, st, H)) ha rfl rfl (by simp only [bstep]; rw [if_pos h]; exact jto_of ht)
theorem Wp_tswI {x : Int32} {dd lo hi : Int} {offs : Array Int} {t : Nat} {o : Int} (ha : acode k pc = some (.tableswitch dd lo hi offs, ops)) (h : ¬ (x.toInt < lo ∨ hi < x.toInt)) (ho : offs[(x.toInt - lo).toNat]? = some o) (ht : (pc : Int) + o = (t : Int)) : Wp scr d k pc ls (.int x :: st) H Q ↔ Wp scr d k t ls st H Q :=
  Wp_b (o := some (t, ls, st, H)) ha rfl rfl (by simp only [bstep]; rw [if_neg h]; simp only [ho]; exact jto_of ht)
theorem Wp_lsw {x : Int32} {dd : Int} {ps : Array (Int × Int)} {t : Nat} {o : Int} (ha : acode k pc = some (.lookupswitch dd ps, ops)) (hp : (ps.toList.zip (ps.toList.drop 1)).all (fun (a, next) => a.1 < next.1) = true) (ho : Op.lookupswitch.offset ps.toList dd x.toInt = o) (ht : (pc : Int) + o = (t : Int)) : Wp scr d k pc ls (.int x :: st) H Q ↔ Wp scr d k t ls st H Q :=
  Wp_b (o := some (t, ls, st, H)) ha rfl rfl (by simp only [bstep]; rw [if_pos hp, ho]; exact jto_of ht)
theorem Wp_iret {v : Int32} {ty : FieldType} (ha : acode k pc = some (.ireturn, ops)) (hm : mRet k = some ty) (hn : narrow ty (.int v) = .int v) : Wp scr d k pc ls [.int v] H Q ↔ Q (some (.int v)) H :=
  Wp_r (r := (some (.int v), H)) ha (by simp only [rstep, hm, hn, if_true])
theorem Wp_zret {v : Int32} (ha : acode k pc = some (.ireturn, ops)) (hm : mRet k = some .boolean) (hn : v = 0 ∨ v = 1) : Wp scr d k pc ls [.int v] H Q ↔ Q (some (.int v)) H :=
  Wp_iret ha hm (by rcases hn with rfl | rfl <;> rfl)
theorem Wp_lret {v : Int64} (ha : acode k pc = some (.lreturn, ops)) (hm : mRet k = some .long) : Wp scr d k pc ls [.long v] H Q ↔ Q (some (.long v)) H :=
  Wp_r (r := (some (.long v), H)) ha (by simp only [rstep, hm, if_true])
theorem Wp_vret (ha : acode k pc = some (.return_, ops)) (hm : mRet k = none) : Wp scr d k pc ls [] H Q ↔ Q none H :=
  Wp_r (r := (none, H)) ha (by simp only [rstep, hm, if_true])
/-- a call of a method of an object -/
theorem Wp_virt {n j na w x ci si a : Nat} {As st0 : List Value} {en : ALs} (ha : acode k pc = some (.invokevirtual n, [1, j, na, w, x, ci, si])) (hs : st0 = As ++ .ref a :: st) (hn : As.length + 1 = na) (he : ent (mMax j) (.ref a :: As.reverse) = en) (hl : en.length = mMax j) (hk : csum st ≤ 8) : Wp scr (d + 1) k pc ls st0 H Q ↔ rcv H (some (.ref a)) ci = true ∧ Wp scr d j 0 en [] H (cont scr (d + 1) k (pc + 3) ls st 1 H Q) := by
  subst hs; subst hn; subst he
  refine (Wp_c ha rfl rfl (by decide)).trans ?_
  have e1 : (As ++ Value.ref a :: st).drop (As.length + 1) = st := by simp [List.drop_append]
  have e2 : ((As ++ Value.ref a :: st).take (As.length + 1)).reverse = .ref a :: As.reverse := by simp [List.take_append, List.take_of_length_le (Nat.le_succ As.length)]
  have e3 : (As ++ Value.ref a :: st)[As.length + 1 - 1]? = some (.ref a) := by simp
  rw [e1, e2]
  have e4 : cok 1 (As.length + 1) ci (mMax j) ls (As ++ Value.ref a :: st) H = rcv H (some (.ref a)) ci := by
    simp only [cok, e1, e2, e3, hk, hl]
    simp
  rw [e4]
/-- a call of a method of a string -/
theorem Wp_virtS {n j na w x si b : Nat} {As st0 : List Value} {en : ALs} (ha : acode k pc = some (.invokevirtual n, [1, j, na, w, x, 200, si])) (hs : st0 = As ++ .retAddr b :: st) (hn : As.length + 1 = na) (he : ent (mMax j) (.retAddr b :: As.reverse) = en) (hl : en.length = mMax j) (hk : csum st ≤ 8) : Wp scr (d + 1) k pc ls st0 H Q ↔ b < 19 ∧ Wp scr d j 0 en [] H (cont scr (d + 1) k (pc + 3) ls st 1 H Q) := by
  subst hs; subst hn; subst he
  refine (Wp_c ha rfl rfl (by decide)).trans ?_
  have e1 : (As ++ Value.retAddr b :: st).drop (As.length + 1) = st := by simp [List.drop_append]
  have e2 : ((As ++ Value.retAddr b :: st).take (As.length + 1)).reverse = .retAddr b :: As.reverse := by simp [List.take_append, List.take_of_length_le (Nat.le_succ As.length)]
  have e3 : (As ++ Value.retAddr b :: st)[As.length + 1 - 1]? = some (.retAddr b) := by simp
  rw [e1, e2]
  have e4 : cok 1 (As.length + 1) 200 (mMax j) ls (As ++ Value.retAddr b :: st) H = decide (b < 19) := by
    simp only [cok, e1, e2, e3, hk, hl, rcv]
    simp
  rw [e4]
  simp
/-- a call of a static method -/
theorem Wp_stat {n j na w x : Nat} {As st0 : List Value} {en : ALs} (ha : acode k pc = some (.invokestatic n, [2, j, na, w, x])) (hs : st0 = As ++ st) (hn : As.length = na) (he : ent (mMax j) As.reverse = en) (hl : en.length = mMax j) (hk : csum st ≤ 8) : Wp scr (d + 1) k pc ls st0 H Q ↔ Wp scr d j 0 en [] H (cont scr (d + 1) k (pc + 3) ls st 2 H Q) := by
  subst hs; subst hn; subst he
  refine (Wp_c ha rfl rfl (by decide)).trans ?_
  have e1 : (As ++ st).drop As.length = st := by simp
  have e2 : ((As ++ st).take As.length).reverse = As.reverse := by simp
  rw [e1, e2]
  have e4 : cok 2 As.length 0 (mMax j) ls (As ++ st) H = true := by
    simp only [cok, e1, e2, hk, hl]
    simp
  rw [e4]
  simp
end KINDS
