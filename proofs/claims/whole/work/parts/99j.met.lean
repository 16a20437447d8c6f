/-! ===== calls; whole runs ===== -/
theorem bmono {scr : List Int32} {k pc : Nat} {i : Instr} {ops : List Nat} {ls : ALs} {st : List Value} {H : List AC} {cf : Cf} (h : bstep scr k pc i ops ls st H = some cf) : H.length ≤ cf.2.2.2.length ∧ hsz H ≤ hsz cf.2.2.2 := by
  have key : cf.2.2.2 = H ∨ (∃ a f v ci, (gfl H a ci f).isSome = true ∧ cf.2.2.2 = hpf H a f v) ∨ (∃ a xs j x, garr H a = some xs ∧ cf.2.2.2 = hpa H a (xs.set j x)) ∨ ∃ c, cf.2.2.2 = H ++ [c] := by
    have jt : ∀ {o : Int} {ls : ALs} {st : List Value}, jto pc o ls st H = some cf → cf.2.2.2 = H := by
      intro o ls st h
      unfold jto at h
      split at h
      · cases h; rfl
      · cases h
    cases i
    case ifCond cc z => cases cc <;> (simp only [bstep] at h; split at h <;> first | (cases h; done) | (split at h <;> first | exact Or.inl (jt h) | (cases h; exact Or.inl rfl)))
    case if_icmp cc z => cases cc <;> (simp only [bstep] at h; split at h <;> first | (cases h; done) | (split at h <;> first | exact Or.inl (jt h) | (cases h; exact Or.inl rfl)))
    case goto => simp only [bstep] at h; exact Or.inl (jt h)
    case tableswitch =>
      simp only [bstep] at h
      split at h
      · split at h
        · exact Or.inl (jt h)
        · split at h
          · exact Or.inl (jt h)
          · cases h
      · cases h
    case lookupswitch =>
      simp only [bstep] at h
      split at h
      · split at h
        · exact Or.inl (jt h)
        · cases h
      · cases h
    case putfield =>
      simp only [bstep] at h
      split at h
      · rename_i v a r ci f tl
        split at h
        · rename_i v0 hv
          split at h
          · cases h; exact Or.inr (Or.inl ⟨a, f, v, ci, by rw [hv]; rfl, rfl⟩)
          · cases h
        · cases h
      · cases h
    case iastore =>
      simp only [bstep] at h
      split at h
      · rename_i x j a r
        split at h
        · rename_i xs hxs
          split at h
          · cases h; exact Or.inr (Or.inr (Or.inl ⟨a, xs, j.toNatClampNeg, x, hxs, rfl⟩))
          · cases h
        · cases h
      · cases h
    case newarray ty =>
      simp only [bstep] at h
      split at h
      · split at h
        · cases h
        · split at h
          · cases h; exact Or.inr (Or.inr (Or.inr ⟨_, rfl⟩))
          · cases h; exact Or.inr (Or.inr (Or.inr ⟨_, rfl⟩))
          · cases h
      · cases h
    case new =>
      simp only [bstep] at h
      split at h
      · split at h
        · cases h; exact Or.inr (Or.inr (Or.inr ⟨_, rfl⟩))
        · cases h
      · cases h
    all_goals first
      | (simp [bstep] at h; done)
      | (simp only [bstep] at h; cases h; exact Or.inl rfl)
      | (simp only [bstep] at h; split at h <;> first | (cases h; done) | (cases h; exact Or.inl rfl) | (split at h <;> first | (cases h; done) | (cases h; exact Or.inl rfl) | (split at h <;> first | (cases h; done) | (cases h; exact Or.inl rfl) | (split at h <;> first | (cases h; done) | (cases h; exact Or.inl rfl)))))
  rcases key with e | ⟨a, f, v, ci, hg, e⟩ | ⟨a, xs, j, x, hg, e⟩ | ⟨c, e⟩
  · rw [e]; exact ⟨Nat.le_refl _, Nat.le_refl _⟩
  · rw [e, hpf_length]
    refine ⟨Nat.le_refl _, ?_⟩
    obtain ⟨u, hu⟩ := Option.isSome_iff_exists.mp hg
    obtain ⟨fs, h1, -⟩ := gfl_spec hu
    rw [hpf_eq h1, hsz_set (c := .inl (ci, fs.set f v)) h1 rfl]
    exact Nat.le_refl _
  · rw [e, hpa_length]
    refine ⟨Nat.le_refl _, ?_⟩
    have h1 := garr_spec hg
    rw [hpa_eq h1, hsz_set h1 (by simp [csz])]
    exact Nat.le_refl _
  · rw [e, hsz_push, List.length_append]
    exact ⟨Nat.le_add_right _ _, Nat.le_add_right _ _⟩
theorem rmono {k : Nat} {i : Instr} {ops : List Nat} {st : List Value} {H : List AC} {r : Option Value × List AC} (h : rstep k i ops st H = some r) : H.length ≤ r.2.length ∧ hsz H ≤ hsz r.2 := by
  unfold rstep at h
  split at h
  · split at h
    · split at h
      · split at h
        · cases h; exact ⟨Nat.le_refl _, Nat.le_refl _⟩
        · cases h
      · cases h
    · cases h
  · split at h
    · split at h
      · cases h; exact ⟨Nat.le_refl _, Nat.le_refl _⟩
      · cases h
    · cases h
  · split at h
    · split at h
      · cases h; exact ⟨Nat.le_refl _, Nat.le_refl _⟩
      · cases h
    · cases h
  · split at h
    · split at h
      · cases h
        rw [hsz_push, List.length_append]
        exact ⟨Nat.le_add_right _ _, Nat.le_add_right _ _⟩
      · cases h
    · cases h
  · cases h
theorem runmono {scr : List Int32} : ∀ n d k pc ls st H r, run scr n d k pc ls st H = some r → H.length ≤ r.2.length ∧ hsz H ≤ hsz r.2 := by
  intro n
  induction n with
  | zero => intro d k pc ls st H r h; simp [run] at h
  | succ n ih =>
    intro d k pc ls st H r h
    rw [run] at h
    split at h
    · cases h
    · split at h
      · rename_i hr
        cases h
        exact rmono hr
      · split at h
        · split at h
          · cases h
          · split at h
            · split at h
              · split at h
                · split at h
                  · cases h
                  · split at h
                    · rename_i hq
                      have h1 := ih _ _ _ _ _ _ _ hq
                      have h2 := ih _ _ _ _ _ _ _ h
                      exact ⟨Nat.le_trans h1.1 h2.1, Nat.le_trans h1.2 h2.2⟩
                    · rename_i hq
                      split at h
                      · rename_i hg
                        have h1 := ih _ _ _ _ _ _ _ hq
                        have h2 := ih _ _ _ _ _ _ _ h
                        rw [hpl_length] at h2
                        have h3 := garl_spec hg
                        rw [hpl_eq h3, hsz_set h3 (by simp [csz])] at h2
                        exact ⟨Nat.le_trans h1.1 h2.1, Nat.le_trans h1.2 h2.2⟩
                      · cases h
                    · cases h
                · cases h
              · cases h
            · split at h
              · split at h
                · rename_i hq
                  split at h
                  · have h1 := ih _ _ _ _ _ _ _ hq
                    have h2 := ih _ _ _ _ _ _ _ h
                    exact ⟨Nat.le_trans h1.1 h2.1, Nat.le_trans h1.2 h2.2⟩
                  · cases h
                · cases h
              · cases h
        · split at h
          · rename_i hb
            have h1 := bmono hb
            have h2 := ih _ _ _ _ _ _ _ h
            exact ⟨Nat.le_trans h1.1 h2.1, Nat.le_trans h1.2 h2.2⟩
          · cases h
def wsMM (k : Nat) : List Cond := .code (mNm k) (mCd k) (mMax k) (mRet k) :: TBL
theorem goodT {ws : List Cond} (h : ∀ w ∈ ws, w ∈ TBL) : GoodIn TBL ws := fun w hw => ⟨h w hw, good_of_word (List.mem_filter.mp (h w hw)).2⟩
def rmM (d mc ms : Nat) : Room := { frames := d + 21, cells := mc, slots := ms, locals := 60 * d + 100 }
def PcM (D : va_G) (cI cL : ClassId) (skA : Nat → Nat) (v9 : Value) (ad : List Nat) (AH : List AC) (As : List Value) (sz : Nat) : Array Value → State → Prop := va_Pc (As.map (cv skA v9 ad)) (fun U => U.heap.size = sz ∧ va_P D vwC (wsA cI cL skA v9 ad AH) U.heap ∧ va_D (fun _ => True) (wsA cI cL skA v9 ad AH) ∧ Wd D cI cL U ∧ Sd skA v9 (va_A (wsA cI cL skA v9 ad AH) sz) U U.heap)
def QcM (D : va_G) (cI cL : ClassId) (skA : Nat → Nat) (v9 : Value) (ad : List Nat) (AH : List AC) (sz : Nat) (r : Option Value) (AH' : List AC) : Array Value → State → Outcome → State → Prop := fun _ st oc t => (∃ ad', ad <+: ad' ∧ ad'.length = AH'.length ∧ oc = .returned (r.map (cv skA v9 ad')) ∧ va_P D vwC (wsA cI cL skA v9 ad' AH') t.heap ∧ va_D (va_A (wsA cI cL skA v9 ad AH) sz) (wsA cI cL skA v9 ad' AH')) ∧ va_F (va_A (wsA cI cL skA v9 ad AH) sz) st t
/-- a method's contract, by a run of the abstract machine -/
def MetM (l : Launch) (D : va_G) (cI cL : ClassId) (skA : Nat → Nat) (v9 : Value) (k d : Nat) (As : List Value) (AH : List AC) (r : Option Value) (AH' : List AC) : Prop :=
  ∀ (ad : List Nat) (sz : Nat), ad.length = AH.length → Met l (mNm k) (wsMM k) (rmM d (AH'.length - AH.length) (hsz AH' - hsz AH)) (PcM D cI cL skA v9 ad AH As sz) (QcM D cI cL skA v9 ad AH sz r AH') (AH'.length - AH.length) (hsz AH' - hsz AH) (va_A (wsA cI cL skA v9 ad AH) sz)
theorem PcM_blind {D : va_G} {cI cL : ClassId} {skA : Nat → Nat} {v9 : Value} {ad : List Nat} {AH : List AC} {As : List Value} {sz : Nat} : FrameBlind (PcM D cI cL skA v9 ad AH As sz) := fun a U g mk q => by
  obtain ⟨q0, q1, qP, qD, qW, qS⟩ := q
  exact ⟨q0, q1, qP, qD, Wd.same (s := U) (U := U.calling g mk a) rfl qW, Sd.same (s := U) (U := U.calling g mk a) rfl qS⟩
section CALL
variable {l : Launch} {scr : List Int32} {D : va_G} {cI cL : ClassId} {skA : Nat → Nat} {v9 : Value}
variable {p : Program} {e : Env} {R : Room} {s : State} {m : MethodId} {args : Array Value} {below : List Frame} {meth : Method} {c : Code} {A : Nat → Prop} {H : Heap} {locs : List Loc} {cells slots : Nat} {Q : State → Prop} {k pc : Nat} {lsC : Array Jvm.Slot} {ad : List Nat} {AH AH' : List AC} {r : Option Value} {a : Array Value} {st0 rest : List Value}
theorem va_callM (hr : va_Run p l e R s m args below meth c H locs cells slots (AH'.length - AH.length) (hsz AH' - hsz AH) (F0 m pc lsC st0) rest (QcM D cI cL skA v9 ad AH H.size r AH' a) (va_A (wsA cI cL skA v9 ad AH) H.size)) (hS : va_S A s.heap H locs) (hf : ∀ q, va_A (wsA cI cL skA v9 ad AH) H.size q → A q)
    (kk : ∀ (ad' : List Nat) (H1 : Heap) (locs1 : List Loc), ad <+: ad' → Rl A D cI cL skA v9 ad' AH' s H1 locs1 → W p l e R s m args below meth c H1 locs1 (cells + (AH'.length - AH.length)) (slots + (hsz AH' - hsz AH)) Q (F0 m (pc + 3) lsC ((r.map (cv skA v9 ad')).toList ++ rest))) : W p l e R s m args below meth c H locs cells slots Q (F0 m pc lsC st0) := by
  intro T hT X
  obtain ⟨v, st₀, t, T', L, h0, X', hL, e1, e2, ⟨⟨ad', hpre, hlen, hv, hP, hD⟩, hz, hk⟩, st⟩ := hr T hT X
  cases hv
  rw [h0] at hz hk
  obtain ⟨t2, a1, b1⟩ := kk ad' T'.heap (locs ++ L) hpre ⟨hlen, by rw [e1]; exact hP, hD.weaken (fun _ _ _ h => hf _ h), Nat.le_trans hS.1 (by rw [e1]; exact hz), fun q h1 h2 => by rw [e1, hk q (Nat.lt_of_lt_of_le h1 hS.1) (fun z => h2 (hf q z))]; exact hS.2.1 q h1 h2, fun q hq => by
      rcases List.mem_append.mp hq with h | h
      · exact hS.2.2 q h
      · exact hf _ (hL q h)⟩ T' rfl X'
  exact ⟨t2, st t2 a1, b1⟩
theorem rl_free (hR : Rl A D cI cL skA v9 ad AH s H locs) (hA : ∀ q, s.heap.size ≤ q → A q) : ∀ q, va_A (wsA cI cL skA v9 ad AH) H.size q → A q := by
  intro q h
  rcases h with ⟨j, ve, h⟩ | h
  · exact hR.2.2.1.2 j _ h
  · exact hA q (Nat.le_trans hR.2.2.2.1 h)
theorem PcM_of (hR : Rl A D cI cL skA v9 ad AH s H locs) (hA : ∀ q, s.heap.size ≤ q → A q) (hWd : Wd D cI cL s) (hSd : Sd skA v9 A s s.heap) {As : List Value} : ∀ U : State, U.heap = H → s.WarmedH U.vm → PcM D cI cL skA v9 ad AH As H.size (As.map (cv skA v9 ad)).toArray U := by
  intro U hU hW
  refine ⟨rfl, by rw [hU], by rw [hU]; exact hR.2.1, hR.2.2.1.weaken (fun _ _ _ _ => trivial), hWd.warm hW, ?_⟩
  rw [hU]
  exact hSd.warm hW (fun a h1 h2 => hR.2.2.2.2.1 a h1 h2) (rl_free hR hA)
/-- the words of a callee -/
theorem mo_spec {j : Nat} (h0 : 0 < j) (h1 : j < 315) : (Cond.code (mNm j) (mCd j) (mMax j) (mRet j)) ∈ TBL ∧ (if mSt j = true then Cond.static (mNm j) else Cond.instanceMethod (mNm j)) ∈ TBL ∧ Cond.initialized (mNm j).cls ∈ TBL ∧ (plainName (mNm j).cls = true ∨ j = 306 ∨ j = 307) ∧ (mNm j).cls ≠ "java/lang/invoke/MethodHandle" ∧ (mNm j).cls ≠ "java/lang/invoke/VarHandle" ∧ (parseMethodDescriptor (mNm j).desc).map (fun d => d.parameters.length) = some (if mSt j = true then mNa j else mNa j - 1) ∧ mMax j ≤ 40 ∧ (mSt j = true ∨ 0 < mNa j) := by
  have h := mo_all h0 h1
  have hc := cw_all h0 h1
  unfold mOK at h
  unfold mSt mNa
  cases hw : mW[j]? with
  | none => simp [hw] at h
  | some x =>
    obtain ⟨w1, w2, w3, st, na⟩ := x
    simp only [hw, Bool.and_eq_true, Bool.or_eq_true, decide_eq_true_eq, beq_iff_eq] at h ⊢
    obtain ⟨⟨⟨⟨⟨⟨⟨h2, h3⟩, h4⟩, h5⟩, h6⟩, h7⟩, h8⟩, h9⟩ := h
    refine ⟨?_, inT_mem h2, inT_mem h3, by rcases h4 with (h4 | h4) | h4 <;> simp [h4], h5, h6, h7, h8, h9⟩
    exact List.mem_filter.mpr ⟨wlk_mem hc, rfl⟩
theorem wsMM_in {j : Nat} (h0 : 0 < j) (h1 : j < 315) : ∀ w ∈ wsMM j, w ∈ TBL := by
  intro w hw
  rcases List.mem_cons.mp hw with h | h
  · rw [h]; exact (mo_spec h0 h1).1
  · exact h
end CALL
