theorem cinfo_spec {i : Instr} {ops : List Nat} {kind j na ci : Nat} (h : cinfo i ops = some (kind, j, na, ci)) : (∃ n w x si, i = .invokevirtual n ∧ ops = [1, j, na, w, x, ci, si] ∧ kind = 1) ∨ (∃ n w x, i = .invokestatic n ∧ ops = [2, j, na, w, x] ∧ kind = 2) ∨ (∃ n w x, i = .invokestatic n ∧ ops = [3, j, na, w, x] ∧ kind = 3) ∨ (∃ n w x, i = .invokespecial n ∧ ops = [0, j, na, w, x] ∧ kind = 0) := by
  unfold cinfo at h
  split at h
  · rename_i n
    split at h
    · rename_i j' na' w x ci' si
      cases h
      exact Or.inl ⟨n, w, x, si, rfl, rfl, rfl⟩
    · cases h
  · rename_i n
    split at h
    · rename_i j' na' w x
      cases h
      exact Or.inr (Or.inl ⟨n, w, x, rfl, rfl, rfl⟩)
    · rename_i j' na' w x
      cases h
      exact Or.inr (Or.inr (Or.inl ⟨n, w, x, rfl, rfl, rfl⟩))
    · cases h
  · rename_i n
    split at h
    · rename_i j' na' w x
      cases h
      exact Or.inr (Or.inr (Or.inr ⟨n, w, x, rfl, rfl, rfl⟩))
    · cases h
  · cases h
theorem max_run {scr : List Int32} {n d : Nat} {v w : Value} {H H' : List AC} {r : Option Value} (h : run scr n d 306 0 (ent (mMax 306) [v, w]) [] H = some (r, H')) : ∃ x y, v = .int x ∧ w = .int y ∧ r = some (.int (if x < y then y else x)) ∧ H' = H := by
  have hW : Wp scr d 306 0 (ent (mMax 306) [v, w]) [] H (fun r1 H1 => r1 = r ∧ H1 = H') := ⟨n, r, H', h, rfl, rfl⟩
  rw [mx306] at hW
  have hv : ∃ x, v = .int x := by
    cases v
    case int => exact ⟨_, rfl⟩
    all_goals exact ((Wp_b (o := none) a306_0 rfl rfl (by simp [bstep, ent, lgt, Value.category])).mp hW).elim
  obtain ⟨x, rfl⟩ := hv
  have e1 : ent 2 [.int x, w] = some (.int x) :: ent 1 [w] := rfl
  rw [e1] at hW
  have hW := (Wp_b (o := some (1, some (.int x) :: ent 1 [w], [.int x], H)) a306_0 rfl rfl (by simp [bstep, lgt])).mp hW
  have hW : Wp scr d 306 1 (some (.int x) :: ent 1 [w]) [.int x] H (fun r1 H1 => r1 = r ∧ H1 = H') := hW
  have hw : ∃ y, w = .int y := by
    cases w
    case int => exact ⟨_, rfl⟩
    all_goals exact ((Wp_b (o := none) a306_1 rfl rfl (by simp [bstep, ent, lgt, Value.category])).mp hW).elim
  obtain ⟨y, rfl⟩ := hw
  have e2 : (some (.int x) :: ent 1 [.int y] : ALs) = [some (.int x), some (.int y)] := rfl
  rw [e2] at hW
  simp only [w306_1, w306_2, w306_5, w306_6, w306_9, w306_10] at hW
  refine ⟨x, y, rfl, rfl, ?_⟩
  by_cases hxy : x < y
  · have := hW.1 hxy
    rw [if_pos hxy]
    exact ⟨this.1.symm, this.2.symm⟩
  · have := hW.2 hxy
    rw [if_neg hxy]
    exact ⟨this.1.symm, this.2.symm⟩
theorem min_run {scr : List Int32} {n d : Nat} {v w : Value} {H H' : List AC} {r : Option Value} (h : run scr n d 307 0 (ent (mMax 307) [v, w]) [] H = some (r, H')) : ∃ x y, v = .int x ∧ w = .int y ∧ r = some (.int (if y < x then y else x)) ∧ H' = H := by
  have hW : Wp scr d 307 0 (ent (mMax 307) [v, w]) [] H (fun r1 H1 => r1 = r ∧ H1 = H') := ⟨n, r, H', h, rfl, rfl⟩
  rw [mx307] at hW
  have hv : ∃ x, v = .int x := by
    cases v
    case int => exact ⟨_, rfl⟩
    all_goals exact ((Wp_b (o := none) a307_0 rfl rfl (by simp [bstep, ent, lgt, Value.category])).mp hW).elim
  obtain ⟨x, rfl⟩ := hv
  have e1 : ent 2 [.int x, w] = some (.int x) :: ent 1 [w] := rfl
  rw [e1] at hW
  have hW := (Wp_b (o := some (1, some (.int x) :: ent 1 [w], [.int x], H)) a307_0 rfl rfl (by simp [bstep, lgt])).mp hW
  have hW : Wp scr d 307 1 (some (.int x) :: ent 1 [w]) [.int x] H (fun r1 H1 => r1 = r ∧ H1 = H') := hW
  have hw : ∃ y, w = .int y := by
    cases w
    case int => exact ⟨_, rfl⟩
    all_goals exact ((Wp_b (o := none) a307_1 rfl rfl (by simp [bstep, ent, lgt, Value.category])).mp hW).elim
  obtain ⟨y, rfl⟩ := hw
  have e2 : (some (.int x) :: ent 1 [.int y] : ALs) = [some (.int x), some (.int y)] := rfl
  rw [e2] at hW
  simp only [w307_1, w307_2, w307_5, w307_6, w307_9, w307_10] at hW
  refine ⟨x, y, rfl, rfl, ?_⟩
  by_cases hxy : y < x
  · have := hW.1 hxy
    rw [if_pos hxy]
    exact ⟨this.1.symm, this.2.symm⟩
  · have := hW.2 hxy
    rw [if_neg hxy]
    exact ⟨this.1.symm, this.2.symm⟩
/-- the law's call of its own led -/
def C3 (l : Launch) (scr : List Int32) (D : va_G) (cI cL : ClassId) (skA : Nat → Nat) (v9 : Value) : Prop :=
  ∀ n, SIM l scr D cI cL skA v9 n → ∀ (d x o : Nat) (p0 : Int32) (AH : List AC) (r1 : Option Value) (AH1 : List AC), run scr n d 180 0 (ent (mMax 180) [.ref x, .int p0]) [] AH = some (r1, AH1) → ∀ (rv : Int32) (AH2 : List AC), (r1 = some .null ∧ rv = 1 ∧ AH2 = AH1) ∨ (∃ v u, r1 = some (.int v) ∧ garl AH1 o = some [u] ∧ rv = 0 ∧ AH2 = hpl AH1 o [v.toInt64]) →
  ∀ (p : Program) (e : Env) (R : Room) (s : State) (m : MethodId) (args : Array Value) (below : List Frame) (meth : Method) (c : Code) (A : Nat → Prop) (H : Heap) (locs : List Loc) (cells slots : Nat) (Q : State → Prop) (ad : List Nat) (lsC : Array Jvm.Slot) (k pc nn j na w x' : Nat) (rest : List Value),
    Cx scr k p s m args meth c A D cI cL skA v9 → acode k pc = some (.invokestatic nn, [3, j, na, w, x']) → Rl A D cI cL skA v9 ad AH s H locs → lsC.size = mMax k → csum rest ≤ 8 → sok AH.length [.ref o, .int p0, .ref x] = true → d + 23 ≤ R.frames → 60 * d + 220 ≤ R.locals → cells + (AH2.length - AH.length) ≤ R.cells → slots + (hsz AH2 - hsz AH) ≤ R.slots →
    (∀ (ad' : List Nat) (H1 : Heap) (locs1 : List Loc), ad <+: ad' → Rl A D cI cL skA v9 ad' AH2 s H1 locs1 → W p l e R s m args below meth c H1 locs1 (cells + (AH2.length - AH.length)) (slots + (hsz AH2 - hsz AH)) Q (F0 m (pc + 3) lsC (.int rv :: rest.map (cv skA v9 ad)))) →
    W p l e R s m args below meth c H locs cells slots Q (F0 m pc lsC ((.ref o :: .int p0 :: .ref x :: rest).map (cv skA v9 ad)))
theorem mmax_eq : Lib.Math.max.name = mNm 306 ∧ Cond.code Lib.Math.max.name Lib.Math.max.code 2 (some .int) ∈ TBL ∧ Lib.Math.min.name = mNm 307 ∧ Cond.code Lib.Math.min.name Lib.Math.min.code 2 (some .int) ∈ TBL := by
  refine ⟨by decide +kernel, ?_, by decide +kernel, ?_⟩
  · have h := (mo_spec (j := 306) (by decide) (by decide)).1
    have e : Cond.code (mNm 306) (mCd 306) (mMax 306) (mRet 306) = Cond.code Lib.Math.max.name Lib.Math.max.code 2 (some .int) := by decide +kernel
    rw [e] at h
    exact h
  · have h := (mo_spec (j := 307) (by decide) (by decide)).1
    have e : Cond.code (mNm 307) (mCd 307) (mMax 307) (mRet 307) = Cond.code Lib.Math.min.name Lib.Math.min.code 2 (some .int) := by decide +kernel
    rw [e] at h
    exact h
theorem tk_split {α : Type} {st : List α} {q : Nat} (h : q + 1 ≤ st.length) : ∃ pre v post, st = pre ++ v :: post ∧ pre.length = q ∧ st.drop (q + 1) = post ∧ (st.take (q + 1)).reverse = v :: pre.reverse ∧ st[q + 1 - 1]? = some v := by
  have hq : q < st.length := by omega
  have e : st = st.take q ++ st[q] :: st.drop (q + 1) := by
    rw [← List.drop_eq_getElem_cons hq, List.take_append_drop]
  refine ⟨st.take q, st[q], st.drop (q + 1), e, by rw [List.length_take]; omega, rfl, ?_, ?_⟩
  · rw [List.take_succ_eq_append_getElem hq]
    simp
  · simp [hq]
theorem toL {skA : Nat → Nat} {v9 : Value} {ad : List Nat} {r : Option Value} {post : List Value} : (r.map (cv skA v9 ad)).toList ++ post.map (cv skA v9 ad) = (r.toList ++ post).map (cv skA v9 ad) := by
  cases r <;> simp
set_option maxHeartbeats 2000000 in
theorem sim_all {l : Launch} {scr : List Int32} {D : va_G} {cI cL : ClassId} {skA : Nat → Nat} {v9 : Value} (c3 : C3 l scr D cI cL skA v9) : ∀ n, SIM l scr D cI cL skA v9 n := by
  intro n
  induction n with
  | zero => intro d k pc ls st AH r AH' hrun; simp [run] at hrun
  | succ n ih =>
    intro d k pc ls st AH r AH' hrun p e R s m args below meth c A H locs cells slots Q ad lsC cx hR hL hf1 hf2 hc1 hc2 fin
    rw [run] at hrun
    cases ha : acode k pc with
    | none => simp [ha] at hrun
    | some q =>
      obtain ⟨i, ops⟩ := q
      simp only [ha] at hrun
      cases hr : rstep k i ops st AH with
      | some r' =>
        simp only [hr] at hrun
        cases hrun
        have h := fin ad H locs lsC pc st AH i ops (List.prefix_refl _) (Nat.le_refl _) (Nat.le_refl _) hR ha hr hL.2.1
        simp only [Nat.sub_self, Nat.add_zero] at h
        exact h
      | none =>
        simp only [hr] at hrun
        -- on from a later state
        have on : ∀ (d2 pc2 : Nat) (ls2 : ALs) (st2 : List Value) (AH2 : List AC), d2 ≤ d → run scr n d2 k pc2 ls2 st2 AH2 = some (r, AH') → AH.length ≤ AH2.length → hsz AH ≤ hsz AH2 → ∀ (ad2 : List Nat) (H2 : Heap) (locs2 : List Loc) (lsC2 : Array Jvm.Slot), ad <+: ad2 → Rl A D cI cL skA v9 ad2 AH2 s H2 locs2 → LR skA v9 ad2 ls2 lsC2 (mMax k) → W p l e R s m args below meth c H2 locs2 (cells + (AH2.length - AH.length)) (slots + (hsz AH2 - hsz AH)) Q (F0 m pc2 lsC2 (st2.map (cv skA v9 ad2))) := by
          intro d2 pc2 ls2 st2 AH2 hd2 hrun2 hm1 hm2 ad2 H2 locs2 lsC2 hp2 hR2 hL2
          have hm3 := runmono _ _ _ _ _ _ _ _ hrun2
          simp only at hm3
          refine ih d2 k pc2 ls2 st2 AH2 r AH' hrun2 p e R s m args below meth c A H2 locs2 (cells + (AH2.length - AH.length)) (slots + (hsz AH2 - hsz AH)) Q ad2 lsC2 cx hR2 hL2 (by omega) (by omega) (by omega) (by omega) ?_
          intro ad3 H3 locs3 lsC3 pc3 st3 AH3 i3 ops3 hp3 hle1 hle2 hR3 ha3 hr3 hs3
          have h := fin ad3 H3 locs3 lsC3 pc3 st3 AH3 i3 ops3 (hp2.trans hp3) (by omega) (by omega) hR3 ha3 hr3 hs3
          rw [show cells + (AH2.length - AH.length) + (AH3.length - AH2.length) = cells + (AH3.length - AH.length) by omega, show slots + (hsz AH2 - hsz AH) + (hsz AH3 - hsz AH2) = slots + (hsz AH3 - hsz AH) by omega]
          exact h
        cases hc : cinfo i ops with
        | none =>
          simp only [hc] at hrun
          cases hb : bstep scr k pc i ops ls st AH with
          | none => simp [hb] at hrun
          | some cf =>
            obtain ⟨pc1, ls1, st1, AH1⟩ := cf
            simp only [hb] at hrun
            have hm1 := bmono hb
            have hm2 := runmono _ _ _ _ _ _ _ _ hrun
            simp only at hm1 hm2
            obtain ⟨len, hd, hln, -⟩ := acode_spec ha
            refine bs_all i p e R s m args below meth c A H locs cells slots Q k pc len ops ls st AH ad lsC (pc1, ls1, st1, AH1) cx hd hln (acode_chk ha) hb hR hL (by show cells + (AH1.length - AH.length) ≤ _; omega) (by show slots + (hsz AH1 - hsz AH) ≤ _; omega) (by omega) (by omega) ?_
            intro ad1 H1 locs1 lsC1 hp1 hR1 hL1
            exact on d _ _ _ _ (Nat.le_refl _) hrun hm1.1 hm1.2 ad1 H1 locs1 lsC1 hp1 hR1 hL1
        | some q =>
          obtain ⟨kind, j, na, ci⟩ := q
          simp only [hc] at hrun
          cases d with
          | zero => simp at hrun
          | succ d =>
            simp only at hrun
            obtain ⟨len, hd, hln, -⟩ := acode_spec ha
            have hck := acode_chk ha
            rcases cinfo_spec hc with ⟨nn, w, x, si, rfl, rfl, rfl⟩ | ⟨nn, w, x, rfl, rfl, rfl⟩ | ⟨nn, w, x, rfl, rfl, rfl⟩ | ⟨nn, w, x, rfl, rfl, rfl⟩
            · -- a virtual call
              have hlen : len = 3 := by simpa [lenOk] using hln
              subst hlen
              have hck := hck (by simp)
              have hx0 : x = 0 := by
                have h2 := hck
                simp only [chkI, Bool.and_eq_true, decide_eq_true_eq] at h2
                exact h2.1.1.1.2
              subst hx0
              have hjj : 0 < j ∧ j < 315 := by
                have h2 := hck
                simp only [chkI, Bool.and_eq_true, decide_eq_true_eq] at h2
                exact ⟨h2.1.1.1.1.1.1.1, h2.1.1.1.1.1.1.2⟩
              simp only [show ¬ (1 = 3) by decide, if_false] at hrun
              split at hrun
              · rename_i hk
                simp only [cok, Bool.and_eq_true, decide_eq_true_eq] at hk
                obtain ⟨⟨⟨hk1, hk2⟩, hk3⟩, hk4, hk5⟩ := hk
                obtain ⟨q, rfl⟩ : ∃ q, na = q + 1 := ⟨na - 1, by omega⟩
                obtain ⟨pre, v0, post, hst, hpl, hdr, htk, hv0⟩ := tk_split hk1
                rw [hdr] at hk2 hrun
                rw [htk] at hk3 hrun
                rw [hv0] at hk5
                split at hrun
                · rename_i r1 AH1 hq
                  split at hrun
                  · rename_i hz
                    have hm1 := runmono _ _ _ _ _ _ _ _ hq
                    have hm2 := runmono _ _ _ _ _ _ _ _ hrun
                    simp only at hm1 hm2
                    have hle : AH1.length = AH.length := by rcases hz.2 with h | h; exact absurd h (by decide); exact h
                    have hpn : plainName (mNm j).cls = true := by
                      have h2 := hck
                      simp only [chkI, Bool.and_eq_true, decide_eq_true_eq, Bool.not_eq_true'] at h2
                      have h3 := h2.1.1.1.1.2
                      rcases (mo_spec hjj.1 hjj.2).2.2.2.1 with h | h | h
                      · exact h
                      · subst h; exact absurd h3 (by decide +kernel)
                      · subst h; exact absurd h3 (by decide +kernel)
                    rw [hst]
                    refine call_virt cx hd hck (met_of_sim ih hq hz.1 hk3 hjj.1 hjj.2 hpn) hR hL.2.1 (by omega) hk5 hk2 (by omega) (by omega) (by omega) (by omega) (fun ad' H1 locs1 hp1 hR1 => ?_)
                    have had : ad' = ad := (List.IsPrefix.eq_of_length hp1 (by rw [hR1.1, hR.1, hle])).symm
                    subst had
                    rw [toL]
                    exact on (d + 1) _ _ _ _ (Nat.le_refl _) hrun hm1.1 hm1.2 _ H1 locs1 lsC hp1 hR1 hL
                  · cases hrun
                · cases hrun
              · cases hrun
            · -- a static call
              have hlen : len = 3 := by simpa [lenOk] using hln
              subst hlen
              have hck := hck (by simp)
              have hx0 : x = 0 := by
                have h2 := hck
                simp only [chkI, Bool.and_eq_true, decide_eq_true_eq] at h2
                exact h2.1.2
              subst hx0
              have hjj : 0 < j ∧ j < 315 ∧ inT w (.methodLink (mNm k).cls nn (mNm j)) = true := by
                have h2 := hck
                simp only [chkI, Bool.and_eq_true, decide_eq_true_eq] at h2
                exact ⟨h2.1.1.1.1.1, h2.1.1.1.1.2, h2.2⟩
              simp only [show ¬ (2 = 3) by decide, if_false] at hrun
              split at hrun
              · rename_i hk
                simp only [cok, Bool.and_eq_true, decide_eq_true_eq] at hk
                obtain ⟨⟨⟨hk1, hk2⟩, hk3⟩, -⟩ := hk
                split at hrun
                · rename_i r1 AH1 hq
                  split at hrun
                  · rename_i hz
                    have hm1 := runmono _ _ _ _ _ _ _ _ hq
                    have hm2 := runmono _ _ _ _ _ _ _ _ hrun
                    simp only at hm1 hm2
                    have hle : AH1.length = AH.length := by rcases hz.2 with h | h; exact absurd h (by decide); exact h
                    have hmm : ∀ (v u : Value) (z : Int32), (st.take na).reverse = [v, u] → ∀ (xx yy : Int32), v = .int xx → u = .int yy → r1 = some (.int z) → AH1 = AH → st = .int yy :: .int xx :: st.drop na := by
                      intro v u z he xx yy h1 h2 _ _
                      have e3 : st.take na = [u, v] := by
                        have := congrArg List.reverse he
                        simpa using this
                      rw [h1, h2] at e3
                      have := List.take_append_drop na st
                      rw [e3] at this
                      exact this.symm
                    obtain ⟨hx, hbb, hml, hown, hts, hWd, hSd, hA, hini, hscr⟩ := id cx
                    have h9 := hSd.2.2.2.2
                    rcases (mo_spec hjj.1 hjj.2.1).2.2.2.1 with hpn | h | h
                    · have hst : st = st.take na ++ st.drop na := (List.take_append_drop na st).symm
                      generalize hpre : st.take na = pre at hst hq hk3
                      generalize hpost : st.drop na = post at hst hk2 hrun
                      rw [hst]
                      refine call_stat cx hd hck (met_of_sim ih hq hz.1 hk3 hjj.1 hjj.2.1 hpn) hR hL.2.1 (by rw [← hpre, List.length_take]; omega) hk2 (by omega) (by omega) (by omega) (by omega) (fun ad' H1 locs1 hp1 hR1 => ?_)
                      have had : ad' = ad := (List.IsPrefix.eq_of_length hp1 (by rw [hR1.1, hR.1, hle])).symm
                      subst had
                      rw [toL]
                      exact on (d + 1) _ _ _ _ (Nat.le_refl _) hrun hm1.1 hm1.2 _ H1 locs1 lsC hp1 hR1 hL
                    · subst h
                      have hna : na = 2 := by
                        have h2 := hck
                        simp only [chkI, Bool.and_eq_true, decide_eq_true_eq] at h2
                        rw [← h2.1.1.1.2]
                        decide +kernel
                      subst hna
                      obtain ⟨v, u, hvu⟩ : ∃ v u, (st.take 2).reverse = [v, u] := by
                        match st, hk1 with
                        | a :: b :: t, _ => exact ⟨b, a, rfl⟩
                      rw [hvu] at hq
                      obtain ⟨xx, yy, hv, hu, hr1, hH1⟩ := max_run hq
                      have hst := hmm v u _ hvu xx yy hv hu hr1 hH1
                      generalize hpost : st.drop 2 = post at hst hk2 hrun
                      subst hr1; subst hH1
                      rw [hst]
                      refine va_mmax hx hbb (by rw [hml]; exact hL.2.1.symm) hown (by rw [mmax_eq.1]; exact hts _ (inT_mem hjj.2.2)) (by rw [mmax_eq.1]; exact hts _ (mo_spec (j := 306) (by decide) (by decide)).2.1) (hts _ (mo_spec (j := 306) (by decide) (by decide)).2.2.1) (hts _ mmax_eq.2.1) (by omega) (by rw [csum_cv h9]; omega) (by omega) (by omega) hd ?_
                      have h := on (d + 1) _ _ _ _ (Nat.le_refl _) hrun (Nat.le_refl _) (Nat.le_refl _) ad H locs lsC (List.prefix_refl _) hR hL
                      simp only [Nat.sub_self, Nat.add_zero] at h
                      exact h
                    · subst h
                      have hna : na = 2 := by
                        have h2 := hck
                        simp only [chkI, Bool.and_eq_true, decide_eq_true_eq] at h2
                        rw [← h2.1.1.1.2]
                        decide +kernel
                      subst hna
                      obtain ⟨v, u, hvu⟩ : ∃ v u, (st.take 2).reverse = [v, u] := by
                        match st, hk1 with
                        | a :: b :: t, _ => exact ⟨b, a, rfl⟩
                      rw [hvu] at hq
                      obtain ⟨xx, yy, hv, hu, hr1, hH1⟩ := min_run hq
                      have hst := hmm v u _ hvu xx yy hv hu hr1 hH1
                      generalize hpost : st.drop 2 = post at hst hk2 hrun
                      subst hr1; subst hH1
                      rw [hst]
                      refine va_mmin hx hbb (by rw [hml]; exact hL.2.1.symm) hown (by rw [mmax_eq.2.2.1]; exact hts _ (inT_mem hjj.2.2)) (by rw [mmax_eq.2.2.1]; exact hts _ (mo_spec (j := 307) (by decide) (by decide)).2.1) (hts _ (mo_spec (j := 307) (by decide) (by decide)).2.2.1) (hts _ mmax_eq.2.2.2) (by omega) (by rw [csum_cv h9]; omega) (by omega) (by omega) hd ?_
                      have h := on (d + 1) _ _ _ _ (Nat.le_refl _) hrun (Nat.le_refl _) (Nat.le_refl _) ad H locs lsC (List.prefix_refl _) hR hL
                      simp only [Nat.sub_self, Nat.add_zero] at h
                      exact h
                  · cases hrun
                · cases hrun
              · cases hrun
            · -- the law's led
              simp only [if_true] at hrun
              split at hrun
              · rename_i o p0 xo rest
                split at hrun
                · rename_i hk
                  cases d with
                  | zero => simp at hrun
                  | succ d =>
                    simp only at hrun
                    have hk2 : lok ad.length ls = true := by rw [hR.1]; exact hk.2.1
                    have hk4 : sok AH.length [.ref o, .int p0, .ref xo] = true := by
                      have h2 := hk.2.2
                      simp only [sok, List.all_cons, List.all_nil, Bool.and_eq_true, Bool.and_true] at h2 ⊢
                      exact ⟨h2.1, h2.2.1, h2.2.2.1⟩
                    have hk3 : sok ad.length rest = true := by
                      rw [hR.1]
                      have h2 := hk.2.2
                      simp only [sok, List.all_cons, Bool.and_eq_true] at h2
                      exact h2.2.2.2
                    split at hrun
                    · rename_i H' hq
                      have hm1 := runmono _ _ _ _ _ _ _ _ hq
                      have hm2 := runmono _ _ _ _ _ _ _ _ hrun
                      simp only at hm1 hm2
                      refine c3 n ih d xo o p0 AH _ _ hq 1 _ (Or.inl ⟨rfl, rfl, rfl⟩) p e R s m args below meth c A H locs cells slots Q ad lsC k pc nn j na w x rest cx ha hR hL.2.1 hk.1 hk4 (by omega) (by omega) (by omega) (by omega) (fun ad' H1 locs1 hp1 hR1 => ?_)
                      have h := on (d + 1 + 1) _ _ _ _ (Nat.le_refl _) hrun hm1.1 hm1.2 ad' H1 locs1 lsC hp1 hR1 (hL.pre hp1 hk2)
                      rw [List.map_cons, map_pre hp1 hk3] at h
                      exact h
                    · rename_i v H' hq
                      split at hrun
                      · rename_i u hg
                        have hm1 := runmono _ _ _ _ _ _ _ _ hq
                        have hm2 := runmono _ _ _ _ _ _ _ _ hrun
                        have h3 := garl_spec hg
                        have e5 : hsz (hpl H' o [v.toInt64]) = hsz H' := by rw [hpl_eq h3]; exact hsz_set h3 (by simp [csz])
                        simp only [hpl_length, e5] at hm1 hm2
                        refine c3 n ih d xo o p0 AH _ _ hq 0 _ (Or.inr ⟨v, u, rfl, hg, rfl, rfl⟩) p e R s m args below meth c A H locs cells slots Q ad lsC k pc nn j na w x rest cx ha hR hL.2.1 hk.1 hk4 (by omega) (by omega) (by rw [hpl_length]; omega) (by rw [e5]; omega) (fun ad' H1 locs1 hp1 hR1 => ?_)
                        have h := on (d + 1 + 1) _ _ _ _ (Nat.le_refl _) hrun (by rw [hpl_length]; exact hm1.1) (by rw [e5]; exact hm1.2) ad' H1 locs1 lsC hp1 hR1 (hL.pre hp1 hk2)
                        rw [List.map_cons, map_pre hp1 hk3] at h
                        exact h
                      · cases hrun
                    · cases hrun
                · cases hrun
              · cases hrun
            · -- a constructor
              have hlen : len = 3 := by simpa [lenOk] using hln
              subst hlen
              have hck := hck (by simp)
              have hjj : 0 < j ∧ j < 306 := by
                have h2 := hck
                simp only [chkI, Bool.and_eq_true, decide_eq_true_eq] at h2
                exact ⟨h2.1.1.1.1.1.1, h2.1.1.1.1.1.2⟩
              simp only [show ¬ (0 = 3) by decide, if_false] at hrun
              split at hrun
              · rename_i hk
                simp only [cok, Bool.and_eq_true, decide_eq_true_eq] at hk
                obtain ⟨⟨⟨hk1, hk2⟩, hk3⟩, ⟨⟨hk4, hk5⟩, hk6⟩, hk7⟩ := hk
                obtain ⟨q, rfl⟩ : ∃ q, na = q + 1 := ⟨na - 1, by omega⟩
                obtain ⟨pre, v0, post, hst, hpl, hdr, htk, hv0⟩ := tk_split hk1
                rw [hdr] at hk2 hrun
                rw [htk] at hk3 hrun
                rw [hv0] at hk4
                obtain ⟨b, rfl⟩ : ∃ b, v0 = .ref b := by
                  unfold isrf at hk4
                  split at hk4
                  · rename_i b he
                    cases he
                    exact ⟨b, rfl⟩
                  · cases hk4
                split at hrun
                · rename_i r1 AH1 hq
                  split at hrun
                  · rename_i hz
                    have hm1 := runmono _ _ _ _ _ _ _ _ hq
                    have hm2 := runmono _ _ _ _ _ _ _ _ hrun
                    simp only at hm1 hm2
                    have hpn : plainName (mNm j).cls = true := by
                      rcases (mo_spec hjj.1 (by omega : j < 315)).2.2.2.1 with h | h | h
                      · exact h
                      · omega
                      · omega
                    have hsk : sok ad.length post = true := by
                      rw [hR.1]
                      rw [hst] at hk7
                      simp only [sok, List.all_append, List.all_cons, Bool.and_eq_true] at hk7
                      exact hk7.2.2
                    rw [hst]
                    refine call_init cx hd hck (met_of_sim ih hq hz.1 hk3 hjj.1 (by omega) hpn) hR hL.2.1 (by omega) hk2 (by omega) (by omega) (by omega) (by omega) (fun ad' H1 locs1 hp1 hR1 => ?_)
                    have h := on (d + 1) _ _ _ _ (Nat.le_refl _) hrun hm1.1 hm1.2 ad' H1 locs1 lsC hp1 hR1 (hL.pre hp1 (by rw [hR.1]; exact hk6))
                    rw [← toL, map_pre hp1 hsk] at h
                    exact h
                  · cases hrun
                · cases hrun
              · cases hrun
