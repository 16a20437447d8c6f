/-! ===== a run of the abstract machine is one of the machine ===== -/
section ENT
variable {skA : Nat → Nat} {v9 : Value} {ad : List Nat}
theorem ent_get (h9 : v9.category = 1) : ∀ (vs : List Value) (nL off i : Nat) (v : Value), (ent nL vs)[i]? = some (some v) → (off + i, cv skA v9 ad v) ∈ lv_args off (vs.map (cv skA v9 ad))
  | [], nL, off, i, v, h => by
    unfold ent at h
    rw [List.getElem?_replicate] at h
    split at h <;> simp at h
  | v0 :: r, nL, off, i, v, h => by
    unfold ent at h
    show _ ∈ (off, cv skA v9 ad v0) :: lv_args (if (cv skA v9 ad v0).category = 2 then off + 2 else off + 1) (r.map (cv skA v9 ad))
    rw [cv_cat h9]
    split at h
    · rename_i hc
      rw [if_pos hc]
      match i, h with
      | 0, h => cases h; exact List.mem_cons_self
      | 1, h => simp at h
      | i + 2, h =>
        have h2 := ent_get h9 r (nL - 2) (off + 2) i v (by simpa using h)
        rw [show off + (i + 2) = off + 2 + i by omega]
        exact List.mem_cons_of_mem _ h2
    · rename_i hc
      rw [if_neg hc]
      match i, h with
      | 0, h => cases h; exact List.mem_cons_self
      | i + 1, h =>
        have h2 := ent_get h9 r (nL - 1) (off + 1) i v (by simpa using h)
        rw [show off + (i + 1) = off + 1 + i by omega]
        exact List.mem_cons_of_mem _ h2
theorem ent_len (h9 : v9.category = 1) : ∀ (vs : List Value) (nL : Nat), (lg_sl (vs.map (cv skA v9 ad))).length ≤ (ent nL vs).length
  | [], nL => Nat.zero_le _
  | v0 :: r, nL => by
    unfold ent
    have e : lg_sl ((v0 :: r).map (cv skA v9 ad)) = (if (cv skA v9 ad v0).category = 2 then [.val (cv skA v9 ad v0), .second] else [.val (cv skA v9 ad v0)]) ++ lg_sl (r.map (cv skA v9 ad)) := by simp [lg_sl]
    rw [e, cv_cat h9, List.length_append]
    split
    · have := ent_len h9 r (nL - 2)
      simp only [List.length_cons, List.length_nil]
      omega
    · have := ent_len h9 r (nL - 1)
      simp only [List.length_cons, List.length_nil]
      omega
end ENT
section SIM
variable {l : Launch} {scr : List Int32} {D : va_G} {cI cL : ClassId} {skA : Nat → Nat} {v9 : Value}
def SIM (l : Launch) (scr : List Int32) (D : va_G) (cI cL : ClassId) (skA : Nat → Nat) (v9 : Value) (n : Nat) : Prop :=
  ∀ (d k pc : Nat) (ls : ALs) (st : List Value) (AH : List AC) (r : Option Value) (AH' : List AC), run scr n d k pc ls st AH = some (r, AH') →
  ∀ (p : Program) (e : Env) (R : Room) (s : State) (m : MethodId) (args : Array Value) (below : List Frame) (meth : Method) (c : Code) (A : Nat → Prop) (H : Heap) (locs : List Loc) (cells slots : Nat) (Q : State → Prop) (ad : List Nat) (lsC : Array Jvm.Slot),
    Cx scr k p s m args meth c A D cI cL skA v9 → Rl A D cI cL skA v9 ad AH s H locs → LR skA v9 ad ls lsC (mMax k) → d + 21 ≤ R.frames → 60 * d + 100 ≤ R.locals → cells + (AH'.length - AH.length) ≤ R.cells → slots + (hsz AH' - hsz AH) ≤ R.slots →
    (∀ (ad1 : List Nat) (H1 : Heap) (locs1 : List Loc) (lsC1 : Array Jvm.Slot) (pc1 : Nat) (st1 : List Value) (AH1 : List AC) (i1 : Instr) (ops1 : List Nat), ad <+: ad1 → AH.length ≤ AH1.length → hsz AH ≤ hsz AH1 → Rl A D cI cL skA v9 ad1 AH1 s H1 locs1 → acode k pc1 = some (i1, ops1) → rstep k i1 ops1 st1 AH1 = some (r, AH') → lsC1.size = mMax k →
      W p l e R s m args below meth c H1 locs1 (cells + (AH1.length - AH.length)) (slots + (hsz AH1 - hsz AH)) Q (F0 m pc1 lsC1 (st1.map (cv skA v9 ad1)))) →
    W p l e R s m args below meth c H locs cells slots Q (F0 m pc lsC (st.map (cv skA v9 ad)))
theorem met_of_sim {n d k : Nat} {As : List Value} {AH AH' : List AC} {r : Option Value} (hS : SIM l scr D cI cL skA v9 n) (hrun : run scr n d k 0 (ent (mMax k) As) [] AH = some (r, AH')) (hrok : rok r = true) (hel : (ent (mMax k) As).length = mMax k) (h0 : 0 < k) (h1 : k < 315) (hpl : plainName (mNm k).cls = true) : MetM l D cI cL skA v9 k d As AH r AH' := by
  intro ad sz hlen
  refine Met.ofW (cc := mCd k) (maxL := mMax k) (ret := mRet k) hpl rfl ?_
  intro p e s m args below meth c s₁ B hml hv
  obtain ⟨rfl, hsz', hP, hD0, hWd, hSd⟩ := hv
  have h9 := hSd.2.2.2.2
  have hx := B.exec
  have hb := B.bytes
  have hr := B.returns
  have hts := atoms_spec (ws := wsMM k) B.pre
  have hown : s.vm.findClass (mNm k).cls = some m.cls := findClass_of_methodNamed B.named
  have hlocks := B.notSynchronized
  have hin : meth.name = (mNm k).name := (name_of_methodNamed B.named B.method).1
  subst hsz'
  have hle : (lg_sl (As.map (cv skA v9 ad))).length ≤ mMax k := by
    have := ent_len (skA := skA) (ad := ad) h9 As (mMax k)
    omega
  have hl := lv_entry (As.map (cv skA v9 ad)) (n := mMax k) hle
  rw [lg_entry_eq]
  generalize (lg_sl (As.map (cv skA v9 ad)) ++ List.replicate (mMax k - (lg_sl (As.map (cv skA v9 ad))).length) Jvm.Slot.unset).toArray = lsC at hl ⊢
  have hL : LR skA v9 ad (ent (mMax k) As) lsC (mMax k) := by
    refine ⟨hel, hl.1, hl.2.1, fun i v hv => ?_⟩
    have := ent_get (skA := skA) (ad := ad) h9 As (mMax k) 0 i v hv
    rw [Nat.zero_add] at this
    exact hl.2.2 _ this
  refine hS d k 0 (ent (mMax k) As) [] AH r AH' hrun p e _ s m _ below meth c (va_A (wsA cI cL skA v9 ad AH) s.heap.size) s.heap [] 0 0 _ ad lsC ⟨hx, hb, hml, hown, fun w hw => hts w (List.mem_cons_of_mem _ hw), hWd, hSd, fun q h => Or.inr h, fun h => by rw [hin]; exact h, fun h => by omega⟩ ⟨hlen, hP, hD0.self, va_S.rf⟩ hL (Nat.le_refl _) (Nat.le_refl _) (by rw [Nat.zero_add]; exact Nat.le_refl _) (by rw [Nat.zero_add]; exact Nat.le_refl _) ?_
  intro ad1 H1 locs1 lsC1 pc1 st1 AH1 i1 ops1 hpre hle1 hle2 hR1 ha1 hr1 _
  obtain ⟨len, hd, hln, -⟩ := acode_spec ha1
  have fin : ∀ (t : State), t.heap = H1 → ∀ (r' : Option Value) (AH2 : List AC), (r', AH1) = (r, AH') → QcM D cI cL skA v9 ad AH s.heap.size r AH' (As.map (cv skA v9 ad)).toArray s (.returned (r'.map (cv skA v9 ad1))) t := by
    intro t ht r' AH2 he
    cases he
    exact ⟨⟨ad1, hpre, hR1.1, rfl, by rw [ht]; exact hR1.2.1, hR1.2.2.1⟩, hR1.2.2.2.F ht⟩
  unfold rstep at hr1
  split at hr1
  · split at hr1
    · rename_i v
      split at hr1
      · rename_i ty hty
        split at hr1
        · rename_i hn
          cases hr1
          have hlen1 : len = 1 := by simpa [lenOk] using hln
          subst hlen1
          have key := W.zret (m := m) (p := p) (l := l) (e := e) (R := (headSpec (wsMM k) (rmM d (AH'.length - AH.length) (hsz AH' - hsz AH))).room) (below := below) (H := H1) (locs := locs1) (cells := AH'.length - AH.length) (slots := hsz AH' - hsz AH) (ls := lsC1) (free := va_A (wsA cI cL skA v9 ad AH) s.heap.size) hx hb (by rw [hr]; exact hty) hn (fun t ht _ => fin t ht (some (.int v)) AH' rfl) hR1.2.2.2.2.2 hd hlocks
          rw [Nat.zero_add, Nat.zero_add]
          exact key
        · cases hr1
      · cases hr1
    · cases hr1
  · split at hr1
    · rename_i v
      split at hr1
      · rename_i hty
        cases hr1
        have hlen1 : len = 1 := by simpa [lenOk] using hln
        subst hlen1
        have key := W.lret (m := m) (p := p) (l := l) (e := e) (R := (headSpec (wsMM k) (rmM d (AH'.length - AH.length) (hsz AH' - hsz AH))).room) (below := below) (H := H1) (locs := locs1) (cells := AH'.length - AH.length) (slots := hsz AH' - hsz AH) (ls := lsC1) (free := va_A (wsA cI cL skA v9 ad AH) s.heap.size) hx hb (by rw [hr]; exact hty) (fun t ht _ => fin t ht (some (.long v)) AH' rfl) hR1.2.2.2.2.2 hd hlocks
        rw [Nat.zero_add, Nat.zero_add]
        exact key
      · cases hr1
    · cases hr1
  · split at hr1
    · split at hr1
      · rename_i hty
        cases hr1
        have hlen1 : len = 1 := by simpa [lenOk] using hln
        subst hlen1
        have key := W.vret (m := m) (p := p) (l := l) (e := e) (R := (headSpec (wsMM k) (rmM d (AH'.length - AH.length) (hsz AH' - hsz AH))).room) (below := below) (H := H1) (locs := locs1) (cells := AH'.length - AH.length) (slots := hsz AH' - hsz AH) (ls := lsC1) (free := va_A (wsA cI cL skA v9 ad AH) s.heap.size) hx hb (by rw [hr]; exact hty) (fun t ht _ => fin t ht none AH' rfl) hR1.2.2.2.2.2 hd hlocks
        rw [Nat.zero_add, Nat.zero_add]
        exact key
      · cases hr1
    · cases hr1
  · split at hr1
    · split at hr1
      · cases hr1
        simp [rok] at hrok
      · cases hr1
    · cases hr1
  · cases hr1
end SIM
section CALLS
variable {l : Launch} {scr : List Int32} {D : va_G} {cI cL : ClassId} {skA : Nat → Nat} {v9 : Value}
variable {p : Program} {e : Env} {R : Room} {s : State} {m : MethodId} {args : Array Value} {below : List Frame} {meth : Method} {c : Code} {A : Nat → Prop} {H : Heap} {locs : List Loc} {cells slots : Nat} {Q : State → Prop} {k pc n j na d : Nat} {lsC : Array Jvm.Slot} {ad : List Nat} {AH AH' : List AC} {r : Option Value} {pre post : List Value} {v0 : Value}
theorem csum_cv (h9 : v9.category = 1) {st : List Value} : ((st.map (cv skA v9 ad)).map fun v => v.category).sum = csum st := by
  rw [List.map_map]
  have e1 : ((fun v => v.category) ∘ cv skA v9 ad) = fun v : Value => v.category := by
    funext v
    exact cv_cat h9 v
  rw [e1]
  rfl
theorem call_virt (cx : Cx scr k p s m args meth c A D cI cL skA v9) (hd : decode (mCd k) pc = .ok (.invokevirtual n, 3)) {w ci si : Nat} (hck : chkI (mNm k).cls (decide ((mNm k).name = "<init>")) (.invokevirtual n) [1, j, na, w, 0, ci, si] = true) (hM : MetM l D cI cL skA v9 j d (v0 :: pre.reverse) AH r AH')
    (hR : Rl A D cI cL skA v9 ad AH s H locs) (hls : lsC.size = mMax k) (hna : pre.length + 1 = na) (hrc : rcv AH (some v0) ci = true) (hs8 : csum post ≤ 8) (hf1 : d + 22 ≤ R.frames) (hf2 : 60 * d + 160 ≤ R.locals) (hc1 : cells + (AH'.length - AH.length) ≤ R.cells) (hc2 : slots + (hsz AH' - hsz AH) ≤ R.slots)
    (kk : ∀ (ad' : List Nat) (H1 : Heap) (locs1 : List Loc), ad <+: ad' → Rl A D cI cL skA v9 ad' AH' s H1 locs1 → W p l e R s m args below meth c H1 locs1 (cells + (AH'.length - AH.length)) (slots + (hsz AH' - hsz AH)) Q (F0 m (pc + 3) lsC ((r.map (cv skA v9 ad')).toList ++ post.map (cv skA v9 ad)))) :
    W p l e R s m args below meth c H locs cells slots Q (F0 m pc lsC ((pre ++ v0 :: post).map (cv skA v9 ad))) := by
  obtain ⟨hx, hbb, hml, hown, hts, hWd, hSd, hA, hini, hscr⟩ := cx
  have h9 := hSd.2.2.2.2
  simp only [chkI, Bool.and_eq_true, decide_eq_true_eq, Bool.not_eq_true'] at hck
  obtain ⟨⟨⟨⟨⟨⟨⟨hj0, hj1⟩, hjn⟩, hjs⟩, -⟩, hlk⟩, hsel⟩, hcls⟩ := hck
  obtain ⟨m1, m2, m3, -, m5, m6, m7, m8, -⟩ := mo_spec hj0 hj1
  simp only [hjs, Bool.false_eq_true, if_false] at m2 m7
  have hrv : ∃ b, cv skA v9 ad v0 = .ref b ∧ ∃ cellB : Cell, H[b]? = some cellB ∧ cellB.vm.isStatics = false ∧ s.vm.findClass (mNm j).cls = some cellB.cls := by
    unfold rcv at hrc
    split at hrc
    · rename_i b he
      cases he
      split at hrc
      · rename_i c' fs hc'
        have hcc : c' = ci := by simpa using hrc
        subst hcc
        have hw := wsA_get (cI := cI) (cL := cL) (skA := skA) (v9 := v9) hR.1 hc'
        have hci : c' < 14 := by
          obtain ⟨q, hq, -⟩ := hR.2.1 _ _ hw
          exact vwC_lt hq
        rw [if_neg (by omega)] at hcls
        split at hcls
        · rename_i C T N hcl
          have hC : (mNm j).cls = C := by simpa using hcls
          refine ⟨_, rfl, ?_⟩
          rw [hC]
          exact va_recv hWd.1 hR.2.1 (cl_of hcl).1 hw
        · cases hcls
      · cases hrc
    · rename_i jj he
      cases he
      simp only [Bool.and_eq_true, beq_iff_eq, decide_eq_true_eq] at hrc
      obtain ⟨rfl, hjj⟩ := hrc
      rw [if_pos rfl] at hcls
      have hC : (mNm j).cls = "java/lang/String" := by simpa using hcls
      refine ⟨skA jj, by simp only [cv, skf]; rw [if_pos (Or.inl (by omega))], ?_⟩
      rw [hC]
      obtain ⟨cell, g1, g2, g3, -⟩ := (hSd.1 jj hjj).1.kept hR.2.2.2.2.1
      exact ⟨cell, g1, g2, g3⟩
    · cases hrc
  obtain ⟨b, hb, hcell⟩ := hrv
  have hst : (pre ++ v0 :: post).map (cv skA v9 ad) = (pre.reverse.map (cv skA v9 ad)).reverse ++ .ref b :: post.map (cv skA v9 ad) := by
    rw [List.map_append, List.map_cons, hb, List.map_reverse, List.reverse_reverse]
  have hPc : ∀ U : State, U.heap = H → s.WarmedH U.vm → PcM D cI cL skA v9 ad AH (v0 :: pre.reverse) H.size (Value.ref b :: pre.reverse.map (cv skA v9 ad)).toArray U := by
    have h := PcM_of (As := v0 :: pre.reverse) hR hA hWd hSd
    rw [List.map_cons, hb] at h
    exact h
  rw [hst]
  refine va_callM (va_runV (As := pre.reverse.map (cv skA v9 ad)) (rest := post.map (cv skA v9 ad)) ⟨hx, hbb, hml, hown, hts⟩ (hM ad H.size hR.1) (cwV (na - 1) hts (goodT ?_) rfl rfl rfl ⟨rfl, m5, m6, by rw [m7, hjn]⟩ ⟨by show d + 21 + 1 ≤ _; omega, by show 8 + (mMax j + 11) + (60 * d + 100) ≤ _; omega⟩) ⟨PcM_blind, hcell, hPc⟩ rfl (by rw [List.length_map, List.length_reverse]; omega) hls rfl (lv_room (by rw [csum_cv h9]; exact hs8)) hd ⟨hc1, hc2⟩) hR.2.2.2 (rl_free hR hA) kk
  intro w' hw'
  unfold wsV at hw'
  rcases List.mem_append.mp hw' with h | h
  · simp only [List.mem_cons, List.not_mem_nil, or_false] at h
    rcases h with rfl | rfl | rfl | rfl
    · exact inT_mem hlk
    · exact m2
    · exact inT_mem hsel
    · exact m3
  · exact wsMM_in hj0 hj1 w' h
theorem call_stat (cx : Cx scr k p s m args meth c A D cI cL skA v9) (hd : decode (mCd k) pc = .ok (.invokestatic n, 3)) {w : Nat} (hck : chkI (mNm k).cls (decide ((mNm k).name = "<init>")) (.invokestatic n) [2, j, na, w, 0] = true) (hM : MetM l D cI cL skA v9 j d pre.reverse AH r AH')
    (hR : Rl A D cI cL skA v9 ad AH s H locs) (hls : lsC.size = mMax k) (hna : pre.length = na) (hs8 : csum post ≤ 8) (hf1 : d + 22 ≤ R.frames) (hf2 : 60 * d + 160 ≤ R.locals) (hc1 : cells + (AH'.length - AH.length) ≤ R.cells) (hc2 : slots + (hsz AH' - hsz AH) ≤ R.slots)
    (kk : ∀ (ad' : List Nat) (H1 : Heap) (locs1 : List Loc), ad <+: ad' → Rl A D cI cL skA v9 ad' AH' s H1 locs1 → W p l e R s m args below meth c H1 locs1 (cells + (AH'.length - AH.length)) (slots + (hsz AH' - hsz AH)) Q (F0 m (pc + 3) lsC ((r.map (cv skA v9 ad')).toList ++ post.map (cv skA v9 ad)))) :
    W p l e R s m args below meth c H locs cells slots Q (F0 m pc lsC ((pre ++ post).map (cv skA v9 ad))) := by
  obtain ⟨hx, hbb, hml, hown, hts, hWd, hSd, hA, hini, hscr⟩ := cx
  have h9 := hSd.2.2.2.2
  simp only [chkI, Bool.and_eq_true, decide_eq_true_eq] at hck
  obtain ⟨⟨⟨⟨⟨hj0, hj1⟩, hjn⟩, hjs⟩, -⟩, hlk⟩ := hck
  obtain ⟨m1, m2, m3, -, m5, m6, m7, m8, -⟩ := mo_spec hj0 hj1
  simp only [hjs, if_true] at m2 m7
  have hst : (pre ++ post).map (cv skA v9 ad) = (pre.reverse.map (cv skA v9 ad)).reverse ++ post.map (cv skA v9 ad) := by
    rw [List.map_append, List.map_reverse, List.reverse_reverse]
  rw [hst]
  refine va_callM (va_runS (As := pre.reverse.map (cv skA v9 ad)) (rest := post.map (cv skA v9 ad)) ⟨hx, hbb, hml, hown, hts⟩ (hM ad H.size hR.1) (va_cwS na hts (goodT ?_) rfl rfl rfl ⟨m5, m6, by rw [m7, hjn]⟩ ⟨by show d + 21 + 1 ≤ _; omega, by show 8 + (mMax j + 11) + (60 * d + 100) ≤ _; omega⟩) ⟨PcM_blind, PcM_of hR hA hWd hSd⟩ rfl (by rw [List.length_map, List.length_reverse]; exact hna) hls rfl (lv_room (by rw [csum_cv h9]; exact hs8)) hd ⟨hc1, hc2⟩) hR.2.2.2 (rl_free hR hA) kk
  intro w' hw'
  unfold va_wsS at hw'
  rcases List.mem_append.mp hw' with h | h
  · simp only [List.mem_cons, List.not_mem_nil, or_false] at h
    rcases h with rfl | rfl | rfl
    · exact inT_mem hlk
    · exact m2
    · exact m3
  · exact wsMM_in hj0 hj1 w' h
theorem call_init (cx : Cx scr k p s m args meth c A D cI cL skA v9) (hd : decode (mCd k) pc = .ok (.invokespecial n, 3)) {w nest b : Nat} (hck : chkI (mNm k).cls (decide ((mNm k).name = "<init>")) (.invokespecial n) [0, j, na, w, nest] = true) (hM : MetM l D cI cL skA v9 j d (.ref b :: pre.reverse) AH r AH')
    (hR : Rl A D cI cL skA v9 ad AH s H locs) (hls : lsC.size = mMax k) (hna : pre.length + 1 = na) (hs8 : csum post ≤ 8) (hf1 : d + 22 ≤ R.frames) (hf2 : 60 * d + 160 ≤ R.locals) (hc1 : cells + (AH'.length - AH.length) ≤ R.cells) (hc2 : slots + (hsz AH' - hsz AH) ≤ R.slots)
    (kk : ∀ (ad' : List Nat) (H1 : Heap) (locs1 : List Loc), ad <+: ad' → Rl A D cI cL skA v9 ad' AH' s H1 locs1 → W p l e R s m args below meth c H1 locs1 (cells + (AH'.length - AH.length)) (slots + (hsz AH' - hsz AH)) Q (F0 m (pc + 3) lsC ((r.map (cv skA v9 ad')).toList ++ post.map (cv skA v9 ad)))) :
    W p l e R s m args below meth c H locs cells slots Q (F0 m pc lsC ((pre ++ .ref b :: post).map (cv skA v9 ad))) := by
  obtain ⟨hx, hbb, hml, hown, hts, hWd, hSd, hA, hini, hscr⟩ := cx
  have h9 := hSd.2.2.2.2
  simp only [chkI, Bool.and_eq_true, decide_eq_true_eq, Bool.not_eq_true'] at hck
  obtain ⟨⟨⟨⟨⟨⟨hj0, hj1⟩, hjn⟩, hjs⟩, hnm⟩, hlk⟩, hret⟩ := hck
  obtain ⟨m1, m2, m3, -, m5, m6, m7, m8, -⟩ := mo_spec hj0 (by omega : j < 315)
  simp only [hjs, Bool.false_eq_true, if_false] at m2 m7
  have hst : (pre ++ .ref b :: post).map (cv skA v9 ad) = (pre.reverse.map (cv skA v9 ad)).reverse ++ .ref (ad.getD b 0) :: post.map (cv skA v9 ad) := by
    rw [List.map_append, List.map_cons, List.map_reverse, List.reverse_reverse]
    rfl
  have hws : wsMM j = Cond.code (mNm j) (mCd j) (mMax j) none :: TBL := by unfold wsMM; rw [hret]
  rw [hst]
  split at hlk
  · exact va_callM (va_runI (b := ad.getD b 0) (As := pre.reverse.map (cv skA v9 ad)) (rest := post.map (cv skA v9 ad)) ⟨hx, hbb, hml, hown, hts⟩ (hM ad H.size hR.1) (cwI (na - 1) hts (goodT (wsMM_in hj0 (by omega))) hws rfl rfl (hts _ m3) (hts _ (inT_mem hlk)) (hts _ m2) hnm ⟨m5, m6, by rw [m7, hjn]⟩ ⟨by show d + 21 + 1 ≤ _; omega, by show 8 + (mMax j + 11) + (60 * d + 100) ≤ _; omega⟩) ⟨PcM_blind, PcM_of (As := .ref b :: pre.reverse) hR hA hWd hSd⟩ rfl (by rw [List.length_map, List.length_reverse]; omega) hls rfl (lv_room (by rw [csum_cv h9]; exact hs8)) hd ⟨hc1, hc2⟩) hR.2.2.2 (rl_free hR hA) kk
  · exact va_callM (va_runIN (b := ad.getD b 0) (host := "NorthVines") (As := pre.reverse.map (cv skA v9 ad)) (rest := post.map (cv skA v9 ad)) ⟨hx, hbb, hml, hown, hts⟩ (hM ad H.size hR.1) ⟨va_cnB (na - 1) hts (goodT (wsMM_in hj0 (by omega))) hws rfl rfl (hWd.2.1 _ (inN_mem hlk)) (hts _ m3) ⟨m5, m6, by rw [m7, hjn]⟩ ⟨by show d + 21 + 1 ≤ _; omega, by show 8 + (mMax j + 11) + (60 * d + 100) ≤ _; omega⟩, hnm, hts _ m2⟩ ⟨PcM_blind, PcM_of (As := .ref b :: pre.reverse) hR hA hWd hSd⟩ rfl (by rw [List.length_map, List.length_reverse]; omega) hls rfl (lv_room (by rw [csum_cv h9]; exact hs8)) hd ⟨hc1, hc2⟩) hR.2.2.2 (rl_free hR hA) kk
end CALLS
