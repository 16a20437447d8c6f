/-! ===== the law's led: its body; its call ===== -/
section C3Q
variable {l : Launch} {scr : List Int32} {D : va_G} {cI cL : ClassId} {skA : Nat → Nat} {v9 : Value}
variable {p : Program} {e : Env} {R : Room} {s : State} {m : MethodId} {args : Array Value} {below : List Frame} {meth : Method} {c : Code} {A : Nat → Prop} {H : Heap} {locs : List Loc} {cells slots : Nat} {Q : State → Prop} {k pc n j na d : Nat} {lsC : Array Jvm.Slot} {ad : List Nat} {AH AH' : List AC} {r : Option Value} {pre post : List Value} {v0 : Value}
theorem call_virtX (cx : Cx scr k p s m args meth c A D cI cL skA v9) (hd : decode (mCd k) pc = .ok (.invokevirtual n, 3)) {w ci si : Nat} (hck : chkI (mNm k).cls (decide ((mNm k).name = "<init>")) (.invokevirtual n) [1, j, na, w, 0, ci, si] = true) (hM : ∀ (ad : List Nat) (sz : Nat), ad.length = AH.length → vy_Met l (mNm j) (wsMM j) (rmM d (AH'.length - AH.length) (hsz AH' - hsz AH)) (PcM D cI cL skA v9 ad AH (v0 :: pre.reverse) sz) (QX D cI cL skA v9 ad AH sz r AH') (XM D cI cL skA v9 ad AH sz r AH') (AH'.length - AH.length) (hsz AH' - hsz AH) (va_A (wsA cI cL skA v9 ad AH) sz))
    (hR : Rl A D cI cL skA v9 ad AH s H locs) (hls : lsC.size = mMax k) (hna : pre.length + 1 = na) (hrc : rcv AH (some v0) ci = true) (hs8 : csum post ≤ 8) (hf1 : d + 22 ≤ R.frames) (hf2 : 60 * d + 160 ≤ R.locals) (hc1 : cells + (AH'.length - AH.length) ≤ R.cells) (hc2 : slots + (hsz AH' - hsz AH) ≤ R.slots) :
    ∃ b, vy_Run p l e R s m args below meth c H locs cells slots (AH'.length - AH.length) (hsz AH' - hsz AH) (F0 m pc lsC ((pre ++ v0 :: post).map (cv skA v9 ad))) (post.map (cv skA v9 ad)) (QX D cI cL skA v9 ad AH H.size r AH' (Value.ref b :: pre.reverse.map (cv skA v9 ad)).toArray) (XM D cI cL skA v9 ad AH H.size r AH') (va_A (wsA cI cL skA v9 ad AH) H.size) := by
  obtain ⟨hx, hbb, hml, hown, hts, hWd, hSd, hA, hini, hscr⟩ := cx
  have h9 := hSd.2.2.2.2
  simp only [chkI, Bool.and_eq_true, decide_eq_true_eq, Bool.not_eq_true'] at hck
  obtain ⟨⟨⟨⟨⟨⟨⟨hj0, hj1⟩, hjn⟩, hjs⟩, -⟩, hlk⟩, hsel⟩, hcls⟩ := hck
  obtain ⟨m1, m2, m3, -, m5, m6, m7, m8, -⟩ := mo_spec hj0 hj1
  simp only [hjs, Bool.false_eq_true, if_false] at m2 m7
  have hrv : ∃ b, cv skA v9 ad v0 = .ref b ∧ ∃ cellB : Cell, H[b]? = some cellB ∧ cellB.vm.isStatics = false ∧ s.vm.findClass (mNm j).cls = some cellB.cls := by
    unfold rcv at hrc
    split at hrc
    · rename_i b he
      cases he
      split at hrc
      · rename_i c' fs hc'
        have hcc : c' = ci := by simpa using hrc
        subst hcc
        have hw := wsA_get (cI := cI) (cL := cL) (skA := skA) (v9 := v9) hR.1 hc'
        have hci : c' < 14 := by
          obtain ⟨q, hq, -⟩ := hR.2.1 _ _ hw
          exact vwC_lt hq
        rw [if_neg (by omega)] at hcls
        split at hcls
        · rename_i C T N hcl
          have hC : (mNm j).cls = C := by simpa using hcls
          refine ⟨_, rfl, ?_⟩
          rw [hC]
          exact va_recv hWd.1 hR.2.1 (cl_of hcl).1 hw
        · cases hcls
      · cases hrc
    · rename_i jj he
      cases he
      simp only [Bool.and_eq_true, beq_iff_eq, decide_eq_true_eq] at hrc
      obtain ⟨rfl, hjj⟩ := hrc
      rw [if_pos rfl] at hcls
      have hC : (mNm j).cls = "java/lang/String" := by simpa using hcls
      refine ⟨skA jj, by simp only [cv, skf]; rw [if_pos (Or.inl (by omega))], ?_⟩
      rw [hC]
      obtain ⟨cell, g1, g2, g3, -⟩ := (hSd.1 jj hjj).1.kept hR.2.2.2.2.1
      exact ⟨cell, g1, g2, g3⟩
    · cases hrc
  obtain ⟨b, hb, hcell⟩ := hrv
  have hst : (pre ++ v0 :: post).map (cv skA v9 ad) = (pre.reverse.map (cv skA v9 ad)).reverse ++ .ref b :: post.map (cv skA v9 ad) := by
    rw [List.map_append, List.map_cons, hb, List.map_reverse, List.reverse_reverse]
  have hPc : ∀ U : State, U.heap = H → s.WarmedH U.vm → PcM D cI cL skA v9 ad AH (v0 :: pre.reverse) H.size (Value.ref b :: pre.reverse.map (cv skA v9 ad)).toArray U := by
    have h := PcM_of (As := v0 :: pre.reverse) hR hA hWd hSd
    rw [List.map_cons, hb] at h
    exact h
  refine ⟨b, ?_⟩
  rw [hst]
  refine vy_runV (As := pre.reverse.map (cv skA v9 ad)) (rest := post.map (cv skA v9 ad)) ⟨hx, hbb, hml, hown, hts⟩ (hM ad H.size hR.1) (cwV (na - 1) hts (goodT ?_) rfl rfl rfl ⟨rfl, m5, m6, by rw [m7, hjn]⟩ ⟨by show d + 21 + 1 ≤ _; omega, by show 8 + (mMax j + 11) + (60 * d + 100) ≤ _; omega⟩) ⟨PcM_blind, hcell, hPc⟩ rfl (by rw [List.length_map, List.length_reverse]; omega) hls rfl (lv_room (by rw [csum_cv h9]; exact hs8)) hd ⟨hc1, hc2⟩
  intro w' hw'
  unfold wsV at hw'
  rcases List.mem_append.mp hw' with h | h
  · simp only [List.mem_cons, List.not_mem_nil, or_false] at h
    rcases h with rfl | rfl | rfl | rfl
    · exact inT_mem hlk
    · exact m2
    · exact inT_mem hsel
    · exact m3
  · exact wsMM_in hj0 hj1 w' h
theorem st_one {i : Instr} {ops : List Nat} {pc pc' : Nat} {ls ls' : ALs} {st st' : List Value} (cx : Cx scr k p s m args meth c A D cI cL skA v9) (ha : acode k pc = some (i, ops)) (hb : bstep scr k pc i ops ls st AH = some (pc', ls', st', AH)) (hR : Rl A D cI cL skA v9 ad AH s H locs) (hL : LR skA v9 ad ls lsC (mMax k)) (hc1 : cells ≤ R.cells) (hc2 : slots ≤ R.slots) (hf : 1 ≤ R.frames) (hl : 30 ≤ R.locals) (kk : ∀ (H' : Heap) (locs' : List Loc) (lsC' : Array Jvm.Slot), Rl A D cI cL skA v9 ad AH s H' locs' → LR skA v9 ad ls' lsC' (mMax k) → W p l e R s m args below meth c H' locs' cells slots Q (F0 m pc' lsC' (st'.map (cv skA v9 ad)))) : W p l e R s m args below meth c H locs cells slots Q (F0 m pc lsC (st.map (cv skA v9 ad))) := by
  obtain ⟨len, hd, hln, -⟩ := acode_spec ha
  refine bs_all i p e R s m args below meth c A H locs cells slots Q k pc len ops ls st AH ad lsC (pc', ls', st', AH) cx hd hln (acode_chk ha) hb hR hL (by show cells + (AH.length - AH.length) ≤ _; rw [Nat.sub_self]; exact hc1) (by show slots + (hsz AH - hsz AH) ≤ _; rw [Nat.sub_self]; exact hc2) hf hl ?_
  intro ad' H' locs' lsC' hp hR' hL'
  have had : ad' = ad := (List.IsPrefix.eq_of_length hp (by rw [hR'.1, hR.1])).symm
  subst had
  show W p l e R s m args below meth c H' locs' (cells + (AH.length - AH.length)) (slots + (hsz AH - hsz AH)) Q (F0 m pc' lsC' (st'.map (cv skA v9 ad')))
  rw [Nat.sub_self, Nat.sub_self]
  exact kk H' locs' lsC' hR' hL'
end C3Q
theorem led_T : ∀ w ∈ Cond.codeWith (mNm 315) (mCd 315) (mMax 315) (mRet 315) [(0, 9, 12, 13)] :: Cond.classLink (mNm 315).cls 13 "java/util/NoSuchElementException" :: Cond.methodLink (mNm 0).cls 224 (mNm 315) :: Cond.static (mNm 315) :: [Cond.initialized (mNm 315).cls], w ∈ TBL := by decide +kernel
section C3R
variable {l : Launch} {scr : List Int32} {D : va_G} {cI cL : ClassId} {skA : Nat → Nat} {v9 : Value}
set_option maxHeartbeats 2000000 in
theorem metL {n d x o : Nat} {p0 rv : Int32} {AH AH1 AH2 : List AC} {r1 : Option Value} (hl : l.stackTraces = false) (hS : SIM l scr D cI cL skA v9 n) (hrun : run scr n d 180 0 (ent (mMax 180) [.ref x, .int p0]) [] AH = some (r1, AH1)) (hc : (r1 = some .null ∧ rv = 1 ∧ AH2 = AH1) ∨ (∃ v u, r1 = some (.int v) ∧ garl AH1 o = some [u] ∧ rv = 0 ∧ AH2 = hpl AH1 o [v.toInt64])) (hsok : sok AH.length [.ref o, .int p0, .ref x] = true) {ad : List Nat} {sz : Nat} (hlen : ad.length = AH.length) : vx_Met l (mNm 315) (Cond.codeWith (mNm 315) (mCd 315) (mMax 315) (mRet 315) [(0, 9, 12, 13)] :: TBL) (rmM (d + 1) (AH2.length - AH.length) (hsz AH2 - hsz AH)) (PcM D cI cL skA v9 ad AH [.ref x, .int p0, .ref o] sz) (QcM D cI cL skA v9 ad AH sz (some (.int rv)) AH2) (fun _ _ _ => False) (AH2.length - AH.length) (hsz AH2 - hsz AH) (va_A (wsA cI cL skA v9 ad AH) sz) := by
  have hpl : plainName (mNm 315).cls = true := by decide +kernel
  have hmono := runmono _ _ _ _ _ _ _ _ hrun
  simp only at hmono
  have eL : AH2.length = AH1.length ∧ hsz AH2 = hsz AH1 := by
    rcases hc with ⟨_, _, rfl⟩ | ⟨v, u, _, hg, _, rfl⟩
    · exact ⟨rfl, rfl⟩
    · have h3 := garl_spec hg
      exact ⟨hpl_length, by rw [hpl_eq h3]; exact hsz_set h3 (by simp [csz])⟩
  have a0 : acode 315 0 = some (.aload_n 2, []) := by decide +kernel
  have a1 : acode 315 1 = some (.iconst 0, []) := by decide +kernel
  have a2 : acode 315 2 = some (.aload_n 0, []) := by decide +kernel
  have a3 : acode 315 3 = some (.iload_n 1, []) := by decide +kernel
  have a4 : acode 315 4 = some (.invokevirtual 7, [1, 180, 2, 1344, 0, 11, 1346]) := by decide +kernel
  have a7 : acode 315 7 = some (.i2l, []) := by decide +kernel
  have a9 : acode 315 9 = some (.goto 6, []) := by decide +kernel
  have a12 : acode 315 12 = some (.astore_n 3, []) := by decide +kernel
  have a13 : acode 315 13 = some (.iconst 1, []) := by decide +kernel
  have a15 : acode 315 15 = some (.iconst 0, []) := by decide +kernel
  have d4 : decode (mCd 315) 4 = .ok (.invokevirtual 7, 3) := by decide +kernel
  have d8 : decode (mCd 315) 8 = .ok (.lastore, 1) := by decide +kernel
  have d14 : decode (mCd 315) 14 = .ok (.ireturn, 1) := by decide +kernel
  have d16 : decode (mCd 315) 16 = .ok (.ireturn, 1) := by decide +kernel
  have hrc : rcv AH (some (.ref x)) 11 = true := by
    have hW : Wp scr d 180 0 [some (.ref x), some (.int p0), none, none] [] AH (fun _ _ => True) := by
      have e4 : ent (mMax 180) [.ref x, .int p0] = [some (.ref x), some (.int p0), none, none] := by rw [mx180]; rfl
      rw [e4] at hrun
      exact ⟨n, r1, AH1, hrun, trivial⟩
    simp only [w180_0, w180_1, w180_2, w180_3, w180_4, w180_5, w180_6] at hW
    cases hg : gfl AH x 11 2 with
    | none => rw [hg] at hW; exact hW.elim
    | some v => exact rcv_of hg
  have hsk : vok AH.length (.ref o) = true := by
    have h2 := hsok
    simp only [sok, List.all_cons, Bool.and_eq_true] at h2
    exact h2.1
  refine vx_ofWH (cc := mCd 315) (maxL := mMax 315) (ret := mRet 315) hpl rfl ?_
  intro p e s m args below meth c s₁ B hml hv
  obtain ⟨rfl, hsz', hP, hD0, hWd, hSd⟩ := hv
  have h9 := hSd.2.2.2.2
  have hx := B.exec
  have hb := B.bytes
  have hr := B.returns
  have hts := atoms_spec (ws := Cond.codeWith (mNm 315) (mCd 315) (mMax 315) (mRet 315) [(0, 9, 12, 13)] :: TBL) B.pre
  have htab : c.exceptionTable.toList = [] ++ (⟨0, 9, 12, 13⟩ : ExceptionTableEntry) :: [] := vx_table (x := mNm 315) B (hts _ List.mem_cons_self)
  have hown : s.vm.findClass (mNm 315).cls = some m.cls := findClass_of_methodNamed B.named
  have hlocks := B.notSynchronized
  have hin : meth.name = (mNm 315).name := (name_of_methodNamed B.named B.method).1
  subst hsz'
  have hel : (ent (mMax 315) [Value.ref x, .int p0, .ref o]).length = mMax 315 := by rw [mx315]; rfl
  have hle : (lg_sl (([Value.ref x, .int p0, .ref o] : List Value).map (cv skA v9 ad))).length ≤ mMax 315 := by
    have := ent_len (skA := skA) (ad := ad) h9 [Value.ref x, .int p0, .ref o] (mMax 315)
    omega
  have hl0 := lv_entry (([Value.ref x, .int p0, .ref o] : List Value).map (cv skA v9 ad)) (n := mMax 315) hle
  rw [lg_entry_eq]
  generalize (lg_sl (([Value.ref x, .int p0, .ref o] : List Value).map (cv skA v9 ad)) ++ List.replicate (mMax 315 - (lg_sl (([Value.ref x, .int p0, .ref o] : List Value).map (cv skA v9 ad))).length) Jvm.Slot.unset).toArray = lsC at hl0 ⊢
  have hL : LR skA v9 ad [some (.ref x), some (.int p0), some (.ref o), none] lsC (mMax 315) := by
    have e4 : ent (mMax 315) [.ref x, .int p0, .ref o] = [some (.ref x), some (.int p0), some (.ref o), none] := by rw [mx315]; rfl
    rw [← e4]
    refine ⟨hel, hl0.1, hl0.2.1, fun i v hv => ?_⟩
    have := ent_get (skA := skA) (ad := ad) h9 [Value.ref x, .int p0, .ref o] (mMax 315) 0 i v hv
    rw [Nat.zero_add] at this
    exact hl0.2.2 _ this
  have cx : Cx scr 315 p s m (([Value.ref x, .int p0, .ref o] : List Value).map (cv skA v9 ad)).toArray meth c (va_A (wsA cI cL skA v9 ad AH) s.heap.size) D cI cL skA v9 := ⟨hx, hb, hml, hown, fun w hw => hts w (List.mem_cons_of_mem _ hw), hWd, hSd, fun q h => Or.inr h, fun h => by rw [hin]; exact h, fun h => absurd h (by decide)⟩
  have hR0 : Rl (va_A (wsA cI cL skA v9 ad AH) s.heap.size) D cI cL skA v9 ad AH s s.heap [] := ⟨hlen, hP, hD0.self, va_S.rf⟩
  have hA : ∀ q, s.heap.size ≤ q → va_A (wsA cI cL skA v9 ad AH) s.heap.size q := fun q h => Or.inr h
  have fr1 : 1 ≤ (headSpec (Cond.codeWith (mNm 315) (mCd 315) (mMax 315) (mRet 315) [(0, 9, 12, 13)] :: TBL) (rmM (d + 1) (AH2.length - AH.length) (hsz AH2 - hsz AH))).room.frames := by show 1 ≤ d + 1 + 21; omega
  have lo1 : 30 ≤ (headSpec (Cond.codeWith (mNm 315) (mCd 315) (mMax 315) (mRet 315) [(0, 9, 12, 13)] :: TBL) (rmM (d + 1) (AH2.length - AH.length) (hsz AH2 - hsz AH))).room.locals := by show 30 ≤ 60 * (d + 1) + 100; omega
  generalize hRm : (headSpec (Cond.codeWith (mNm 315) (mCd 315) (mMax 315) (mRet 315) [(0, 9, 12, 13)] :: TBL) (rmM (d + 1) (AH2.length - AH.length) (hsz AH2 - hsz AH))).room = RR at fr1 lo1 ⊢
  have rf : RR.frames = d + 1 + 21 := by rw [← hRm]; rfl
  have rl : RR.locals = 60 * (d + 1) + 100 := by rw [← hRm]; rfl
  have rcl : RR.cells = AH2.length - AH.length := by rw [← hRm]; rfl
  have rsl : RR.slots = hsz AH2 - hsz AH := by rw [← hRm]; rfl
  -- the end
  have fin : ∀ (ad' : List Nat) (H1 : Heap) (locs1 : List Loc) (lsC1 : Array Jvm.Slot) (pc : Nat), decode (mCd 315) pc = .ok (.ireturn, 1) → ad <+: ad' → Rl (va_A (wsA cI cL skA v9 ad AH) s.heap.size) D cI cL skA v9 ad' AH2 s H1 locs1 → W p l e RR s m (([Value.ref x, .int p0, .ref o] : List Value).map (cv skA v9 ad)).toArray below meth c H1 locs1 (AH2.length - AH.length) (hsz AH2 - hsz AH) (vx_MQ below (QcM D cI cL skA v9 ad AH s.heap.size (some (.int rv)) AH2) (fun _ _ _ => False) (([Value.ref x, .int p0, .ref o] : List Value).map (cv skA v9 ad)).toArray s (AH2.length - AH.length) (hsz AH2 - hsz AH) (va_A (wsA cI cL skA v9 ad AH) s.heap.size)) (F0 m pc lsC1 [.int rv]) := by
    intro ad' H1 locs1 lsC1 pc hd hp hR
    refine vx_ret (W.zret (Qc := QcM D cI cL skA v9 ad AH s.heap.size (some (.int rv)) AH2) (ty := .int) hx hb (by rw [hr, mr315]) rfl (fun t ht _ => ?_) hR.2.2.2.2.2 hd hlocks)
    exact ⟨⟨ad', hp, hR.1, rfl, by rw [ht]; exact hR.2.1, hR.2.2.1⟩, hR.2.2.2.F ht⟩
  refine st_one (st := []) (cells := 0) (slots := 0) cx a0 rfl hR0 hL (Nat.zero_le _) (Nat.zero_le _) fr1 lo1 (fun H1 locs1 lsC1 hR1 hL1 => ?_)
  refine st_one cx a1 rfl hR1 hL1 (Nat.zero_le _) (Nat.zero_le _) fr1 lo1 (fun H2 locs2 lsC2 hR2 hL2 => ?_)
  refine st_one cx a2 rfl hR2 hL2 (Nat.zero_le _) (Nat.zero_le _) fr1 lo1 (fun H3 locs3 lsC3 hR3 hL3 => ?_)
  refine st_one cx a3 rfl hR3 hL3 (Nat.zero_le _) (Nat.zero_le _) fr1 lo1 (fun H4 locs4 lsC4 hR4 hL4 => ?_)
  clear hR1 hL1 hR2 hL2 hR3 hL3
  have hf := rl_free hR4 hA
  have hLn : ∀ ad' : List Nat, LR skA v9 ad' [none, none, none, none] lsC4 (mMax 315) := fun ad' => ⟨by rw [mx315]; rfl, hL4.2.1, hL4.2.2.1, fun i v hv => by
    have : ∀ i : Nat, ¬ ([none, none, none, none] : ALs)[i]? = some (some v) := fun i h => by
      match i, h with
      | 0, h => cases h
      | 1, h => cases h
      | 2, h => cases h
      | 3, h => cases h
      | _ + 4, h => cases h
    exact absurd hv (this i)⟩
  obtain ⟨b, hrunX⟩ := call_virtX (l := l) (e := e) (below := below) (cells := 0) (slots := 0) (pre := [.int p0]) (v0 := .ref x) (post := [.int 0, .ref o]) (na := 2) (R := RR) (AH' := AH1) (r := r1) (d := d) cx d4 (acode_chk a4 (by simp)) (fun ad' sz' h => metX hl hS hrun h) hR4 hL4.2.1 rfl hrc (show (2 : Nat) ≤ 8 by decide) (by omega) (by omega) (by omega) (by omega)
  intro T hT X
  rcases hrunX T hT X with ⟨v, st₀, t, T', L, h0, X', hLf, e1, e2, ⟨⟨vi, hvi⟩, ⟨ad', hp', hlen', hv', hP', hD'⟩, hz, hk⟩, st⟩ | ⟨q, st₀, t, T', L, E, cel, h0, X', hLf, e1, e2, ⟨hE, hr1, hq0, ⟨hz, hk⟩, AHb, ad1, hAH1, hok1, hp1, hlen1, hP1, hD1, hlt⟩, hce, hcv, hcl, st⟩
  · subst hvi
    rcases hc with ⟨h1, _⟩ | ⟨v1, u, h1, hg, hrv, hA2⟩
    · cases h1
    cases h1
    subst hrv
    cases hv'
    rw [h0] at hz hk
    have hR7 : Rl (va_A (wsA cI cL skA v9 ad AH) s.heap.size) D cI cL skA v9 ad' AH1 s T'.heap (locs4 ++ L) := ⟨hlen', by rw [e1]; exact hP', hD'.weaken (fun _ _ _ h => hf _ h), Nat.le_trans hR4.2.2.2.1 (by rw [e1]; exact hz), fun q h1 h2 => by rw [e1, hk q (Nat.lt_of_lt_of_le h1 hR4.2.2.2.1) (fun z => h2 (hf q z))]; exact hR4.2.2.2.2.1 q h1 h2, fun q hq => by
      rcases List.mem_append.mp hq with h | h
      · exact hR4.2.2.2.2.2 q h
      · exact hf _ (hLf q h)⟩
    have ec : 0 + (AH1.length - AH.length) = AH2.length - AH.length := by rw [eL.1]; omega
    have es : 0 + (hsz AH1 - hsz AH) = hsz AH2 - hsz AH := by rw [eL.2]; omega
    rw [ec, es] at X'
    have hs2 : sok ad.length [Value.int 0, .ref o] = true := by
      rw [hlen]
      have e : sok AH.length [Value.int 0, .ref o] = vok AH.length (.ref o) := by simp only [sok, List.all_cons, List.all_nil, vok, Bool.and_true, Bool.true_and]
      exact e.trans hsk
    have hmp : ([.int 0, .ref o] : List Value).map (cv skA v9 ad) = ([.int 0, .ref o] : List Value).map (cv skA v9 ad') := (map_pre hp' hs2).symm
    have K : W p l e RR s m (([Value.ref x, .int p0, .ref o] : List Value).map (cv skA v9 ad)).toArray below meth c T'.heap (locs4 ++ L) (AH2.length - AH.length) (hsz AH2 - hsz AH) (vx_MQ below (QcM D cI cL skA v9 ad AH s.heap.size (some (.int 0)) AH2) (fun _ _ _ => False) (([Value.ref x, .int p0, .ref o] : List Value).map (cv skA v9 ad)).toArray s (AH2.length - AH.length) (hsz AH2 - hsz AH) (va_A (wsA cI cL skA v9 ad AH) s.heap.size)) (F0 m 7 lsC4 (([.int vi, .int 0, .ref o] : List Value).map (cv skA v9 ad'))) := by
      refine st_one cx a7 rfl hR7 (hLn ad') (by rw [rcl]; exact Nat.le_refl _) (by rw [rsl]; exact Nat.le_refl _) fr1 lo1 (fun H8 locs8 lsC8 hR8 hL8 => ?_)
      have h3 := garl_spec hg
      refine va_last hx hb hWd.1 hR8.2.1 hR8.2.2.1 hR8.2.2.2 o 1 (wsA_get hR8.1 h3) rfl (x := vi.toInt64) (i := 0) (rest := []) (by show ¬ ((0 : Int32) < 0 ∨ 1 ≤ _); decide) d8 (fun H9 locs9 g1 g2 g3 => ?_)
      have hset : (wsA cI cL skA v9 ad' AH1).set o (ad'.getD o 0, .inl (cL, [u].length, .inr (.inl (vp_updL (fun j => [u].getD j 0) (0 : Int32).toNatClampNeg vi.toInt64)))) = wsA cI cL skA v9 ad' AH2 := by
        rw [hA2, hpl_eq h3, ← wsA_set hR8.1 h3 (c := .inr (.inr [vi.toInt64]))]
        have ef : vp_updL (fun j => [u].getD j 0) (0 : Int32).toNatClampNeg vi.toInt64 = fun j => [vi.toInt64].getD j 0 := by
          funext j
          unfold vp_updL
          match j with
          | 0 => rfl
          | j + 1 => rfl
        rw [ef]
        rfl
      rw [hset] at g1 g2
      have hR9 : Rl (va_A (wsA cI cL skA v9 ad AH) s.heap.size) D cI cL skA v9 ad' AH2 s H9 locs9 := ⟨by rw [eL.1]; exact hR8.1, g1, g2, g3⟩
      refine st_one (st := []) cx a9 rfl hR9 hL8 (by rw [rcl]; exact Nat.le_refl _) (by rw [rsl]; exact Nat.le_refl _) fr1 lo1 (fun H10 locs10 lsC10 hR10 hL10 => ?_)
      refine st_one cx a15 rfl hR10 hL10 (by rw [rcl]; exact Nat.le_refl _) (by rw [rsl]; exact Nat.le_refl _) fr1 lo1 (fun H11 locs11 lsC11 hR11 hL11 => ?_)
      exact fin ad' H11 locs11 lsC11 16 d16 hp' hR11
    obtain ⟨t2, s1, s2⟩ := K T' rfl X'
    refine ⟨t2, st t2 ?_, s2⟩
    rw [hmp]
    exact s1
  · rcases hc with ⟨_, hrv, hA2⟩ | ⟨v1, u, h1, _⟩
    · subst hrv
      subst hA2
      subst hE
      rw [h0] at hz hk hq0
      have ec : 0 + (AH2.length - AH.length) = AH2.length - AH.length := by omega
      have es : 0 + (hsz AH2 - hsz AH) = hsz AH2 - hsz AH := by omega
      rw [ec, es] at X'
      have hmw : wsA cI cL skA v9 (ad1 ++ [q]) AH2 = wsA cI cL skA v9 ad1 AHb ++ [(q, .inr (13, []))] := by
        rw [hAH1]
        exact wsA_push hlen1 hok1
      have hcE : cel.cls = D.1 13 := by
        have h1 := hWd.1.1 13 ("java/util/NoSuchElementException", (fun _ => ("", "", "", false)), 0) rfl
        exact Option.some.inj (hcl.symm.trans h1.2.1)
      have hsing : ∀ (k : Nat) (z : Nat × va_E), ([(q, .inr (13, []))] : va_W)[k]? = some z → k = 0 ∧ z = (q, .inr (13, [])) := fun k z hz => by
        have h1 := List.mem_of_getElem? hz
        rw [List.mem_singleton] at h1
        have h2 := (List.getElem?_eq_some_iff.mp hz).1
        rw [List.length_singleton] at h2
        exact ⟨by omega, h1⟩
      have hP2 : va_P D vwC (wsA cI cL skA v9 (ad1 ++ [q]) AH2) T'.heap := by
        rw [hmw]
        refine va_P.app (by rw [e1]; exact hP1) (fun k z hz => ?_)
        rw [(hsing k z hz).2]
        exact ⟨_, rfl, cel, by rw [e1]; exact hce, hcE, hcv, fun k hk => absurd hk (Nat.not_lt_zero _)⟩
      have hqA : va_A (wsA cI cL skA v9 ad AH) s.heap.size q := hA q (Nat.le_trans hR4.2.2.2.1 hq0)
      have hD2 : va_D (va_A (wsA cI cL skA v9 ad AH) s.heap.size) (wsA cI cL skA v9 (ad1 ++ [q]) AH2) := by
        rw [hmw]
        refine va_D.app (hD1.weaken (fun _ _ _ h => hf _ h)) ⟨fun i j a b hi hj _ => ?_, fun k z hz => ?_⟩ (fun i j a b ha hb hab => ?_)
        · rw [(hsing i a hi).1, (hsing j b hj).1]
        · rw [(hsing k z hz).2]; exact hqA
        · have h1 := hlt i a ha
          rw [hab, (hsing j b hb).2] at h1
          exact absurd h1 (Nat.lt_irrefl _)
      have hR12 : Rl (va_A (wsA cI cL skA v9 ad AH) s.heap.size) D cI cL skA v9 (ad1 ++ [q]) AH2 s T'.heap (locs4 ++ L) := ⟨by rw [hAH1, List.length_append, List.length_append, hlen1]; rfl, hP2, hD2, Nat.le_trans hR4.2.2.2.1 (by rw [e1]; exact hz), fun q h1 h2 => by rw [e1, hk q (Nat.lt_of_lt_of_le h1 hR4.2.2.2.1) (fun z => h2 (hf q z))]; exact hR4.2.2.2.2.1 q h1 h2, fun q hq => by
        rcases List.mem_append.mp hq with h | h
        · exact hR4.2.2.2.2.2 q h
        · exact hf _ (hLf q h)⟩
      have K : W p l e RR s m (([Value.ref x, .int p0, .ref o] : List Value).map (cv skA v9 ad)).toArray below meth c T'.heap (locs4 ++ L) (AH2.length - AH.length) (hsz AH2 - hsz AH) (vx_MQ below (QcM D cI cL skA v9 ad AH s.heap.size (some (.int 1)) AH2) (fun _ _ _ => False) (([Value.ref x, .int p0, .ref o] : List Value).map (cv skA v9 ad)).toArray s (AH2.length - AH.length) (hsz AH2 - hsz AH) (va_A (wsA cI cL skA v9 ad AH) s.heap.size)) (F0 m 12 lsC4 [.ref q]) := by
        have eq : (ad1 ++ [q]).getD AHb.length 0 = q := by rw [← hlen1]; exact getD_appr
        have hst : ([Value.ref q] : List Value) = ([.ref AHb.length] : List Value).map (cv skA v9 (ad1 ++ [q])) := by
          show [Value.ref q] = [Value.ref ((ad1 ++ [q]).getD AHb.length 0)]
          rw [eq]
        rw [hst]
        refine st_one cx a12 rfl hR12 (hLn _) (by rw [rcl]; exact Nat.le_refl _) (by rw [rsl]; exact Nat.le_refl _) fr1 lo1 (fun H13 locs13 lsC13 hR13 hL13 => ?_)
        refine st_one (st := []) cx a13 rfl hR13 hL13 (by rw [rcl]; exact Nat.le_refl _) (by rw [rsl]; exact Nat.le_refl _) fr1 lo1 (fun H14 locs14 lsC14 hR14 hL14 => ?_)
        exact fin (ad1 ++ [q]) H14 locs14 lsC14 14 d14 (hp1.trans (List.prefix_append _ _)) hR14
      have vW := yc_catch (own := (mNm 315).cls) (name := "java/util/NoSuchElementException") (E := "java/util/NoSuchElementException") (ce := cel) (q := q) (pc := 4) (rest := ([.int 0, .ref o] : List Value).map (cv skA v9 ad)) hown ⟨0, 9, 12, 13⟩ [] htab (by decide) (by decide) (hts _ (List.mem_cons_of_mem _ (led_T _ (List.mem_cons_of_mem _ List.mem_cons_self)))) (nse_cast hWd) (by rw [e1]; exact hce) hcv hcl K
      obtain ⟨t2, s1, s2⟩ := vW T' rfl X'
      exact ⟨t2, st.trans s1, s2⟩
    · rw [hr1] at h1
      cases h1
theorem led_at {k pc nn j na w x : Nat} (ha : acode k pc = some (.invokestatic nn, [3, j, na, w, x])) : k = 0 ∧ pc = 1604 ∧ nn = 224 := by
  have h1 : (∀ k ∈ List.range 316, ∀ q ∈ mOp k, q.2.length = 5 → q.2.head? = some 3 → k = 0 ∧ q.1 = 1604) := by decide +kernel
  obtain ⟨len, -, -, ho⟩ := acode_spec ha
  have hm : (pc, [3, j, na, w, x]) ∈ mOp k := by
    have h2 := opl_mem (mOp k) pc (by rw [← ho]; simp)
    rw [← ho] at h2
    exact h2
  have hk : k < 316 := by
    rcases Nat.lt_or_ge k 316 with h | h
    · exact h
    · unfold mOp at hm
      rw [List.getElem?_eq_none (by rw [show PT.length = 316 from by decide +kernel]; exact h)] at hm
      cases hm
  obtain ⟨rfl, rfl⟩ := h1 k (List.mem_range.mpr hk) _ hm rfl rfl
  rw [a0_1604] at ha
  cases ha
  exact ⟨rfl, rfl, rfl⟩
theorem c3_all (hl : l.stackTraces = false) : C3 l scr D cI cL skA v9 := by
  intro n hS d x o p0 AH r1 AH1 hrun rv AH2 hc p e R s m args below meth c A H locs cells slots Q ad lsC k pc nn j na w x' rest cx ha hR hls hs8 hsok hf1 hf2 hc1 hc2 kk
  obtain ⟨rfl, rfl, rfl⟩ := led_at ha
  obtain ⟨hx, hbb, hml, hown, hts, hWd, hSd, hA, hini, hscr⟩ := cx
  have h9 := hSd.2.2.2.2
  have d0 : decode (mCd 0) 1604 = .ok (.invokestatic 224, 3) := by decide +kernel
  have hM := metL hl hS hrun hc hsok (ad := ad) (sz := H.size) hR.1
  have hf := rl_free hR hA
  have hg : ∀ w ∈ va_wsS (mNm 0).cls 224 (mNm 315) (Cond.codeWith (mNm 315) (mCd 315) (mMax 315) (mRet 315) [(0, 9, 12, 13)] :: TBL), w ∈ TBL := by
    intro w' hw'
    unfold va_wsS at hw'
    rcases List.mem_append.mp hw' with h | h
    · refine led_T w' ?_
      simp only [List.mem_cons, List.not_mem_nil, or_false] at h ⊢
      rcases h with h | h | h
      · exact Or.inr (Or.inr (Or.inl h))
      · exact Or.inr (Or.inr (Or.inr (Or.inl h)))
      · exact Or.inr (Or.inr (Or.inr (Or.inr h)))
    · rcases List.mem_cons.mp h with h | h
      · exact led_T w' (by rw [h]; exact List.mem_cons_self)
      · exact h
  have hrun2 := vx_runSX (l := l) (e := e) (below := below) (meth := meth) (cells := cells) (slots := slots) (locs := locs) (H := H) (As := ([Value.ref x, .int p0, .ref o] : List Value).map (cv skA v9 ad)) (rest := rest.map (cv skA v9 ad)) (g := F0 m 1604 lsC ((.ref o :: .int p0 :: .ref x :: rest).map (cv skA v9 ad))) ⟨hx, hbb, hml, hown, hts⟩ hM (vx_cwSW 3 hts (goodT hg) rfl rfl rfl ⟨by decide +kernel, by decide +kernel, by decide +kernel⟩ ⟨by show d + 1 + 21 + 1 ≤ _; omega, by show 8 + (mMax 315 + 11) + (60 * (d + 1) + 100) ≤ _; rw [mx315]; omega⟩) ⟨PcM_blind, PcM_of hR hA hWd hSd⟩ rfl rfl hls rfl (lv_room (by rw [csum_cv h9]; exact hs8)) d0 ⟨hc1, hc2⟩
  intro T hT X
  rcases hrun2 T hT X with ⟨v, st₀, t, T', L, h0, X', hL, e1, e2, ⟨⟨ad', hp', hlen', hv', hP', hD'⟩, hz, hk⟩, st⟩ | ⟨q, st₀, t, T', L, E, cel, h0, X', hL, e1, e2, hxF, _⟩
  · cases hv'
    rw [h0] at hz hk
    obtain ⟨t2, a1, b1⟩ := kk ad' T'.heap (locs ++ L) hp' ⟨hlen', by rw [e1]; exact hP', hD'.weaken (fun _ _ _ h => hf _ h), Nat.le_trans hR.2.2.2.1 (by rw [e1]; exact hz), fun q h1 h2 => by rw [e1, hk q (Nat.lt_of_lt_of_le h1 hR.2.2.2.1) (fun z => h2 (hf q z))]; exact hR.2.2.2.2.1 q h1 h2, fun q hq => by
      rcases List.mem_append.mp hq with h | h
      · exact hR.2.2.2.2.2 q h
      · exact hf _ (hL q h)⟩ T' rfl X'
    exact ⟨t2, st t2 a1, b1⟩
  · exact hxF.elim
end C3R
