/-! ===== the law's led: an exception, and its catch ===== -/
def XM (D : va_G) (cI cL : ClassId) (skA : Nat → Nat) (v9 : Value) (ad : List Nat) (AH : List AC) (sz : Nat) (r1 : Option Value) (AH1 : List AC) : Addr → String → State → State → Prop := fun q E st t =>
  E = "java/util/NoSuchElementException" ∧ r1 = some .null ∧ st.heap.size ≤ q ∧ va_F (va_A (wsA cI cL skA v9 ad AH) sz) st t ∧ ∃ (AHb : List AC) (ad1 : List Nat), AH1 = AHb ++ [.inl (13, [])] ∧ hok AHb.length AHb = true ∧ ad <+: ad1 ∧ ad1.length = AHb.length ∧ va_P D vwC (wsA cI cL skA v9 ad1 AHb) t.heap ∧ va_D (va_A (wsA cI cL skA v9 ad AH) sz) (wsA cI cL skA v9 ad1 AHb) ∧ ∀ (k : Nat) (z : Nat × va_E), (wsA cI cL skA v9 ad1 AHb)[k]? = some z → z.1 < q
/-- a return, and what is returned is a number -/
def QX (D : va_G) (cI cL : ClassId) (skA : Nat → Nat) (v9 : Value) (ad : List Nat) (AH : List AC) (sz : Nat) (r1 : Option Value) (AH1 : List AC) : Array Value → State → Outcome → State → Prop := fun a st oc t => (∃ v : Int32, r1 = some (.int v)) ∧ QcM D cI cL skA v9 ad AH sz r1 AH1 a st oc t
theorem mr315 : mRet 315 = some .int := by decide +kernel
theorem mx315 : mMax 315 = 4 := by decide +kernel
theorem at0_all : ∀ w ∈ Cond.classLink (mNm 180).cls 360 "java/util/NoSuchElementException" :: Cond.initialized "java/util/NoSuchElementException" :: vx_at0 (mNm 180).cls 362 "java/util/NoSuchElementException" ["java/lang/RuntimeException", "java/lang/Exception"], (w = Cond.castable "java/util/NoSuchElementException" "java/util/NoSuchElementException" ∨ (∃ x ∈ DCL, w = Cond.declares x) ∨ w ∈ TBL) ∧ vx_ot w = true := by decide +kernel
theorem castable_self {args : Array Value} {s : State} {X : String} {c : ClassId} (h : s.vm.findClass X = some c) : (Cond.castable X X).before args s = true := by
  have e : s.vm.assignable c c = true := by unfold Vm.assignable Vm.assignableAux; simp
  simp [Cond.before, Cond.holds, Cond.value, h, e]
theorem nse_cast {D : va_G} {cI cL : ClassId} {args : Array Value} {s : State} (h : Wd D cI cL s) : (Cond.castable "java/util/NoSuchElementException" "java/util/NoSuchElementException").before args s = true := castable_self (h.1.1 13 ("java/util/NoSuchElementException", (fun _ => ("", "", "", false)), 0) rfl).2.1
section C3P
variable {l : Launch} {scr : List Int32} {D : va_G} {cI cL : ClassId} {skA : Nat → Nat} {v9 : Value}
theorem metX {n d x : Nat} {p0 : Int32} {AH AH1 : List AC} {r1 : Option Value} (hl : l.stackTraces = false) (hS : SIM l scr D cI cL skA v9 n) (hrun : run scr n d 180 0 (ent (mMax 180) [.ref x, .int p0]) [] AH = some (r1, AH1)) {ad : List Nat} {sz : Nat} (hlen : ad.length = AH.length) : vy_Met l (mNm 180) (wsMM 180) (rmM d (AH1.length - AH.length) (hsz AH1 - hsz AH)) (PcM D cI cL skA v9 ad AH [.ref x, .int p0] sz) (QX D cI cL skA v9 ad AH sz r1 AH1) (XM D cI cL skA v9 ad AH sz r1 AH1) (AH1.length - AH.length) (hsz AH1 - hsz AH) (va_A (wsA cI cL skA v9 ad AH) sz) := by
  have hpl : plainName (mNm 180).cls = true := by decide +kernel
  refine vy_ofW (cc := mCd 180) (maxL := mMax 180) (ret := mRet 180) hpl rfl ?_
  intro p e s m args below meth c s₁ B hml hnt hv
  obtain ⟨rfl, hsz', hP, hD0, hWd, hSd⟩ := hv
  have h9 := hSd.2.2.2.2
  have hx := B.exec
  have hb := B.bytes
  have hr := B.returns
  have hts := atoms_spec (ws := wsMM 180) B.pre
  have hown : s.vm.findClass (mNm 180).cls = some m.cls := findClass_of_methodNamed B.named
  have hlocks := B.notSynchronized
  have hin : meth.name = (mNm 180).name := (name_of_methodNamed B.named B.method).1
  subst hsz'
  have hel : (ent (mMax 180) [Value.ref x, .int p0]).length = mMax 180 := by rw [mx180]; rfl
  have hle : (lg_sl (([Value.ref x, .int p0] : List Value).map (cv skA v9 ad))).length ≤ mMax 180 := by
    have := ent_len (skA := skA) (ad := ad) h9 [Value.ref x, .int p0] (mMax 180)
    omega
  have hl0 := lv_entry (([Value.ref x, .int p0] : List Value).map (cv skA v9 ad)) (n := mMax 180) hle
  rw [lg_entry_eq]
  generalize (lg_sl (([Value.ref x, .int p0] : List Value).map (cv skA v9 ad)) ++ List.replicate (mMax 180 - (lg_sl (([Value.ref x, .int p0] : List Value).map (cv skA v9 ad))).length) Jvm.Slot.unset).toArray = lsC at hl0 ⊢
  have hL : LR skA v9 ad (ent (mMax 180) [.ref x, .int p0]) lsC (mMax 180) := by
    refine ⟨hel, hl0.1, hl0.2.1, fun i v hv => ?_⟩
    have := ent_get (skA := skA) (ad := ad) h9 [Value.ref x, .int p0] (mMax 180) 0 i v hv
    rw [Nat.zero_add] at this
    exact hl0.2.2 _ this
  refine hS d 180 0 (ent (mMax 180) [.ref x, .int p0]) [] AH r1 AH1 hrun p e _ s m _ below meth c (va_A (wsA cI cL skA v9 ad AH) s.heap.size) s.heap [] 0 0 _ ad lsC ⟨hx, hb, hml, hown, fun w hw => hts w (List.mem_cons_of_mem _ hw), hWd, hSd, fun q h => Or.inr h, fun h => by rw [hin]; exact h, fun h => absurd h (by decide)⟩ ⟨hlen, hP, hD0.self, va_S.rf⟩ hL (Nat.le_refl _) (Nat.le_refl _) (by rw [Nat.zero_add]; exact Nat.le_refl _) (by rw [Nat.zero_add]; exact Nat.le_refl _) ?_
  intro ad1 H1 locs1 lsC1 pc1 st1 AHb i1 ops1 hpre hle1 hle2 hR1 ha1 hr1 hsz1
  obtain ⟨len, hd, hln, ho⟩ := acode_spec ha1
  have fin : ∀ (t : State), t.heap = H1 → ∀ (r' : Option Value), (r', AHb) = (r1, AH1) → QcM D cI cL skA v9 ad AH s.heap.size r1 AH1 (([Value.ref x, .int p0] : List Value).map (cv skA v9 ad)).toArray s (.returned (r'.map (cv skA v9 ad1))) t := by
    intro t ht r' he
    cases he
    exact ⟨⟨ad1, hpre, hR1.1, rfl, by rw [ht]; exact hR1.2.1, hR1.2.2.1⟩, hR1.2.2.2.F ht⟩
  unfold rstep at hr1
  split at hr1
  · split at hr1
    · rename_i v
      split at hr1
      · rename_i ty hty
        split at hr1
        · rename_i hn
          cases hr1
          have hlen1 : len = 1 := by simpa [lenOk] using hln
          subst hlen1
          have key := W.zret (m := m) (p := p) (l := l) (e := e) (R := (headSpec (wsMM 180) (rmM d (AH1.length - AH.length) (hsz AH1 - hsz AH))).room) (below := below) (H := H1) (locs := locs1) (cells := AH1.length - AH.length) (slots := hsz AH1 - hsz AH) (ls := lsC1) (free := va_A (wsA cI cL skA v9 ad AH) s.heap.size) (Qc := QX D cI cL skA v9 ad AH s.heap.size (some (.int v)) AH1) hx hb (by rw [hr]; exact hty) hn (fun t ht _ => ⟨⟨v, rfl⟩, fin t ht (some (.int v)) rfl⟩) hR1.2.2.2.2.2 hd hlocks
          rw [Nat.zero_add, Nat.zero_add]
          exact vy_ret key
        · cases hr1
      · cases hr1
    · cases hr1
  · split at hr1
    · split at hr1
      · rename_i hty
        rw [mr180] at hty
        cases hty
      · cases hr1
    · cases hr1
  · split at hr1
    · split at hr1
      · rename_i hty
        rw [mr180] at hty
        cases hty
      · cases hr1
    · cases hr1
  · split at hr1
    · split at hr1
      · rename_i hok1
        cases hr1
        have hm : (pc1, [999]) ∈ mOp 180 := by
          have h1 := opl_mem (mOp 180) pc1 (by rw [← ho]; simp)
          rw [← ho] at h1
          exact h1
        have hpc : pc1 = 44 := (by decide +kernel : ∀ q ∈ mOp 180, q.2 = [999] → q.1 = 44) _ hm rfl
        subst hpc
        have d0 : decode (mCd 180) 44 = .ok (.new 360, 3) := by decide +kernel
        have d3 : decode (mCd 180) (44 + 3) = .ok (.dup, 1) := by decide +kernel
        have d4 : decode (mCd 180) (44 + 4) = .ok (.invokespecial 362, 3) := by decide +kernel
        have d7 : decode (mCd 180) (44 + 7) = .ok (.athrow, 1) := by decide +kernel
        have e6 : hsz (AHb ++ [.inl (13, [])]) = hsz AHb + 6 := hsz_push
        have e7 : (AHb ++ [(.inl (13, []) : AC)]).length = AHb.length + 1 := List.length_append
        have hT : ∀ w ∈ Cond.classLink (mNm 180).cls 360 "java/util/NoSuchElementException" :: Cond.initialized "java/util/NoSuchElementException" :: vx_at0 (mNm 180).cls 362 "java/util/NoSuchElementException" ["java/lang/RuntimeException", "java/lang/Exception"], w.before (([Value.ref x, .int p0] : List Value).map (cv skA v9 ad)).toArray s = true := fun w hw => by
          rcases (at0_all w hw).1 with h | ⟨x, hx, h⟩ | h
          · rw [h]; exact nse_cast hWd
          · rw [h]; exact dc_any (hWd.2.2 x hx)
          · exact hts w (List.mem_cons_of_mem _ h)
        refine vy_throw0 (cc := mCd 180) (pc := 44) (rest := []) (own := (mNm 180).cls) (cls := "java/util/NoSuchElementException") (names := ["java/lang/RuntimeException", "java/lang/Exception"]) (ik := 360) (ic := 362) (A := va_A (wsA cI cL skA v9 ad AH) s.heap.size) hx hb hl hown (by decide +kernel) (by decide +kernel) (hT _ List.mem_cons_self) (hT _ (List.mem_cons_of_mem _ List.mem_cons_self)) (fun w hw => hT w (List.mem_cons_of_mem _ (List.mem_cons_of_mem _ hw))) (fun w hw => (at0_all w hw).2) hSd.2.2.2.1.2.1 hSd.2.2.2.1.2.2 hR1.2.2.2 (hsz1.trans hml.symm) d0 d3 d4 d7 (fun z hz => (hnt z hz).elim) (by show 2 + 3 < d + 21; omega) (by show 0 + (13 * (2 + 1) + 42) ≤ 60 * d + 100; omega) (by show 0 + (AHb.length - AH.length) + 1 ≤ (AHb ++ [(.inl (13, []) : AC)]).length - AH.length; rw [e7]; omega) (by show 0 + (hsz AHb - hsz AH) + 6 ≤ hsz (AHb ++ [(.inl (13, []) : AC)]) - hsz AH; rw [e6]; omega) hlocks (fun t _ hlt hk => ?_) hR1.2.2.2.2.2 (by rw [e7]; omega) (by rw [e6]; omega)
        have hle0 : s.heap.size ≤ H1.size := hR1.2.2.2.1
        exact ⟨rfl, rfl, hle0, ⟨Nat.le_trans hle0 (Nat.le_of_lt hlt), fun q h1 h2 => by rw [hk q (Nat.lt_of_lt_of_le h1 hle0)]; exact hR1.2.2.2.2.1 q h1 h2⟩, AHb, ad1, rfl, hok1, hpre, hR1.1, fun k z hz => (hR1.2.1 k z hz).kept (hk z.1 (vx_lt hR1.2.1 hz)), hR1.2.2.1, fun k z hz => vx_lt hR1.2.1 hz⟩
      · cases hr1
    · cases hr1
  · cases hr1
end C3P
