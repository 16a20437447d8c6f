/-! ===== what holds between two calls ===== -/
section LEDR
variable {scr : List Int32} {d k pc : Nat} {ls : ALs} {H : List AC} {Q : Option Value → List AC → Prop}
/-- the law's call of its own led -/
theorem Wp_led {nn j na w x' o x : Nat} {p0 : Int32} (ha : acode k pc = some (.invokestatic nn, [3, j, na, w, x'])) (hl : lok H.length ls = true) (hs : sok H.length [.ref o, .int p0, .ref x] = true) (h : Wp scr d 180 0 (ent (mMax 180) [.ref x, .int p0]) [] H (fun r H' => (r = some .null ∧ Wp scr (d + 2) k (pc + 3) ls [.int 1] H' Q) ∨ (∃ v u, r = some (.int v) ∧ garl H' o = some [u] ∧ Wp scr (d + 2) k (pc + 3) ls [.int 0] (hpl H' o [v.toInt64]) Q))) : Wp scr (d + 2) k pc ls [.ref o, .int p0, .ref x] H Q := by
  obtain ⟨n1, r1, H1, hr1, hc⟩ := h
  have h8 : csum [] ≤ 8 := by decide
  rcases hc with ⟨rfl, n2, r2, H2, hr2, hq⟩ | ⟨v, u, rfl, hg, n2, r2, H2, hr2, hq⟩
  · refine ⟨max n1 n2 + 1, r2, H2, ?_, hq⟩
    have e1 := run_le (Nat.le_max_left n1 n2) hr1
    have e2 := run_le (Nat.le_max_right n1 n2) hr2
    rw [run]
    simp only [ha, rstep, cinfo, if_true, h8, hl, hs, and_self, e1, e2]
  · refine ⟨max n1 n2 + 1, r2, H2, ?_, hq⟩
    have e1 := run_le (Nat.le_max_left n1 n2) hr1
    have e2 := run_le (Nat.le_max_right n1 n2) hr2
    rw [run]
    simp only [ha, rstep, cinfo, if_true, h8, hl, hs, and_self, e1, hg, e2]
end LEDR
def Bst (n nW nG : Nat) (st : List Int32) : Prop := Fb n st ∧ (∃ sh, sh < 2 ^ nG ∧ st.getD 7 0 = nI sh) ∧ (∃ up, up < 2 ^ nW ∧ st.getD 8 0 = nI up) ∧ ∃ g, g ≤ 999 ∧ st.getD 9 0 = nI g
def Tp (H : List AC) (tp : Nat) : Prop := fi H 0 1 = nI tp ∧ fi H 68 2 = nI tp ∧ tp ≤ 900 ∧ ar H 2 = ar H 69 ∧ ∀ q, ¬ (ar H 2).getD q 0 = -1
def Tr (H : List AC) : Prop := fi H 0 13 = fi H 68 11 ∧ fi H 0 14 = fi H 68 9 ∧ (fi H 0 13 = 4 → fi H 0 15 = fi H 68 10)
def Vv (R st : List Int32) (Us Ks : List (List Int32)) (n nW nG nN : Nat) : Prop := Vg R n ∧ Vf R n ∧ Vd R nN ∧ (∃ hl, hl ≤ 100 ∧ rg R 1 = nI hl) ∧ Bst n nW nG st ∧ (∀ s ∈ Us, Bst n nW nG s) ∧ (∀ s ∈ Ks, Bst n nW nG s) ∧ (n = 0 → nG = 0 ∧ nW = 0 ∧ (∀ j, j < 8 → rg R j = 0) ∧ st.getD 9 0 = 0 ∧ Us = [] ∧ Ks = [])
/-- what was thrown lies behind all else -/
def Tl (H : List AC) : Prop := ∀ a c, 84 ≤ a → H[a]? = some c → c = .inl (13, [])
def RmT (H : List AC) : Prop := Rm H ∧ Tl H
def Ivv (H : List AC) (R st : List Int32) (Us Ks : List (List Int32)) (n nS nW nG nU nN tp : Nat) : Prop := CIv H R st n nS nW nG nU nN ∧ MIv H R st n nS nW nG nU nN ∧ CUn H Us n ∧ CIm H Ks n ∧ MUn H Us ∧ MIm H Ks ∧ Tp H tp ∧ Tr H ∧ RmT H ∧ Vv R st Us Ks n nW nG nN
def INV (H : List AC) : Prop := ∃ R st Us Ks n nS nW nG nU nN tp, Ivv H R st Us Ks n nS nW nG nU nN tp
section INVS
variable {H H1 H2 : List AC} {R st st' : List Int32} {Us Ks Us' Ks' : List (List Int32)} {n nS nW nG nU nN tp : Nat} {tr : Int32} {S : List Nat} {F : List (Nat × Nat)}
theorem Tl.of (h : Tl H) (hF : Fg S F H H1) (hs : ∀ a ∈ S, a < 84) : Tl H1 := fun a c h8 e => h a c h8 (by rw [← hF.tail h8 (fun q => by have := hs a q; omega)]; exact e)
/-- cells of neither side's own tables change -/
theorem RmT.og (h : RmT H) (hF : Fg S F H H1) (hs : ∀ a ∈ S, (¬ a = 17 ∧ ¬ a = 19 ∧ ¬ a = 21 ∧ ¬ a = 23 ∧ ¬ a = 25 ∧ ¬ a = 27) ∧ a < 84) (hf : ∀ p ∈ F, ¬ p.2 = 0 ∨ p.1 < 17 ∨ 28 < p.1) : RmT H1 := ⟨h.1.og hF (fun a q => (hs a q).1) hf, h.2.of hF (fun a q => (hs a q).2)⟩
theorem RmT.of (h : RmT H) (hF : Fg S F H H1) (hs : ∀ a ∈ S, (a < 16 ∨ 28 < a) ∧ a < 84) (hf : ∀ p ∈ F, p.1 < 16 ∨ 28 < p.1) : RmT H1 := h.og hF (fun a q => by have := hs a q; omega) (fun p q => by have := hf p q; omega)
/-- no cell holds a reference that there isn't -/
theorem hok_of (hS : Shp H) (hT : Tl H) : hok H.length H = true := by
  have hl := shp_len hS
  have hSH : hok 84 SH = true := by decide +kernel
  unfold hok at hSH ⊢
  rw [List.all_eq_true] at hSH ⊢
  intro c hc
  obtain ⟨a, ha⟩ := List.getElem?_of_mem hc
  rcases c with ⟨ci, fs⟩ | xs
  · rcases Nat.lt_or_ge a 84 with h8 | h8
    · have h1 := shp_get hS h8
      rw [ha] at h1
      have h2 := hSH _ (List.mem_of_getElem? h1.symm)
      simp only [shc, List.all_map, List.all_eq_true] at h2 ⊢
      intro v hv
      have h3 := h2 v hv
      simp only [Function.comp] at h3
      cases v with
      | ref r =>
        have h4 : r < 84 := of_decide_eq_true (show decide (r < 84) = true from h3)
        exact decide_eq_true (Nat.lt_of_lt_of_le h4 hl)
      | _ => rfl
    · have := hT a _ h8 ha
      injection this with this
      injection this with e1 e2
      subst e2
      rfl
  · rfl
theorem inv_q (h : Ivv H R st Us Ks n nS nW nG nU nN tp) (hF1 : Fg SC FC H H1) (e1 : fi H1 0 13 = tr) (hF2 : Fg SM FM H1 H2) (e2 : fi H2 68 11 = tr) (h4 : ¬ tr = 4) : Ivv H2 R st Us Ks n nS nW nG nU nN tp := by
  obtain ⟨hC, hM, hU, hK, mU, mK, ⟨t1, t2, t3, t4, t5⟩, ⟨r1, r2, r3⟩, hR, hV⟩ := h
  refine ⟨(hC.of hF1 (by decide) (by decide)).of hF2 (by decide) (by decide), (hM.of hF1 (by decide) (by decide) (by decide) (by decide)).q hF2, (hU.of hF1 (by decide) (by decide) (by decide)).of hF2 (by decide) (by decide) (by decide), (hK.of hF1 (by decide) (by decide) (by decide)).of hF2 (by decide) (by decide) (by decide), (mU.of hF1 (by decide) (by decide) (by decide)).of hF2 (by decide) (by decide) (by decide), (mK.of hF1 (by decide) (by decide) (by decide)).of hF2 (by decide) (by decide) (by decide), ⟨?_, ?_, t3, ?_, ?_⟩, ⟨?_, ?_, ?_⟩, (hR.of hF1 (by decide) (by decide)).of hF2 (by decide) (by decide), hV⟩
  · rw [hF2.int (by decide) (by decide), hF1.int (by decide) (by decide)]; exact t1
  · rw [hF2.int (by decide) (by decide), hF1.int (by decide) (by decide)]; exact t2
  · rw [hF2.arr (a := 2) (by decide), hF1.arr (a := 2) (by decide), hF2.arr (a := 69) (by decide), hF1.arr (a := 69) (by decide)]; exact t4
  · rw [hF2.arr (a := 2) (by decide), hF1.arr (a := 2) (by decide)]; exact t5
  · rw [hF2.int (a := 0) (by decide) (by decide), e1, e2]
  · rw [hF2.int (a := 0) (by decide) (by decide), hF1.int (a := 0) (by decide) (by decide), hF2.int (a := 68) (by decide) (by decide), hF1.int (a := 68) (by decide) (by decide)]; exact r2
  · intro q
    rw [hF2.int (a := 0) (by decide) (by decide), e1] at q
    exact absurd q h4
theorem inv_a (h : Ivv H R st Us Ks n nS nW nG nU nN tp) (hF1 : Fg SCa FCa H H1) (e1 : fi H1 0 13 = tr) (hSn : Sn H1 30 32 st' n) (hU' : CUn H1 Us' n) (hK' : CIm H1 Ks' n) (hF2 : Fg SMa FMa H1 H2) (e2 : fi H2 68 11 = tr) (h73 : ar H2 73 = st') (mU' : MUn H2 Us') (mK' : MIm H2 Ks') (h4 : ¬ tr = 4) (hV' : Vv R st' Us' Ks' n nW nG nN) : Ivv H2 R st' Us' Ks' n nS nW nG nU nN tp := by
  obtain ⟨hC, hM, hU, hK, mU, mK, ⟨t1, t2, t3, t4, t5⟩, ⟨r1, r2, r3⟩, hR, hV⟩ := h
  have hC1 : CIv H1 R st' n nS nW nG nU nN := ⟨hC.1.of hF1 (by decide) (by decide), hSn, hV'.2.2.2.2.1.1⟩
  refine ⟨hC1.of hF2 (by decide) (by decide), ⟨hF2.shp, ?_, h73, hM.mn, ?_⟩, hU'.of hF2 (by decide) (by decide) (by decide), hK'.of hF2 (by decide) (by decide) (by decide), mU', mK', ⟨?_, ?_, t3, ?_, ?_⟩, ⟨?_, ?_, ?_⟩, (hR.of hF1 (by decide) (by decide)).of hF2 (by decide) (by decide), hV'⟩
  · rw [hF2.arr (a := 71) (by decide), hF1.arr (a := 71) (by decide)]; exact hM.2.1
  · rw [hF2.int (by decide) (by decide), hF1.int (by decide) (by decide)]; exact hM.2.2.2.2
  · rw [hF2.int (by decide) (by decide), hF1.int (by decide) (by decide)]; exact t1
  · rw [hF2.int (by decide) (by decide), hF1.int (by decide) (by decide)]; exact t2
  · rw [hF2.arr (a := 2) (by decide), hF1.arr (a := 2) (by decide), hF2.arr (a := 69) (by decide), hF1.arr (a := 69) (by decide)]; exact t4
  · rw [hF2.arr (a := 2) (by decide), hF1.arr (a := 2) (by decide)]; exact t5
  · rw [hF2.int (a := 0) (by decide) (by decide), e1, e2]
  · rw [hF2.int (a := 0) (by decide) (by decide), hF1.int (a := 0) (by decide) (by decide), hF2.int (a := 68) (by decide) (by decide), hF1.int (a := 68) (by decide) (by decide)]; exact r2
  · intro q
    rw [hF2.int (a := 0) (by decide) (by decide), e1] at q
    exact absurd q h4
/-- only what the reference says of throwing changes -/
theorem inv_t (h : Ivv H R st Us Ks n nS nW nG nU nN tp) (hF : Fg [] [(68, 0)] H H1) : Ivv H1 R st Us Ks n nS nW nG nU nN tp := by
  obtain ⟨hC, hM, hU, hK, mU, mK, ⟨t1, t2, t3, t4, t5⟩, ⟨r1, r2, r3⟩, hR, hV⟩ := h
  refine ⟨hC.of hF (by decide) (by decide), hM.of hF (by decide) (by decide) (by decide) (by decide), hU.of hF (by decide) (by decide) (by decide), hK.of hF (by decide) (by decide) (by decide), mU.of hF (by decide) (by decide) (by decide), mK.of hF (by decide) (by decide) (by decide), ⟨?_, ?_, t3, ?_, ?_⟩, ⟨?_, ?_, ?_⟩, hR.of hF (by decide) (by decide), hV⟩
  · rw [hF.int (by decide) (by decide)]; exact t1
  · rw [hF.int (by decide) (by decide)]; exact t2
  · rw [hF.arr (a := 2) (by decide), hF.arr (a := 69) (by decide)]; exact t4
  · rw [hF.arr (a := 2) (by decide)]; exact t5
  · rw [hF.int (a := 0) (by decide) (by decide), hF.int (a := 68) (by decide) (by decide)]; exact r1
  · rw [hF.int (a := 0) (by decide) (by decide), hF.int (a := 68) (by decide) (by decide)]; exact r2
  · rw [hF.int (a := 0) (f := 13) (by decide) (by decide), hF.int (a := 0) (f := 15) (by decide) (by decide), hF.int (a := 68) (by decide) (by decide)]; exact r3
/-- the cells of both sides are the same -/
def Ext (H H1 : List AC) : Prop := (Shp H1 ∧ (Tl H → Tl H1)) ∧ (∀ a, a < 83 → ar H1 a = ar H a) ∧ (∀ a f, a < 83 → fi H1 a f = fi H a f)
theorem inv_x (h : Ivv H R st Us Ks n nS nW nG nU nN tp) (hx : Ext H H1) : Ivv H1 R st Us Ks n nS nW nG nU nN tp := by
  obtain ⟨⟨hs, hx4⟩, ha, hf⟩ := hx
  have e2 := ha 2 (by decide)
  have e5 := ha 5 (by decide)
  have e7 := ha 7 (by decide)
  have e9 := ha 9 (by decide)
  have e11 := ha 11 (by decide)
  have e13 := ha 13 (by decide)
  have e15 := ha 15 (by decide)
  have e32 := ha 32 (by decide)
  have e64 := ha 64 (by decide)
  have e67 := ha 67 (by decide)
  have e69 := ha 69 (by decide)
  have e71 := ha 71 (by decide)
  have e73 := ha 73 (by decide)
  have e74 := ha 74 (by decide)
  have e75 := ha 75 (by decide)
  obtain ⟨⟨⟨_, hCn, tb⟩, hSn, hFb⟩, ⟨_, hM⟩, hU, hK, mU, mK, hT, hr, hR, hV⟩ := h
  refine ⟨⟨⟨hs, ?_, ?_⟩, ?_, hFb⟩, ⟨hs, ?_⟩, ?_, ?_, ?_, ?_, ?_, ?_, ?_, hV⟩
  · unfold Cn at hCn ⊢
    rw [hf 4 2 (by decide), hf 6 2 (by decide), hf 8 2 (by decide), hf 10 2 (by decide), hf 12 2 (by decide), hf 14 2 (by decide)]; exact hCn
  · rw [e5, e7, e9, e11, e13, e15, hf 3 0 (by decide), hf 3 1 (by decide)]; exact tb
  · unfold Sn at hSn ⊢
    rw [e32, hf 30 1 (by decide), hf 30 2 (by decide), hf 30 3 (by decide)]; exact hSn
  · rw [e71, e73, hf 68 14 (by decide)]; exact hM
  · unfold CUn at hU ⊢
    rw [e64, hf 62 0 (by decide), hf 62 2 (by decide), hf 62 3 (by decide)]; exact hU
  · unfold CIm at hK ⊢
    rw [e67, hf 65 0 (by decide), hf 65 2 (by decide), hf 65 3 (by decide)]; exact hK
  · unfold MUn at mU ⊢
    rw [e74, hf 68 20 (by decide)]; exact mU
  · unfold MIm at mK ⊢
    rw [e75, hf 68 21 (by decide)]; exact mK
  · unfold Tp at hT ⊢
    rw [e2, e69, hf 0 1 (by decide), hf 68 2 (by decide)]; exact hT
  · unfold Tr at hr ⊢
    rw [hf 0 13 (by decide), hf 0 14 (by decide), hf 0 15 (by decide), hf 68 9 (by decide), hf 68 10 (by decide), hf 68 11 (by decide)]; exact hr
  · refine ⟨?_, hx4 hR.2⟩
    have hR := hR.1
    unfold Rm at hR ⊢
    rw [hf 17 0 (by decide), hf 19 0 (by decide), hf 21 0 (by decide), hf 23 0 (by decide), hf 25 0 (by decide), hf 27 0 (by decide)]; exact hR
theorem ext_push (hS : Shp H) : Ext H (H ++ [.inl (13, [])]) := by
  have hl := shp_len hS
  have g : ∀ a, a < 84 → (H ++ [.inl (13, [])])[a]? = H[a]? := fun a ha => List.getElem?_append_left (by omega)
  refine ⟨⟨?_, fun hT a c h8 e => ?_⟩, fun a ha => ?_, fun a f ha => ?_⟩
  · unfold Shp at hS ⊢
    rw [List.take_append_of_le_length hl]; exact hS
  · rcases Nat.lt_or_ge a H.length with h | h
    · rw [List.getElem?_append_left h] at e; exact hT a c h8 e
    · rw [List.getElem?_append_right h] at e
      have := List.mem_of_getElem? e
      rw [List.mem_singleton] at this
      exact this
  · unfold ar garr
    rw [g a (by omega)]
  · unfold fi
    rw [g a (by omega)]
theorem shp_arl (hS : Shp H) : ∃ u, garl H 83 = some [u] := by
  have h1 := shp_get hS (a := 83) (by decide)
  have h2 : SH[83]? = some (.inr (.inr (List.replicate 1 0))) := rfl
  rw [h2] at h1
  cases hc : H[83]? with
  | none => rw [hc] at h1; exact absurd h1 (by simp)
  | some c =>
    rw [hc] at h1
    rcases c with ⟨c, fs⟩ | xs | xs
    · simp [shc] at h1
    · simp [shc] at h1
    · simp only [Option.map_some, shc, Option.some.injEq, Sum.inr.injEq] at h1
      have hl : xs.length = 1 := by
        have := congrArg List.length h1
        rwa [List.length_replicate, List.length_replicate] at this
      obtain ⟨u, rfl⟩ : ∃ u, xs = [u] := by
        match xs, hl with
        | [u], _ => exact ⟨u, rfl⟩
      exact ⟨u, by unfold garl; rw [hc]⟩
theorem ext_hpl (hS : Shp H) {v : Int64} : Ext H (hpl H 83 [v]) ∧ garl (hpl H 83 [v]) 83 = some [v] ∧ (hpl H 83 [v]).length = H.length := by
  obtain ⟨u, hu⟩ := shp_arl hS
  have hg := garl_spec hu
  have hl : 83 < H.length := (List.getElem?_eq_some_iff.mp hg).1
  rw [hpl_eq hg]
  have g : ∀ a, a < 83 → (H.set 83 (.inr (.inr [v])))[a]? = H[a]? := fun a ha => by rw [List.getElem?_set, if_neg (by omega)]
  refine ⟨⟨⟨?_, fun hT a c h8 e => hT a c h8 (by rw [List.getElem?_set, if_neg (by omega)] at e; exact e)⟩, fun a ha => ?_, fun a f ha => ?_⟩, ?_, by rw [List.length_set]⟩
  · unfold Shp at hS ⊢
    rw [← hS]
    apply List.ext_getElem?
    intro i
    rw [List.getElem?_map, List.getElem?_map, List.getElem?_take, List.getElem?_take]
    split
    · rw [List.getElem?_set]
      by_cases e : 83 = i
      · subst e
        rw [if_pos rfl, if_pos hl, hg]; rfl
      · rw [if_neg e]
    · rfl
  · unfold ar garr
    rw [g a ha]
  · unfold fi
    rw [g a ha]
  · unfold garl
    rw [List.getElem?_set, if_pos rfl, if_pos hl]
end INVS
