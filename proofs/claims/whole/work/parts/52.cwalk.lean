/-! ===== the class: its slope, its states, the walk, in the Model's words ===== -/
def CSl (H : List AC) (R : List Int32) (n nS nW nG nU nN : Nat) : Prop := Shp H ∧ Cn H n nS nW nG nU nN ∧ TbR (ar H 5) R n ∧ TbS (ar H 7) R n nS ∧ TbW (ar H 7) (ar H 9) R nS nW ∧ TbG (ar H 11) R n nG ∧ TbU (ar H 13) R n nU ∧ TbN (ar H 15) R n nN ∧ fi H 3 0 = rg R 0 ∧ fi H 3 1 = rg R 1
def Sn (H : List AC) (s b : Nat) (ws : List Int32) (n : Nat) : Prop := (∀ i, i < n → (ar H b).getD i 0 = ws.getD i 0) ∧ fi H s 1 = ws.getD 9 0 ∧ fi H s 2 = ws.getD 7 0 ∧ fi H s 3 = ws.getD 8 0
/-- faiths lie in 0 .. 30 -/
def Fb (n : Nat) (ws : List Int32) : Prop := ws.length = 10 ∧ ∀ i, i < n → ∃ x, x ≤ 30 ∧ ws.getD i 0 = nI x
def CIv (H : List AC) (R st : List Int32) (n nS nW nG nU nN : Nat) : Prop := CSl H R n nS nW nG nU nN ∧ Sn H 30 32 st n ∧ Fb n st
def Wk (H : List AC) (ws : List Int32) (rum : Int32) (n nS nW : Nat) : Prop := Sn H 34 36 ws n ∧ fi H 33 5 = opn nS nW (ar H 9) (ws.getD 8 0) ∧ fi H 33 6 = rum ∧ Fb n ws
theorem Cn.fg {S : List Nat} {F : List (Nat × Nat)} {H H' : List AC} {n nS nW nG nU nN : Nat} (h : Cn H n nS nW nG nU nN) (hF : Fg S F H H') (hs : ∀ a ∈ S, a < 3 ∨ 15 < a) (hf : ∀ p ∈ F, p.1 < 3 ∨ 15 < p.1) : Cn H' n nS nW nG nU nN := by
  have hi : ∀ a f, 3 ≤ a → a ≤ 15 → fi H' a f = fi H a f := fun a f h1 h2 => hF.int (fun q => by have := hs a q; omega) (fun q => by have := hf _ q; simp at this; omega)
  unfold Cn at h ⊢
  rw [hi 4 2 (by decide) (by decide), hi 6 2 (by decide) (by decide), hi 8 2 (by decide) (by decide), hi 10 2 (by decide) (by decide), hi 12 2 (by decide) (by decide), hi 14 2 (by decide) (by decide)]
  exact h
section CWALK
variable {S : List Nat} {F : List (Nat × Nat)} {scr : List Int32} {d n nS nW nG nU nN : Nat} {H H' : List AC} {R st ws : List Int32} {rum : Int32} {Q : Option Value → List AC → Prop}
theorem CSl.of (h : CSl H R n nS nW nG nU nN) (hF : Fg S F H H') (hs : ∀ a ∈ S, a < 3 ∨ 15 < a) (hf : ∀ p ∈ F, p.1 < 3 ∨ 15 < p.1) : CSl H' R n nS nW nG nU nN := by
  have hi : ∀ a f, 3 ≤ a → a ≤ 15 → fi H' a f = fi H a f := fun a f h1 h2 => hF.int (fun q => by have := hs a q; omega) (fun q => by have := hf _ q; simp at this; omega)
  have ha : ∀ a, 3 ≤ a → a ≤ 15 → ar H' a = ar H a := fun a h1 h2 => hF.arr (fun q => by have := hs a q; omega)
  obtain ⟨h1, h2, h3, h4, h5, h6, h7, h8, h9, h10⟩ := h
  refine ⟨hF.shp, h2.fg hF hs hf, ?_⟩
  rw [ha 5 (by decide) (by decide), ha 7 (by decide) (by decide), ha 9 (by decide) (by decide), ha 11 (by decide) (by decide), ha 13 (by decide) (by decide), ha 15 (by decide) (by decide), hi 3 0 (by decide) (by decide), hi 3 1 (by decide) (by decide)]
  exact ⟨h3, h4, h5, h6, h7, h8, h9, h10⟩
theorem CSl.shp (h : CSl H R n nS nW nG nU nN) : Shp H := h.1
theorem CIv.shp (h : CIv H R st n nS nW nG nU nN) : Shp H := h.1.1
theorem Sn.of {s b : Nat} (h : Sn H s b ws n) (hF : Fg S F H H') (h1 : s ∉ S) (h2 : b ∉ S) (h3 : ∀ p ∈ F, ¬ p.1 = s) : Sn H' s b ws n := by
  have hi : ∀ f, fi H' s f = fi H s f := fun f => hF.int h1 (fun q => h3 _ q rfl)
  unfold Sn at h ⊢
  rw [hF.arr h2, hi, hi, hi]
  exact h
theorem CIv.of (h : CIv H R st n nS nW nG nU nN) (hF : Fg S F H H') (hs : ∀ a ∈ S, (a < 3 ∨ 15 < a) ∧ ¬ a = 30 ∧ ¬ a = 32) (hf : ∀ p ∈ F, (p.1 < 3 ∨ 15 < p.1) ∧ ¬ p.1 = 30) : CIv H' R st n nS nW nG nU nN :=
  ⟨h.1.of hF (fun a q => (hs a q).1) (fun p q => (hf p q).1), h.2.1.of hF (fun q => (hs _ q).2.1 rfl) (fun q => (hs _ q).2.2 rfl) (fun p q => (hf p q).2), h.2.2⟩
theorem dayM_lt {i : Nat} (hn : n ≤ 7) (hi : i < n) : (dayM R rum n nW nG nU ws).getD i 0 = nfM R rum n nW nG nU ws i := by
  unfold dayM
  rw [getD_rmap (by omega), if_pos hi]
theorem dayM_9 (hn : n ≤ 7) : (dayM R rum n nW nG nU ws).getD 9 0 = ws.getD 9 0 + 1 := by
  unfold dayM
  rw [getD_rmap (by omega), if_neg (by omega), if_pos rfl]
theorem dayM_78 {i : Nat} (hn : n ≤ 7) (hi : i = 7 ∨ i = 8) : (dayM R rum n nW nG nU ws).getD i 0 = ws.getD i 0 := by
  unfold dayM
  rw [getD_rmap (by omega), if_neg (by omega), if_neg (by omega)]
theorem clp_b {x : Int32} : ∃ y, y ≤ 30 ∧ clp x = nI y := by
  unfold clp
  by_cases h0 : x < 0
  · rw [if_pos h0]
    exact ⟨0, by decide, rfl⟩
  · rw [if_neg h0]
    by_cases h : x ≤ 30
    · rw [if_pos h]
      obtain ⟨j, hj, e⟩ := nI_of2 (M := 30) (n := 30) (by decide) h0 h
      exact ⟨j, hj, e⟩
    · rw [if_neg h]
      exact ⟨30, by decide, rfl⟩
theorem dayM_fb (hn : n ≤ 7) : Fb n (dayM R rum n nW nG nU ws) := by
  refine ⟨dayM_len, fun i hi => ?_⟩
  rw [dayM_lt hn hi]
  exact clp_b
theorem w_pass (hC : CSl H R n nS nW nG nU nN) (hW : Wk H ws rum n nS nW) (hQ : ∀ H', Fg [34, 36, 38, 40, 42] [] H H' → Wk H' (dayM R rum n nW nG nU ws) rum n nS nW → Q (some (.int (bI (exN (fun k => decide (¬ (dayM R rum n nW nG nU ws).getD k 0 = ws.getD k 0)) n)))) H') : Wp scr (d + 3) 112 0 [some (.ref 33)] [] H Q := by
  obtain ⟨hS, hCn, tR, tS, tW, tG, tU, tN, tb, th⟩ := hC
  obtain ⟨⟨s1, s2, s3, s4⟩, w5, w6, wf⟩ := hW
  obtain ⟨_, _, _, _, _, _, b2, b3, b4, b5, b6, b7⟩ := id hCn
  have eq := day_eq (rum := rum) (ws := ws) (f := ar H 36) tR tS tW tG tU b2 b3 b4 b5 b6 (gn_36 hS) s1
  refine c_pass hS hCn (fun H' hF a1 f1 f2 f3 => ?_)
  rw [s2, s3, w5, w6] at a1 ⊢
  rw [eq.2]
  have e : exN (fun k => decide (¬ nfM R rum n nW nG nU ws k = ws.getD k 0)) n = exN (fun k => decide (¬ (dayM R rum n nW nG nU ws).getD k 0 = ws.getD k 0)) n := exN_congr (fun k hk => by rw [dayM_lt b2 hk])
  rw [e]
  refine hQ H' hF.fg ⟨⟨fun i hi => ?_, ?_, ?_, ?_⟩, ?_, ?_, dayM_fb b2⟩
  · rw [a1, eq.1 i hi, dayM_lt b2 hi]
  · rw [f1, s2, dayM_9 b2]
  · rw [f2, s3, dayM_78 b2 (Or.inl rfl)]
  · rw [f3, s4, dayM_78 b2 (Or.inr rfl)]
  · rw [hF.int (by decide), hF.arr (by decide), w5, dayM_78 b2 (Or.inr rfl)]
  · rw [hF.int (by decide), w6]
theorem wOr_lt {i : Nat} {s u : Int32} (hi : i < 7 ∨ i = 9) : (wOr st s u).getD i 0 = st.getD i 0 := by
  unfold wOr
  rw [getD_set, getD_set, if_neg (by omega), if_neg (by omega)]
theorem wOr_7 {s u : Int32} (h : st.length = 10) : (wOr st s u).getD 7 0 = st.getD 7 0 ||| s := by
  unfold wOr
  rw [getD_set, getD_set, if_neg (by omega), if_pos ⟨rfl, by omega⟩]
theorem wOr_8 {s u : Int32} (h : st.length = 10) : (wOr st s u).getD 8 0 = st.getD 8 0 ||| u := by
  unfold wOr
  rw [getD_set, List.length_set, if_pos ⟨rfl, by omega⟩]
theorem wOr_fb {s u : Int32} (hn : n ≤ 7) (h : Fb n st) : Fb n (wOr st s u) := by
  refine ⟨by rw [wOr_len, h.1], fun i hi => ?_⟩
  rw [wOr_lt (by omega)]
  exact h.2 i hi
theorem w_startWith {s u : Int32} (hC : CIv H R st n nS nW nG nU nN) (hQ : ∀ H', Fg [33, 34, 36] [] H H' → Wk H' (wOr st s u) (allU nU) n nS nW → Q none H') : Wp scr (d + 3) 100 0 [some (.ref 33), some (.ref 30), some (.int s), some (.int u)] [] H Q := by
  obtain ⟨⟨hS, hCn, _⟩, ⟨s1, s2, s3, s4⟩, wf⟩ := hC
  have b2 : n ≤ 7 := hCn.2.2.2.2.2.2.1
  refine c_startWith (s := 30) (c := 31) (b := 32) hS hCn rfl rfl rfl (by decide) rfl rfl rfl (by decide) (by decide) (fun H' hF ⟨a1, a2, a3, a4⟩ f5 f6 => ?_)
  refine hQ H' hF.fg ⟨⟨fun i hi => ?_, ?_, ?_, ?_⟩, ?_, f6, wOr_fb b2 wf⟩
  · rw [a1, s1 i hi, wOr_lt (by omega)]
  · rw [a2, s2, wOr_lt (Or.inr rfl)]
  · rw [a3, s3, wOr_7 wf.1]
  · rw [a4, s4, wOr_8 wf.1]
  · rw [f5, s4, hF.arr (by decide), wOr_8 wf.1]
theorem w_start (hC : CIv H R st n nS nW nG nU nN) (hQ : ∀ H', Fg [33, 34, 36] [] H H' → Wk H' st (allU nU) n nS nW → Q none H') : Wp scr (d + 4) 99 0 [some (.ref 33), some (.ref 30)] [] H Q := by
  have hS := hC.shp
  simp (maxDischargeDepth := 12) only [w99_0, w99_1, w99_2, w99_3, w99_4, w99_7, oK_some, cont_int, cont_intS, cont_none, cont_noneS, cont_long, cont_longS, true_and, and_true, false_and, and_false, true_implies, false_implies, not_true_eq_false, not_false_eq_true, eq_self, or_true, true_or, Option.isSome_some, hpf_length, hpa_length, bI_eq0, fi_hpa, fl_hpa, ar_hpf, fi_hpf_ne, fl_hpf_ne, ar_hpa_ne, hpa_hpa, hpf_hpf, nI_1, two_ne, fokZ, implies_true, Nat.reduceEqDiff, rc_33, hS]
  refine w_startWith hC (fun H' hF hW => ?_)
  rw [wOr_0 hC.2.2.1] at hW
  simp (maxDischargeDepth := 12) only [w99_0, w99_1, w99_2, w99_3, w99_4, w99_7, oK_some, cont_int, cont_intS, cont_none, cont_noneS, cont_long, cont_longS, true_and, and_true, false_and, and_false, true_implies, false_implies, not_true_eq_false, not_false_eq_true, eq_self, or_true, true_or, Option.isSome_some, hpf_length, hpa_length, bI_eq0, fi_hpa, fl_hpa, ar_hpf, fi_hpf_ne, fl_hpf_ne, ar_hpa_ne, hpa_hpa, hpf_hpf, nI_1, two_ne, fokZ, implies_true, Nat.reduceEqDiff, rc_33, hF.len]
  exact hQ H' hF hW
theorem w_faithOf {k : Nat} (hS : Shp H) (hk : k < 7) : Wp scr (d + 1) 103 0 [some (.ref 33), some (.int (nI k))] [] H Q ↔ Q (some (.int ((ar H 36).getD k 0))) H := by
  have hx : (ar H 36).length < 2147483648 := by rw [gn_36 hS]; decide
  simp (maxDischargeDepth := 12) only [w103_0, w103_1, w103_4, w103_7, w103_8, w103_11, oK_some, cont_int, cont_intS, cont_none, cont_noneS, cont_long, cont_longS, true_and, and_true, false_and, and_false, true_implies, false_implies, not_true_eq_false, not_false_eq_true, eq_self, or_true, true_or, Option.isSome_some, hpf_length, hpa_length, bI_eq0, fi_hpa, fl_hpa, ar_hpf, fi_hpf_ne, fl_hpf_ne, ar_hpa_ne, hpa_hpa, hpf_hpf, nI_1, two_ne, fokZ, implies_true, Nat.reduceEqDiff, g_33_1, rc_34, g_30_0, rc_31, g_34_0, rc_35, g_45_0, rc_46, rc_1, rc_37, rc_39, rc_41, rc_48, rc_50, rc_53, rc_55, rc_57, rc_59, rc_63, rc_66, hS, c_Cells_at (g_35_0 hS) (ga_36 hS) hx, cAt_nI (show k < 2147483648 by omega)]
theorem bI_or2 (b : Bool) : b = false ∨ bI b = 1 := by cases b <;> simp [bI]
theorem w_doubts {k : Nat} (hS : Shp H) (hk : k < 7) : Wp scr (d + 2) 104 0 [some (.ref 33), some (.int (nI k))] [] H Q ↔ Q (some (.int (bI (decide ((ar H 36).getD k 0 < 10))))) H := by
  have hx : (ar H 36).length < 2147483648 := by rw [gn_36 hS]; decide
  simp (maxDischargeDepth := 12) only [w104_0, w104_1, w104_4, w104_5, w104_8, oK_some, cont_int, cont_intS, cont_none, cont_noneS, cont_long, cont_longS, true_and, and_true, false_and, and_false, true_implies, false_implies, not_true_eq_false, not_false_eq_true, eq_self, or_true, true_or, Option.isSome_some, hpf_length, hpa_length, bI_eq0, fi_hpa, fl_hpa, ar_hpf, fi_hpf_ne, fl_hpf_ne, ar_hpa_ne, hpa_hpa, hpf_hpf, nI_1, two_ne, fokZ, implies_true, Nat.reduceEqDiff, g_33_1, rc_34, rc_30, rc_45, hS, c_State_doubts (g_34_0 hS) (g_35_0 hS) (ga_36 hS) hx, cAt_nI (show k < 2147483648 by omega), bI_or2]
theorem w_doubting (hC : CSl H R n nS nW nG nU nN) (hf : ∀ i, i < n → (ar H 36).getD i 0 = ws.getD i 0) : Wp scr (d + 3) 105 0 [some (.ref 33)] [] H Q ↔ Q (some (.int (dbt n ws))) H := by
  have hS := hC.shp
  have b2 : n ≤ 7 := hC.2.1.2.2.2.2.2.2.1
  have hx : (ar H 36).length < 2147483648 := by rw [gn_36 hS]; decide
  simp (maxDischargeDepth := 12) only [w105_0, w105_1, w105_4, w105_5, w105_8, w105_11, oK_some, cont_int, cont_intS, cont_none, cont_noneS, cont_long, cont_longS, true_and, and_true, false_and, and_false, true_implies, false_implies, not_true_eq_false, not_false_eq_true, eq_self, or_true, true_or, Option.isSome_some, hpf_length, hpa_length, bI_eq0, fi_hpa, fl_hpa, ar_hpf, fi_hpf_ne, fl_hpf_ne, ar_hpa_ne, hpa_hpa, hpf_hpf, nI_1, two_ne, fokZ, implies_true, Nat.reduceEqDiff, g_33_0, rc_3, g_33_1, rc_34, rc_16, hS, c_doubtersOf hS hC.2.1.1 (by omega : n < 100000) (g_34_0 hS) (g_35_0 hS) (ga_36 hS) hx, dbt_congr hf (by omega)]
theorem brn_eq {xs : List Int32} (hC : CSl H R n nS nW nG nU nN) (hf : ∀ i, i < n → xs.getD i 0 = ws.getD i 0) {i : Nat} (hi : i < n) : brn (ar H 5) (fi H 3 0) xs (nI i) = grpM R ws i := by
  have b2 : n ≤ 7 := hC.2.1.2.2.2.2.2.2.1
  unfold brn grpM
  rw [tg_eq (xs := ar H 5) (i := i) 2 (v := 2) (by omega) (by decide) rfl, (hC.2.2.1 i hi).2.2, cAt_nI (by omega), hf i hi, hC.2.2.2.2.2.2.2.2.1]
theorem brnF_eq {xs : List Int32} (hC : CSl H R n nS nW nG nU nN) (hf : ∀ i, i < n → xs.getD i 0 = ws.getD i 0) : forN (brnF (ar H 5) (fi H 3 0) xs) n 0 = forN (allG R ws) n 0 := forN_congr n 0 (fun i hi x => by
  unfold brnF allG
  rw [brn_eq hC hf hi])
theorem w_gather {m : Nat} (hC : CSl H R n nS nW nG nU nN) (hW : Wk H ws rum n nS nW) (hm : m < 100000) (hQ : ∀ H', Fg [34, 36, 38, 40, 42] [] H H' → Q (some (.int (forN (hvF R n (fun i => daysM R rum n nW nG nU i ws)) m 0))) H') : Wp scr (d + 4) 107 0 [some (.ref 33), some (.int (nI m)), none, none] [] H Q := by
  generalize hD : (fun i => daysM R rum n nW nG nU i ws) = D at hQ
  have hDi : ∀ i, D i = daysM R rum n nW nG nU i ws := fun i => by rw [← hD]
  have b2 : n ≤ 7 := hC.2.1.2.2.2.2.2.2.1
  simp only [w107_0, w107_1, w107_2, w107_3]
  have key := down (P := fun i => ∀ H2, Fg [34, 36, 38, 40, 42] [] H H2 → Wk H2 (D i) rum n nS nW → Wp scr (d + 4) 107 4 [some (.ref 33), some (.int (nI m)), some (.int (forN (hvF R n D) i 0)), some (.int (nI i))] [] H2 Q) m ?_ ?_
  · exact key H (Fg.rfl' hC.shp) (by rw [hDi]; exact hW)
  · intro H2 hF2 hW2
    rw [w107_4]
    simp (maxDischargeDepth := 12) only [w107_0, w107_1, w107_2, w107_3, w107_5, w107_6, w107_9, w107_10, w107_13, w107_14, w107_15, w107_16, w107_19, w107_20, w107_23, w107_26, w107_27, w107_28, w107_31, w107_34, w107_35, oK_some, cont_int, cont_intS, cont_none, cont_noneS, cont_long, cont_longS, true_and, and_true, false_and, and_false, true_implies, false_implies, not_true_eq_false, not_false_eq_true, eq_self, or_true, true_or, Option.isSome_some, hpf_length, hpa_length, bI_eq0, fi_hpa, fl_hpa, ar_hpf, fi_hpf_ne, fl_hpf_ne, ar_hpa_ne, hpa_hpa, hpf_hpf, nI_1, two_ne, fokZ, implies_true, Nat.reduceEqDiff, rc_33, g_33_0, rc_3, g_33_1, rc_34, rc_16, nI_les]
    exact hQ H2 hF2
  · intro i hi hw H2 hF2 hW2
    have hC2 := hC.of hF2 (by decide) (by decide)
    have hs2 := hF2.shp
    rw [forN_succ] at hw
    generalize forN (hvF R n D) i 0 = acc at hw ⊢
    rw [w107_4]
    simp (maxDischargeDepth := 12) only [w107_0, w107_1, w107_2, w107_3, w107_5, w107_6, w107_9, w107_10, w107_13, w107_14, w107_15, w107_16, w107_19, w107_20, w107_23, w107_26, w107_27, w107_28, w107_31, w107_34, w107_35, oK_some, cont_int, cont_intS, cont_none, cont_noneS, cont_long, cont_longS, true_and, and_true, false_and, and_false, true_implies, false_implies, not_true_eq_false, not_false_eq_true, eq_self, or_true, true_or, Option.isSome_some, hpf_length, hpa_length, bI_eq0, fi_hpa, fl_hpa, ar_hpf, fi_hpf_ne, fl_hpf_ne, ar_hpa_ne, hpa_hpa, hpf_hpf, nI_1, two_ne, fokZ, implies_true, Nat.reduceEqDiff, rc_33, g_33_0, rc_3, g_33_1, rc_34, rc_16, hs2, nI_lef hi (by omega : m < 2147483648)]
    refine w_pass hC2 hW2 (fun H3 hF3 hW3 => ?_)
    have hs3 := hF3.shp
    have hC3 := hC2.of hF3 (by decide) (by decide)
    have ed : dayM R rum n nW nG nU (D i) = D (i + 1) := by rw [hDi, hDi]; rfl
    rw [ed] at hW3
    have hx : (ar H3 36).length < 2147483648 := by rw [gn_36 hs3]; decide
    simp (maxDischargeDepth := 12) only [w107_0, w107_1, w107_2, w107_3, w107_5, w107_6, w107_9, w107_10, w107_13, w107_14, w107_15, w107_16, w107_19, w107_20, w107_23, w107_26, w107_27, w107_28, w107_31, w107_34, w107_35, oK_some, cont_int, cont_intS, cont_none, cont_noneS, cont_long, cont_longS, true_and, and_true, false_and, and_false, true_implies, false_implies, not_true_eq_false, not_false_eq_true, eq_self, or_true, true_or, Option.isSome_some, hpf_length, hpa_length, bI_eq0, fi_hpa, fl_hpa, ar_hpf, fi_hpf_ne, fl_hpf_ne, ar_hpa_ne, hpa_hpa, hpf_hpf, nI_1, two_ne, fokZ, implies_true, Nat.reduceEqDiff, rc_33, g_33_0, rc_3, g_33_1, rc_34, rc_16, hF3.len, hs3, c_borneBy hs3 hC3.2.1.1 (by omega : n < 100000) (g_34_0 hs3) (g_35_0 hs3) (ga_36 hs3) hx, brnF_eq hC3 hW3.1.1]
    exact hw H3 (hF2.trans hF3) hW3
theorem mx_nI {x y : Nat} (hx : x < 100) (hy : y < 100) : mx 0 (nI x - nI y) = nI (x - y) := by
  unfold mx
  by_cases h : y < x
  · have h0 : (0 : Int32) < nI (x - y) := nI_lt (a := 0) (b := x - y) (by omega) (by omega)
    rw [pk_sub (by omega), if_pos h0]
  · have : ¬ (0 : Int32) < nI x - nI y := by
      rw [Int32.lt_iff_toInt_lt, pk_sub_toInt (by omega) (by omega), Int32.toInt_zero]
      omega
    rw [if_neg this, show x - y = 0 by omega]
    rfl
theorem Wk_set {k : Nat} {v : Int32} (hS : Shp H) (hn : n ≤ 7) (hk : k < n) (hW : Wk H ws rum n nS nW) (hv : ∃ x, x ≤ 30 ∧ v = nI x) : Wk (hpa H 36 (cSet (ar H 36) (nI k) v)) (ws.set k v) rum n nS nW := by
  obtain ⟨⟨s1, s2, s3, s4⟩, w5, w6, w7, w8⟩ := hW
  have g : ∀ j, ¬ j < 7 → (ws.set k v).getD j 0 = ws.getD j 0 := fun j hj => by rw [getD_set, if_neg (by omega)]
  refine ⟨⟨fun i hi => ?_, ?_, ?_, ?_⟩, ?_, ?_, by rw [List.length_set, w7], fun i hi => ?_⟩
  · rw [ae_36 hS, cSet_getD (by omega), getD_set, gn_36 hS, w7, s1 i hi]
    by_cases e : k = i
    · rw [if_pos ⟨e, by omega⟩, if_pos ⟨e, by omega⟩]
    · rw [if_neg (fun q => e q.1), if_neg (fun q => e q.1)]
  · rw [fi_hpa, s2, g 9 (by decide)]
  · rw [fi_hpa, s3, g 7 (by decide)]
  · rw [fi_hpa, s4, g 8 (by decide)]
  · rw [fi_hpa, ar_hpa_ne (by decide), w5, g 8 (by decide)]
  · rw [fi_hpa, w6]
  · rw [getD_set, w7]
    by_cases e : k = i ∧ i < 10
    · rw [if_pos e]; exact hv
    · rw [if_neg e]; exact w8 i hi
theorem w_lose {k y : Nat} {v : Int32} (hS : Shp H) (hn : n ≤ 7) (hk : k < n) (hW : Wk H ws rum n nS nW) (hv : v = nI y) (hy : y < 100) (hQ : ∀ H', ∀ x : Nat, x ≤ 30 → ws.getD k 0 = nI x → Fg [36] [] H H' → Wk H' (ws.set k (nI (x - y))) rum n nS nW → Q none H') : Wp scr (d + 1) 108 0 [some (.ref 33), some (.int (nI k)), some (.int v)] [] H Q := by
  subst hv
  have hx : (ar H 36).length < 2147483648 := by rw [gn_36 hS]; decide
  obtain ⟨x, hx30, ex⟩ := hW.2.2.2.2 k hk
  have e1 : cAt (ar H 36) (nI k) = nI x := by rw [cAt_nI (by omega), hW.1.1 k hk, ex]
  simp (maxDischargeDepth := 12) only [w108_0, w108_1, w108_4, w108_7, w108_8, w108_9, w108_10, w108_13, w108_16, w108_17, w108_20, w108_21, w108_22, w108_25, w108_28, oK_some, cont_int, cont_intS, cont_none, cont_noneS, cont_long, cont_longS, true_and, and_true, false_and, and_false, true_implies, false_implies, not_true_eq_false, not_false_eq_true, eq_self, or_true, true_or, Option.isSome_some, hpf_length, hpa_length, bI_eq0, fi_hpa, fl_hpa, ar_hpf, fi_hpf_ne, fl_hpf_ne, ar_hpa_ne, hpa_hpa, hpf_hpf, nI_1, two_ne, fokZ, implies_true, Nat.reduceEqDiff, g_33_1, rc_34, g_30_0, rc_31, g_34_0, rc_35, g_45_0, rc_46, rc_1, rc_37, rc_39, rc_41, rc_48, rc_50, rc_53, rc_55, rc_57, rc_59, rc_63, rc_66, hS, c_Cells_at (g_35_0 hS) (ga_36 hS) hx, c_Cells_set (g_35_0 hS) (ga_36 hS) hx, c_max, e1, mx_nI (show x < 100 by omega) hy]
  exact hQ _ x hx30 ex (fg_hpa hS (by rw [cSet_length]) (by decide)) (Wk_set hS hn hk hW ⟨x - y, by omega, rfl⟩)
end CWALK
