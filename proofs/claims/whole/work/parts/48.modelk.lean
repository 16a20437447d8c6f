/-! ===== the Model: acts, undoing, images, what is told ===== -/
/-- a row of states, ten places each, in a row of ints -/
def Rows10 (xs : List Int32) (Us : List (List Int32)) : Prop := ∀ i, i < Us.length → (Us.getD i []).length = 10 ∧ ∀ j, j < 10 → xs.getD (10 * i + j) 0 = (Us.getD i []).getD j 0
def MUn (H : List AC) (Us : List (List Int32)) : Prop := fi H 68 20 = nI Us.length ∧ Us.length ≤ 16 ∧ Rows10 (ar H 74) Us
def MIm (H : List AC) (Ks : List (List Int32)) : Prop := fi H 68 21 = nI Ks.length ∧ Ks.length ≤ 3 ∧ Rows10 (ar H 75) Ks
def pushU (Us : List (List Int32)) (st : List Int32) : List (List Int32) := if Us.length = 16 then Us.tail ++ [st] else Us ++ [st]
abbrev SMa : List Nat := [73, 74, 75, 76]
abbrev FMa : List (Nat × Nat) := [(68, 0), (68, 11), (68, 20), (68, 21), (68, 22)]
/-- an act's end -/
def MA (H : List AC) (Q : Option Value → List AC → Prop) (res tr : Int32) (st : List Int32) (Us Ks : List (List Int32)) : Prop := ∀ H', Fg SMa FMa H H' → fi H' 68 0 = 0 → fi H' 68 11 = tr → ar H' 73 = st → MUn H' Us → MIm H' Ks → Q (some (.int res)) H'
theorem gd_fga {H : List AC} (hS : Shp H) : Fg SMa FMa H (gd H) := ((fg_hpf (a := 68) (f := 0) (ci := 12) hS rfl (by decide))).trans (fg_hpf (a := 68) (f := 11) (ci := 12) (sf_68_0 hS) rfl (by decide))
theorem MUn.of {H H' : List AC} {Us : List (List Int32)} {S : List Nat} {F : List (Nat × Nat)} (h : MUn H Us) (hF : Fg S F H H') (h74 : 74 ∉ S) (h68 : 68 ∉ S) (hf : (68, 20) ∉ F) : MUn H' Us := by
  unfold MUn at h ⊢
  rw [hF.int h68 hf, hF.arr h74]
  exact h
theorem MIm.of {H H' : List AC} {Us : List (List Int32)} {S : List Nat} {F : List (Nat × Nat)} (h : MIm H Us) (hF : Fg S F H H') (h74 : 75 ∉ S) (h68 : 68 ∉ S) (hf : (68, 21) ∉ F) : MIm H' Us := by
  unfold MIm at h ⊢
  rw [hF.int h68 hf, hF.arr h74]
  exact h
theorem getD_app {α : Type} {l l' : List α} {i : Nat} {x : α} (h : i < l.length) : (l ++ l').getD i x = l.getD i x := by
  rw [List.getD_eq_getElem?_getD, List.getD_eq_getElem?_getD, List.getElem?_append_left h]
theorem getD_appr {α : Type} {l : List α} {x y : α} : (l ++ [y]).getD l.length x = y := by
  rw [List.getD_eq_getElem?_getD, List.getElem?_append_right (Nat.le_refl _), Nat.sub_self]
  rfl
theorem rows_push {xs st : List Int32} {Us : List (List Int32)} (h : Rows10 xs Us) (hl : 10 * Us.length + 10 ≤ xs.length) (hs : st.length = 10) : Rows10 (cpy st 0 xs (10 * Us.length) 10) (Us ++ [st]) := by
  intro i hi
  rw [List.length_append, List.length_singleton] at hi
  by_cases h1 : i < Us.length
  · rw [getD_app h1]
    refine ⟨(h i h1).1, fun j hj => ?_⟩
    rw [cpy_getD _ hl, if_neg (by omega), (h i h1).2 j hj]
  · have e : i = Us.length := by omega
    subst e
    rw [getD_appr]
    refine ⟨hs, fun j hj => ?_⟩
    rw [cpy_getD _ hl, if_pos (by omega)]
    rw [show 0 + (10 * Us.length + j - 10 * Us.length) = j by omega]
section MODELK
variable {scr : List Int32} {d n nS nW nG nU nN w : Nat} {H : List AC} {R st : List Int32} {Us Ks : List (List Int32)} {Q : Option Value → List AC → Prop}
def shF (k : Nat) (ys : List Int32) : List Int32 := ys.set k (ys.getD (k + 10) 0)
theorem shF_len {m : Nat} {ys : List Int32} : (forN shF m ys).length = ys.length := forN_len (fun k zs => by unfold shF; simp) m ys
theorem shF_getD {ys : List Int32} {j : Nat} : ∀ m, m + 10 ≤ ys.length → (forN shF m ys).getD j 0 = if j < m then ys.getD (j + 10) 0 else ys.getD j 0
  | 0, _ => by rw [forN_zero, if_neg (Nat.not_lt_zero _)]
  | m + 1, hm => by
    rw [forN_succ]
    show ((forN shF m ys).set m ((forN shF m ys).getD (m + 10) 0)).getD j 0 = _
    have e10 : (forN shF m ys).getD (m + 10) 0 = ys.getD (m + 10) 0 := by rw [shF_getD (j := m + 10) m (by omega), if_neg (by omega)]
    rw [e10, getD_set, shF_len, shF_getD (j := j) m (by omega)]
    by_cases e : m = j
    · subst e
      rw [if_pos ⟨rfl, by omega⟩, if_pos (by omega)]
    · rw [if_neg (fun q => e q.1)]
      by_cases c : j < m
      · rw [if_pos c, if_pos (by omega)]
      · rw [if_neg c, if_neg (by omega)]
theorem m_note (hS : Shp H) (h73 : ar H 73 = st) (hU : MUn H Us) (hQ : ∀ H', Fg [74] [(68, 20)] H H' → MUn H' (pushU Us st) → Q none H') : Wp scr (d + 1) 294 0 [some (.ref 68), none] [] H Q := by
  obtain ⟨u1, u2, u3⟩ := hU
  have l73 : st.length = 10 := by rw [← h73]; exact gn_73 hS
  have e150 : ((150 : Int32) ≤ nI 150) = True := eq_true (by decide)
  have e16 : (nI Us.length = 16) = (Us.length = 16) := propext (nI_eq (b := 16) (by omega) (by decide))
  -- from 49 on
  have tail : ∀ H2 o1 Vs, Fg [74] [(68, 20)] H H2 → fi H2 68 20 = nI Vs → Vs < 16 → (∀ Ws : List (List Int32), Ws.length = Vs → Rows10 (ar H2 74) Ws → Ws ++ [st] = pushU Us st → Wp scr (d + 1) 294 49 [some (.ref 68), o1] [] H2 Q) := by
    intro H2 o1 Vs hF2 f2 hV Ws hW hR hp
    have hs2 := hF2.shp
    have a73 : ar H2 73 = st := by rw [hF2.arr (by decide), h73]
    have e10 : (10 : Int32) * nI Vs = nI (10 * Vs) := by rw [show (10 : Int32) = nI 10 from rfl, pk_mul]
    have l74 := gn_74 hs2
    simp (maxDischargeDepth := 12) only [w294_0, w294_1, w294_4, w294_6, w294_9, w294_10, w294_12, w294_15, w294_18, w294_19, w294_22, w294_23, w294_24, w294_27, w294_28, w294_30, w294_31, w294_32, w294_33, w294_36, w294_39, w294_40, w294_41, w294_44, w294_45, w294_46, w294_50, w294_53, w294_54, w294_55, w294_58, w294_60, w294_61, w294_64, w294_65, w294_67, w294_70, w294_71, w294_72, w294_75, w294_76, w294_77, w294_80, oK_some, cont_int, cont_intS, cont_none, cont_noneS, cont_long, cont_longS, true_and, and_true, false_and, and_false, true_implies, false_implies, not_true_eq_false, not_false_eq_true, eq_self, or_true, true_or, Option.isSome_some, hpf_length, hpa_length, bI_eq0, fi_hpa, fl_hpa, ar_hpf, fi_hpf_ne, fl_hpf_ne, ar_hpa_ne, hpa_hpa, hpf_hpf, nI_1, two_ne, fokZ, implies_true, Nat.reduceEqDiff, g_68_20, sf_68_20, fe_68_20, g_68_18, ga_74, gn_74, sa_74, ae_74, g_68_17, ga_73, gn_73, sa_73, ae_73, kl_0, kl_1, kl_2, kl_3, kl_4, kl_5, kl_6, kl_7, kl_8, kl_9, kl_10, kl_11, kl_12, jb_0_160, jb_1_160, jb_2_160, jb_3_160, jb_4_160, jb_5_160, jb_6_160, jb_7_160, jb_8_160, jb_9_160, jb_10_160, jb_11_160, jb_12_160, jb_0_10, jb_1_10, jb_2_10, jb_3_10, jb_4_10, jb_5_10, jb_6_10, jb_7_10, jb_8_10, jb_9_10, hs2, f2, e10, w294_49, m_copy (p := 0) (q := 10 * Vs) (m := 10) (v1 := 0) (v2 := nI (10 * Vs)) (v3 := 10) rfl rfl rfl (ga_73 hs2) (ga_74 hs2) (by decide) (by rw [gn_73 hs2]; decide) (by rw [gn_74 hs2]; omega) (by rw [gn_73 hs2]; decide) (by rw [gn_74 hs2]; decide), a73]
    have hl2 : (cpy st 0 (ar H2 74) (10 * Vs) 10).length = 160 := by rw [cpy_len, l74]
    have hs3 : Shp (hpa H2 74 (cpy st 0 (ar H2 74) (10 * Vs) 10)) := sa_74 hs2 hl2
    simp (maxDischargeDepth := 12) only [w294_0, w294_1, w294_4, w294_6, w294_9, w294_10, w294_12, w294_15, w294_18, w294_19, w294_22, w294_23, w294_24, w294_27, w294_28, w294_30, w294_31, w294_32, w294_33, w294_36, w294_39, w294_40, w294_41, w294_44, w294_45, w294_46, w294_50, w294_53, w294_54, w294_55, w294_58, w294_60, w294_61, w294_64, w294_65, w294_67, w294_70, w294_71, w294_72, w294_75, w294_76, w294_77, w294_80, oK_some, cont_int, cont_intS, cont_none, cont_noneS, cont_long, cont_longS, true_and, and_true, false_and, and_false, true_implies, false_implies, not_true_eq_false, not_false_eq_true, eq_self, or_true, true_or, Option.isSome_some, hpf_length, hpa_length, bI_eq0, fi_hpa, fl_hpa, ar_hpf, fi_hpf_ne, fl_hpf_ne, ar_hpa_ne, hpa_hpa, hpf_hpf, nI_1, two_ne, fokZ, implies_true, Nat.reduceEqDiff, g_68_20, sf_68_20, fe_68_20, g_68_18, ga_74, gn_74, sa_74, ae_74, g_68_17, ga_73, gn_73, sa_73, ae_73, kl_0, kl_1, kl_2, kl_3, kl_4, kl_5, kl_6, kl_7, kl_8, kl_9, kl_10, kl_11, kl_12, jb_0_160, jb_1_160, jb_2_160, jb_3_160, jb_4_160, jb_5_160, jb_6_160, jb_7_160, jb_8_160, jb_9_160, jb_10_160, jb_11_160, jb_12_160, jb_0_10, jb_1_10, jb_2_10, jb_3_10, jb_4_10, jb_5_10, jb_6_10, jb_7_10, jb_8_10, jb_9_10, hs3, f2]
    refine hQ _ ((hF2.trans (fg_hpa hs2 (by rw [cpy_len]) (by decide))).trans (fg_hpf (a := 68) (f := 20) (ci := 12) hs3 rfl (by decide))) ?_
    rw [← hp]
    refine ⟨?_, ?_, ?_⟩
    · rw [fe_68_20 hs3, List.length_append, hW]; rfl
    · rw [List.length_append, hW]; simp; omega
    · rw [ar_hpf, ae_74 hs2, ← hW]
      exact rows_push hR (by rw [hW, l74]; omega) l73
  by_cases h16 : Us.length = 16
  · simp (maxDischargeDepth := 12) only [w294_0, w294_1, w294_4, w294_6, w294_9, w294_10, w294_12, w294_15, w294_18, w294_19, w294_22, w294_23, w294_24, w294_27, w294_28, w294_30, w294_31, w294_32, w294_33, w294_36, w294_39, w294_40, w294_41, w294_44, w294_45, w294_46, w294_50, w294_53, w294_54, w294_55, w294_58, w294_60, w294_61, w294_64, w294_65, w294_67, w294_70, w294_71, w294_72, w294_75, w294_76, w294_77, w294_80, oK_some, cont_int, cont_intS, cont_none, cont_noneS, cont_long, cont_longS, true_and, and_true, false_and, and_false, true_implies, false_implies, not_true_eq_false, not_false_eq_true, eq_self, or_true, true_or, Option.isSome_some, hpf_length, hpa_length, bI_eq0, fi_hpa, fl_hpa, ar_hpf, fi_hpf_ne, fl_hpf_ne, ar_hpa_ne, hpa_hpa, hpf_hpf, nI_1, two_ne, fokZ, implies_true, Nat.reduceEqDiff, g_68_20, sf_68_20, fe_68_20, g_68_18, ga_74, gn_74, sa_74, ae_74, g_68_17, ga_73, gn_73, sa_73, ae_73, kl_0, kl_1, kl_2, kl_3, kl_4, kl_5, kl_6, kl_7, kl_8, kl_9, kl_10, kl_11, kl_12, jb_0_160, jb_1_160, jb_2_160, jb_3_160, jb_4_160, jb_5_160, jb_6_160, jb_7_160, jb_8_160, jb_9_160, jb_10_160, jb_11_160, jb_12_160, jb_0_10, jb_1_10, jb_2_10, jb_3_10, jb_4_10, jb_5_10, jb_6_10, jb_7_10, jb_8_10, jb_9_10, hS, u1, h16, show (nI 16 = 16) = True from eq_true rfl]
    have key := down (P := fun i => Wp scr (d + 1) 294 11 [some (.ref 68), some (.int (nI i))] [] (hpa H 74 (forN shF i (ar H 74))) Q) 150 ?_ ?_
    · rw [forN_zero, hpa_self (ga_74 hS)] at key
      exact key
    · have hl2 : (forN shF 150 (ar H 74)).length = 160 := by rw [shF_len, gn_74 hS]
      have hs2 : Shp (hpa H 74 (forN shF 150 (ar H 74))) := sa_74 hS hl2
      rw [w294_11]
      simp (maxDischargeDepth := 12) only [w294_0, w294_1, w294_4, w294_6, w294_9, w294_10, w294_12, w294_15, w294_18, w294_19, w294_22, w294_23, w294_24, w294_27, w294_28, w294_30, w294_31, w294_32, w294_33, w294_36, w294_39, w294_40, w294_41, w294_44, w294_45, w294_46, w294_50, w294_53, w294_54, w294_55, w294_58, w294_60, w294_61, w294_64, w294_65, w294_67, w294_70, w294_71, w294_72, w294_75, w294_76, w294_77, w294_80, oK_some, cont_int, cont_intS, cont_none, cont_noneS, cont_long, cont_longS, true_and, and_true, false_and, and_false, true_implies, false_implies, not_true_eq_false, not_false_eq_true, eq_self, or_true, true_or, Option.isSome_some, hpf_length, hpa_length, bI_eq0, fi_hpa, fl_hpa, ar_hpf, fi_hpf_ne, fl_hpf_ne, ar_hpa_ne, hpa_hpa, hpf_hpf, nI_1, two_ne, fokZ, implies_true, Nat.reduceEqDiff, g_68_20, sf_68_20, fe_68_20, g_68_18, ga_74, gn_74, sa_74, ae_74, g_68_17, ga_73, gn_73, sa_73, ae_73, kl_0, kl_1, kl_2, kl_3, kl_4, kl_5, kl_6, kl_7, kl_8, kl_9, kl_10, kl_11, kl_12, jb_0_160, jb_1_160, jb_2_160, jb_3_160, jb_4_160, jb_5_160, jb_6_160, jb_7_160, jb_8_160, jb_9_160, jb_10_160, jb_11_160, jb_12_160, jb_0_10, jb_1_10, jb_2_10, jb_3_10, jb_4_10, jb_5_10, jb_6_10, jb_7_10, jb_8_10, jb_9_10, hs2, e150, u1, h16]
      refine tail _ _ 15 ((fg_hpa hS (by rw [hl2, gn_74 hS]) (by decide)).trans (fg_hpf (a := 68) (f := 20) (ci := 12) hs2 rfl (by decide))) (by rw [fe_68_20 hs2]; rfl) (by decide) Us.tail (by rw [List.length_tail, h16]) ?_ (by unfold pushU; rw [if_pos h16])
      intro i hi
      rw [List.length_tail, h16] at hi
      have et : Us.tail.getD i [] = Us.getD (i + 1) [] := by rw [List.getD_eq_getElem?_getD, List.getD_eq_getElem?_getD, List.getElem?_tail]
      rw [et]
      refine ⟨(u3 (i + 1) (by omega)).1, fun j hj => ?_⟩
      rw [ar_hpf, ae_74 hS, shF_getD 150 (by rw [gn_74 hS]; decide), if_pos (by omega), show 10 * i + j + 10 = 10 * (i + 1) + j by omega, (u3 (i + 1) (by omega)).2 j hj]
    · intro i hi hw
      have hl2 : (forN shF i (ar H 74)).length = 160 := by rw [shF_len, gn_74 hS]
      rw [forN_succ] at hw
      generalize forN shF i (ar H 74) = ys at hl2 hw ⊢
      have hs2 : Shp (hpa H 74 ys) := sa_74 hS hl2
      rw [w294_11]
      simp (maxDischargeDepth := 12) only [w294_0, w294_1, w294_4, w294_6, w294_9, w294_10, w294_12, w294_15, w294_18, w294_19, w294_22, w294_23, w294_24, w294_27, w294_28, w294_30, w294_31, w294_32, w294_33, w294_36, w294_39, w294_40, w294_41, w294_44, w294_45, w294_46, w294_50, w294_53, w294_54, w294_55, w294_58, w294_60, w294_61, w294_64, w294_65, w294_67, w294_70, w294_71, w294_72, w294_75, w294_76, w294_77, w294_80, oK_some, cont_int, cont_intS, cont_none, cont_noneS, cont_long, cont_longS, true_and, and_true, false_and, and_false, true_implies, false_implies, not_true_eq_false, not_false_eq_true, eq_self, or_true, true_or, Option.isSome_some, hpf_length, hpa_length, bI_eq0, fi_hpa, fl_hpa, ar_hpf, fi_hpf_ne, fl_hpf_ne, ar_hpa_ne, hpa_hpa, hpf_hpf, nI_1, two_ne, fokZ, implies_true, Nat.reduceEqDiff, g_68_20, sf_68_20, fe_68_20, g_68_18, ga_74, gn_74, sa_74, ae_74, g_68_17, ga_73, gn_73, sa_73, ae_73, kl_0, kl_1, kl_2, kl_3, kl_4, kl_5, kl_6, kl_7, kl_8, kl_9, kl_10, kl_11, kl_12, jb_0_160, jb_1_160, jb_2_160, jb_3_160, jb_4_160, jb_5_160, jb_6_160, jb_7_160, jb_8_160, jb_9_160, jb_10_160, jb_11_160, jb_12_160, jb_0_10, jb_1_10, jb_2_10, jb_3_10, jb_4_10, jb_5_10, jb_6_10, jb_7_10, jb_8_10, jb_9_10, hs2, hS, show ((150 : Int32) ≤ nI i) = False from eq_false (nI_ge (b := 150) hi (by decide)), hl2, ixa i 10 (v := 10) rfl, inb_nI (i := i) (by omega), decide_eq_true (by omega : i < 160), nI_clamp (n := i) (by omega), inb_nI (i := i + 10) (by omega), decide_eq_true (by omega : i + 10 < 160), nI_clamp (n := i + 10) (by omega)]
      exact hw
  · simp (maxDischargeDepth := 12) only [w294_0, w294_1, w294_4, w294_6, w294_9, w294_10, w294_12, w294_15, w294_18, w294_19, w294_22, w294_23, w294_24, w294_27, w294_28, w294_30, w294_31, w294_32, w294_33, w294_36, w294_39, w294_40, w294_41, w294_44, w294_45, w294_46, w294_50, w294_53, w294_54, w294_55, w294_58, w294_60, w294_61, w294_64, w294_65, w294_67, w294_70, w294_71, w294_72, w294_75, w294_76, w294_77, w294_80, oK_some, cont_int, cont_intS, cont_none, cont_noneS, cont_long, cont_longS, true_and, and_true, false_and, and_false, true_implies, false_implies, not_true_eq_false, not_false_eq_true, eq_self, or_true, true_or, Option.isSome_some, hpf_length, hpa_length, bI_eq0, fi_hpa, fl_hpa, ar_hpf, fi_hpf_ne, fl_hpf_ne, ar_hpa_ne, hpa_hpa, hpf_hpf, nI_1, two_ne, fokZ, implies_true, Nat.reduceEqDiff, g_68_20, sf_68_20, fe_68_20, g_68_18, ga_74, gn_74, sa_74, ae_74, g_68_17, ga_73, gn_73, sa_73, ae_73, kl_0, kl_1, kl_2, kl_3, kl_4, kl_5, kl_6, kl_7, kl_8, kl_9, kl_10, kl_11, kl_12, jb_0_160, jb_1_160, jb_2_160, jb_3_160, jb_4_160, jb_5_160, jb_6_160, jb_7_160, jb_8_160, jb_9_160, jb_10_160, jb_11_160, jb_12_160, jb_0_10, jb_1_10, jb_2_10, jb_3_10, jb_4_10, jb_5_10, jb_6_10, jb_7_10, jb_8_10, jb_9_10, hS, u1, e16, h16]
    exact tail H none Us.length (Fg.rfl' hS) u1 (by omega) Us rfl u3 (by unfold pushU; rw [if_neg h16])
theorem bI_inj {a b : Bool} : (bI a = bI b) = (a = b) := by cases a <;> cases b <;> simp [bI]
theorem m_becomes {f : Nat} {v : Int32} {k : Int32} {is : Bool} (hS : Shp H) (h73 : ar H 73 = st) (hU : MUn H Us) (hv : v = nI f) (hf : f = 7 ∨ f = 8) (hQ1 : hb (st.getD f 0) k = is → Q (some (.int 0)) (hpf H 68 11 (.int 5))) (hQ2 : ¬ hb (st.getD f 0) k = is → ∀ H', Fg [73, 74] [(68, 20)] H H' → ar H' 73 = st.set f (st.getD f 0 ^^^ (1 <<< (k &&& 31))) → MUn H' (pushU Us st) → Q (some (.int 1)) H') : Wp scr (d + 2) 295 0 [some (.ref 68), some (.int v), some (.int k), some (.int (bI is))] [] H Q := by
  subst hv
  have hf' : f < 10 := by omega
  have l73 : st.length = 10 := by rw [← h73]; exact gn_73 hS
  simp (maxDischargeDepth := 12) only [w295_0, w295_1, w295_4, w295_5, w295_6, w295_7, w295_10, w295_11, w295_14, w295_15, w295_16, w295_19, w295_20, w295_21, w295_24, w295_25, w295_28, w295_29, w295_30, w295_31, w295_32, w295_33, w295_34, w295_35, w295_36, w295_37, oK_some, cont_int, cont_intS, cont_none, cont_noneS, cont_long, cont_longS, true_and, and_true, false_and, and_false, true_implies, false_implies, not_true_eq_false, not_false_eq_true, eq_self, or_true, true_or, Option.isSome_some, hpf_length, hpa_length, bI_eq0, fi_hpa, fl_hpa, ar_hpf, fi_hpf_ne, fl_hpf_ne, ar_hpa_ne, hpa_hpa, hpf_hpf, nI_1, two_ne, fokZ, implies_true, Nat.reduceEqDiff, g_68_17, ga_73, gn_73, sa_73, ae_73, rc_68, kl_0, kl_1, kl_2, kl_3, kl_4, kl_5, kl_6, kl_7, kl_8, kl_9, kl_10, kl_11, kl_12, jb_0_10, jb_1_10, jb_2_10, jb_3_10, jb_4_10, jb_5_10, jb_6_10, jb_7_10, jb_8_10, jb_9_10, hS, h73, l73, inb_nI (i := f) (by omega), decide_eq_true (by omega : f < 10), nI_clamp (n := f) (by omega), m_hasBit, bI_inj, m_isNot]
  by_cases hc : hb (st.getD f 0) k = is
  · simp only [hc, oK_some, cont_int, cont_intS, cont_none, cont_noneS, cont_long, cont_longS, true_and, and_true, false_and, and_false, true_implies, false_implies, not_true_eq_false, not_false_eq_true, eq_self, or_true, true_or, Option.isSome_some, hpf_length, hpa_length, bI_eq0, fi_hpa, fl_hpa, ar_hpf, fi_hpf_ne, fl_hpf_ne, ar_hpa_ne, hpa_hpa, hpf_hpf, nI_1, two_ne, fokZ, implies_true, Nat.reduceEqDiff]
    exact hQ1 hc
  · simp only [hc, oK_some, cont_int, cont_intS, cont_none, cont_noneS, cont_long, cont_longS, true_and, and_true, false_and, and_false, true_implies, false_implies, not_true_eq_false, not_false_eq_true, eq_self, or_true, true_or, Option.isSome_some, hpf_length, hpa_length, bI_eq0, fi_hpa, fl_hpa, ar_hpf, fi_hpf_ne, fl_hpf_ne, ar_hpa_ne, hpa_hpa, hpf_hpf, nI_1, two_ne, fokZ, implies_true, Nat.reduceEqDiff]
    refine m_note hS h73 hU (fun H2 hF2 hU2 => ?_)
    have hs2 := hF2.shp
    have a73 : ar H2 73 = st := by rw [hF2.arr (by decide), h73]
    simp (maxDischargeDepth := 12) only [w295_0, w295_1, w295_4, w295_5, w295_6, w295_7, w295_10, w295_11, w295_14, w295_15, w295_16, w295_19, w295_20, w295_21, w295_24, w295_25, w295_28, w295_29, w295_30, w295_31, w295_32, w295_33, w295_34, w295_35, w295_36, w295_37, oK_some, cont_int, cont_intS, cont_none, cont_noneS, cont_long, cont_longS, true_and, and_true, false_and, and_false, true_implies, false_implies, not_true_eq_false, not_false_eq_true, eq_self, or_true, true_or, Option.isSome_some, hpf_length, hpa_length, bI_eq0, fi_hpa, fl_hpa, ar_hpf, fi_hpf_ne, fl_hpf_ne, ar_hpa_ne, hpa_hpa, hpf_hpf, nI_1, two_ne, fokZ, implies_true, Nat.reduceEqDiff, g_68_17, ga_73, gn_73, sa_73, ae_73, rc_68, kl_0, kl_1, kl_2, kl_3, kl_4, kl_5, kl_6, kl_7, kl_8, kl_9, kl_10, kl_11, kl_12, jb_0_10, jb_1_10, jb_2_10, jb_3_10, jb_4_10, jb_5_10, jb_6_10, jb_7_10, jb_8_10, jb_9_10, hF2.len, hs2, a73, l73, inb_nI (i := f) (by omega), decide_eq_true (by omega : f < 10), nI_clamp (n := f) (by omega)]
    have hF3 : Fg [73, 74] [(68, 20)] H (hpa H2 73 (st.set f (st.getD f 0 ^^^ (1 <<< (k &&& 31))))) := hF2.tr (fg_hpa (F := []) (S := [73]) hs2 (by rw [List.length_set, l73, gn_73 hs2]) (by decide)) (by decide) (by decide) (by decide) (by decide)
    refine hQ2 hc _ hF3 (by rw [ae_73 hs2]) ?_
    unfold MUn at hU2 ⊢
    rw [fi_hpa, ar_hpa_ne (by decide)]
    exact hU2
/-- show, put: what comes of it -/
def acR (there : Bool) (st : List Int32) (f : Nat) (k : Int32) (is : Bool) : Int32 × Int32 := if there = true then (if hb (st.getD f 0) k = is then (0, 5) else (1, 0)) else (0, 1)
def acS (there : Bool) (st : List Int32) (f : Nat) (k : Int32) (is : Bool) : List Int32 := if (acR there st f k is).1 = 1 then st.set f (st.getD f 0 ^^^ (1 <<< (k &&& 31))) else st
def acU (Us : List (List Int32)) (there : Bool) (st : List Int32) (f : Nat) (k : Int32) (is : Bool) : List (List Int32) := if (acR there st f k is).1 = 1 then pushU Us st else Us
theorem ma_no {tr : Int32} (hI : MIv H R st n nS nW nG nU nN) (hU : MUn H Us) (hK : MIm H Ks) {v : Int32} (hQ : MA H Q v tr st Us Ks) : Q (some (.int v)) (hpf (gd H) 68 11 (.int tr)) := by
  have hS := hI.shp
  have hg := gd_fga hS
  have hs1 := hg.shp
  have hF : Fg [] [(68, 0), (68, 11)] H (hpf (gd H) 68 11 (.int tr)) := (((fg_hpf (a := 68) (f := 0) (ci := 12) hS rfl (by decide))).trans (fg_hpf (a := 68) (f := 11) (ci := 12) (sf_68_0 hS) rfl (by decide))).trans (fg_hpf (a := 68) (f := 11) (ci := 12) hs1 rfl (by decide))
  refine hQ _ (hg.trans (fg_hpf (a := 68) (f := 11) (ci := 12) hs1 rfl (by decide))) ?_ ?_ ?_ (hU.of hF (by decide) (by decide) (by decide)) (hK.of hF (by decide) (by decide) (by decide))
  · rw [fi_hpf_ne (by decide), gd_0 hS]
  · rw [fe_68_11 hs1]
  · rw [hF.arr (by decide), hI.2.2.1]
theorem gd_un (hS : Shp H) (hU : MUn H Us) : MUn (gd H) Us := by
  have hF : Fg [] [(68, 0), (68, 11)] H (gd H) := ((fg_hpf (a := 68) (f := 0) (ci := 12) hS rfl (by decide))).trans (fg_hpf (a := 68) (f := 11) (ci := 12) (sf_68_0 hS) rfl (by decide))
  exact hU.of hF (by decide) (by decide) (by decide)
theorem gd_im (hS : Shp H) (hU : MIm H Us) : MIm (gd H) Us := by
  have hF : Fg [] [(68, 0), (68, 11)] H (gd H) := ((fg_hpf (a := 68) (f := 0) (ci := 12) hS rfl (by decide))).trans (fg_hpf (a := 68) (f := 11) (ci := 12) (sf_68_0 hS) rfl (by decide))
  exact hU.of hF (by decide) (by decide) (by decide)
theorem acR_01 {th : Bool} {f : Nat} {k : Int32} {is : Bool} : (acR th st f k is).1 = 0 ∨ (acR th st f k is).1 = 1 := by
  unfold acR
  split
  · split
    · exact Or.inl rfl
    · exact Or.inr rfl
  · exact Or.inl rfl
theorem M_show {k : Int32} {is : Bool} (hI : MIv H R st n nS nW nG nU nN) (hU : MUn H Us) (hK : MIm H Ks) (hQ : MA H Q (acR (decide (0 < n ∧ 0 ≤ k ∧ k < nI nG)) st 7 k is).1 (acR (decide (0 < n ∧ 0 ≤ k ∧ k < nI nG)) st 7 k is).2 (acS (decide (0 < n ∧ 0 ≤ k ∧ k < nI nG)) st 7 k is) (acU Us (decide (0 < n ∧ 0 ≤ k ∧ k < nI nG)) st 7 k is) Ks) : Wp scr (d + 3) 296 0 [some (.ref 68), some (.int k), some (.int (bI is))] [] H Q := by
  have hS := hI.shp
  have hg := gd_fg hS
  have hI1 := hI.q hg
  have hs1 := hI1.shp
  have hM1 : Mn (ar (gd H) 71) n nS nW nG nU nN := by rw [hI1.2.1]; exact hI1.mn
  have h14 := hI1.2.2.2.2
  have e73 := hI1.2.2.1
  have rgR : ∀ j, R.getD j 0 = rg R j := fun _ => rfl
  have l73 := hI1.l
  obtain ⟨c2, c3, c4, c5, c6, c7, b2, b3, b4, b5, b6, b7⟩ := hI1.mn
  simp (maxDischargeDepth := 12) only [w296_0, w296_1, w296_4, w296_5, w296_8, w296_11, w296_12, w296_13, w296_14, w296_17, w296_18, w296_19, w296_20, w296_21, w296_24, w296_27, w296_28, w296_30, w296_31, w296_32, w296_35, w296_38, w296_39, w296_40, w296_43, oK_some, cont_int, cont_intS, cont_none, cont_noneS, cont_long, cont_longS, true_and, and_true, false_and, and_false, true_implies, false_implies, not_true_eq_false, not_false_eq_true, eq_self, or_true, true_or, Option.isSome_some, hpf_length, hpa_length, bI_eq0, fi_hpa, fl_hpa, ar_hpf, fi_hpf_ne, fl_hpf_ne, ar_hpa_ne, hpa_hpa, hpf_hpf, nI_1, two_ne, fokZ, implies_true, Nat.reduceEqDiff, rc_68, g_68_14, sf_68_14, fe_68_14, g_68_15, ga_71, gn_71, sa_71, ae_71, kl_0, kl_1, kl_2, kl_3, kl_4, kl_5, kl_6, kl_7, kl_8, kl_9, kl_10, kl_11, kl_12, jb_0_211, jb_1_211, jb_2_211, jb_3_211, jb_4_211, jb_5_211, jb_6_211, jb_7_211, jb_8_211, jb_9_211, jb_10_211, jb_11_211, jb_12_211, hS, m_good, gd_len, hs1, h14, e73, l73, hI1.2.1, rgR, hI1.lr, m_no, decide_eq_false_iff_not, gn_71, jb_7_10, jb_8_10, jb_9_10, c5, m_in, row_in (v := k) (n := nG) (by omega), m_isNot]
  by_cases hc : 0 < n ∧ 0 ≤ k ∧ k < nI nG
  · simp only [hc.1, hc.2, and_self, oK_some, cont_int, cont_intS, cont_none, cont_noneS, cont_long, cont_longS, true_and, and_true, false_and, and_false, true_implies, false_implies, not_true_eq_false, not_false_eq_true, eq_self, or_true, true_or, Option.isSome_some, hpf_length, hpa_length, bI_eq0, fi_hpa, fl_hpa, ar_hpf, fi_hpf_ne, fl_hpf_ne, ar_hpa_ne, hpa_hpa, hpf_hpf, nI_1, two_ne, fokZ, implies_true, Nat.reduceEqDiff]
    have hd : decide (0 < n ∧ 0 ≤ k ∧ k < nI nG) = true := decide_eq_true hc
    refine m_becomes (f := 7) hs1 e73 (gd_un hS hU) rfl (Or.inl rfl) (fun e => ?_) (fun e H2 hF2 a2 hU2 => ?_)
    · have er : acR (decide (0 < n ∧ 0 ≤ k ∧ k < nI nG)) st 7 k is = (0, 5) := by unfold acR; rw [if_pos hd, if_pos e]
      have es : acS (decide (0 < n ∧ 0 ≤ k ∧ k < nI nG)) st 7 k is = st := by unfold acS; rw [er, if_neg (by decide)]
      have eu : acU Us (decide (0 < n ∧ 0 ≤ k ∧ k < nI nG)) st 7 k is = Us := by unfold acU; rw [er, if_neg (by decide)]
      rw [er, es, eu] at hQ
      simp (maxDischargeDepth := 12) only [w296_0, w296_1, w296_4, w296_5, w296_8, w296_11, w296_12, w296_13, w296_14, w296_17, w296_18, w296_19, w296_20, w296_21, w296_24, w296_27, w296_28, w296_30, w296_31, w296_32, w296_35, w296_38, w296_39, w296_40, w296_43, oK_some, cont_int, cont_intS, cont_none, cont_noneS, cont_long, cont_longS, true_and, and_true, false_and, and_false, true_implies, false_implies, not_true_eq_false, not_false_eq_true, eq_self, or_true, true_or, Option.isSome_some, hpf_length, hpa_length, bI_eq0, fi_hpa, fl_hpa, ar_hpf, fi_hpf_ne, fl_hpf_ne, ar_hpa_ne, hpa_hpa, hpf_hpf, nI_1, two_ne, fokZ, implies_true, Nat.reduceEqDiff, rc_68, g_68_14, sf_68_14, fe_68_14, g_68_15, ga_71, gn_71, sa_71, ae_71, kl_0, kl_1, kl_2, kl_3, kl_4, kl_5, kl_6, kl_7, kl_8, kl_9, kl_10, kl_11, kl_12, jb_0_211, jb_1_211, jb_2_211, jb_3_211, jb_4_211, jb_5_211, jb_6_211, jb_7_211, jb_8_211, jb_9_211, jb_10_211, jb_11_211, jb_12_211]
      exact ma_no hI hU hK hQ
    · have er : acR (decide (0 < n ∧ 0 ≤ k ∧ k < nI nG)) st 7 k is = (1, 0) := by unfold acR; rw [if_pos hd, if_neg e]
      have es : acS (decide (0 < n ∧ 0 ≤ k ∧ k < nI nG)) st 7 k is = st.set 7 (st.getD 7 0 ^^^ (1 <<< (k &&& 31))) := by unfold acS; rw [er, if_pos rfl]
      have eu : acU Us (decide (0 < n ∧ 0 ≤ k ∧ k < nI nG)) st 7 k is = pushU Us st := by unfold acU; rw [er, if_pos rfl]
      rw [er, es, eu] at hQ
      simp (maxDischargeDepth := 12) only [w296_0, w296_1, w296_4, w296_5, w296_8, w296_11, w296_12, w296_13, w296_14, w296_17, w296_18, w296_19, w296_20, w296_21, w296_24, w296_27, w296_28, w296_30, w296_31, w296_32, w296_35, w296_38, w296_39, w296_40, w296_43, oK_some, cont_int, cont_intS, cont_none, cont_noneS, cont_long, cont_longS, true_and, and_true, false_and, and_false, true_implies, false_implies, not_true_eq_false, not_false_eq_true, eq_self, or_true, true_or, Option.isSome_some, hpf_length, hpa_length, bI_eq0, fi_hpa, fl_hpa, ar_hpf, fi_hpf_ne, fl_hpf_ne, ar_hpa_ne, hpa_hpa, hpf_hpf, nI_1, two_ne, fokZ, implies_true, Nat.reduceEqDiff, rc_68, g_68_14, sf_68_14, fe_68_14, g_68_15, ga_71, gn_71, sa_71, ae_71, kl_0, kl_1, kl_2, kl_3, kl_4, kl_5, kl_6, kl_7, kl_8, kl_9, kl_10, kl_11, kl_12, jb_0_211, jb_1_211, jb_2_211, jb_3_211, jb_4_211, jb_5_211, jb_6_211, jb_7_211, jb_8_211, jb_9_211, jb_10_211, jb_11_211, jb_12_211, hF2.len]
      refine hQ H2 ((gd_fga hS).trans (hF2.mono (by decide) (by decide))) ?_ ?_ a2 hU2 ((gd_im hS hK).of hF2 (by decide) (by decide) (by decide))
      · rw [hF2.int (by decide) (by decide), gd_0 hS]
      · rw [hF2.int (by decide) (by decide), gd_11 hS]
  · have er : acR (decide (0 < n ∧ 0 ≤ k ∧ k < nI nG)) st 7 k is = (0, 1) := by unfold acR; rw [decide_eq_false hc, if_neg (by decide)]
    have es : acS (decide (0 < n ∧ 0 ≤ k ∧ k < nI nG)) st 7 k is = st := by unfold acS; rw [er, if_neg (by decide)]
    have eu : acU Us (decide (0 < n ∧ 0 ≤ k ∧ k < nI nG)) st 7 k is = Us := by unfold acU; rw [er, if_neg (by decide)]
    rw [er, es, eu] at hQ
    by_cases hp : 0 < n
    · have hk : ¬ (0 ≤ k ∧ k < nI nG) := fun q => hc ⟨hp, q⟩
      simp only [hp, hk, oK_some, cont_int, cont_intS, cont_none, cont_noneS, cont_long, cont_longS, true_and, and_true, false_and, and_false, true_implies, false_implies, not_true_eq_false, not_false_eq_true, eq_self, or_true, true_or, Option.isSome_some, hpf_length, hpa_length, bI_eq0, fi_hpa, fl_hpa, ar_hpf, fi_hpf_ne, fl_hpf_ne, ar_hpa_ne, hpa_hpa, hpf_hpf, nI_1, two_ne, fokZ, implies_true, Nat.reduceEqDiff]
      exact ma_no hI hU hK hQ
    · simp only [hp, oK_some, cont_int, cont_intS, cont_none, cont_noneS, cont_long, cont_longS, true_and, and_true, false_and, and_false, true_implies, false_implies, not_true_eq_false, not_false_eq_true, eq_self, or_true, true_or, Option.isSome_some, hpf_length, hpa_length, bI_eq0, fi_hpa, fl_hpa, ar_hpf, fi_hpf_ne, fl_hpf_ne, ar_hpa_ne, hpa_hpa, hpf_hpf, nI_1, two_ne, fokZ, implies_true, Nat.reduceEqDiff]
      exact ma_no hI hU hK hQ
theorem M_put {k : Int32} {is : Bool} (hI : MIv H R st n nS nW nG nU nN) (hU : MUn H Us) (hK : MIm H Ks) (hQ : MA H Q (acR (decide (0 < n ∧ 0 ≤ k ∧ k < nI nW)) st 8 k is).1 (acR (decide (0 < n ∧ 0 ≤ k ∧ k < nI nW)) st 8 k is).2 (acS (decide (0 < n ∧ 0 ≤ k ∧ k < nI nW)) st 8 k is) (acU Us (decide (0 < n ∧ 0 ≤ k ∧ k < nI nW)) st 8 k is) Ks) : Wp scr (d + 3) 297 0 [some (.ref 68), some (.int k), some (.int (bI is))] [] H Q := by
  have hS := hI.shp
  have hg := gd_fg hS
  have hI1 := hI.q hg
  have hs1 := hI1.shp
  have hM1 : Mn (ar (gd H) 71) n nS nW nG nU nN := by rw [hI1.2.1]; exact hI1.mn
  have h14 := hI1.2.2.2.2
  have e73 := hI1.2.2.1
  have rgR : ∀ j, R.getD j 0 = rg R j := fun _ => rfl
  have l73 := hI1.l
  obtain ⟨c2, c3, c4, c5, c6, c7, b2, b3, b4, b5, b6, b7⟩ := hI1.mn
  simp (maxDischargeDepth := 12) only [w297_0, w297_1, w297_4, w297_5, w297_8, w297_11, w297_12, w297_13, w297_14, w297_17, w297_18, w297_19, w297_20, w297_21, w297_24, w297_27, w297_28, w297_30, w297_31, w297_32, w297_35, w297_38, w297_39, w297_40, w297_43, oK_some, cont_int, cont_intS, cont_none, cont_noneS, cont_long, cont_longS, true_and, and_true, false_and, and_false, true_implies, false_implies, not_true_eq_false, not_false_eq_true, eq_self, or_true, true_or, Option.isSome_some, hpf_length, hpa_length, bI_eq0, fi_hpa, fl_hpa, ar_hpf, fi_hpf_ne, fl_hpf_ne, ar_hpa_ne, hpa_hpa, hpf_hpf, nI_1, two_ne, fokZ, implies_true, Nat.reduceEqDiff, rc_68, g_68_14, sf_68_14, fe_68_14, g_68_15, ga_71, gn_71, sa_71, ae_71, kl_0, kl_1, kl_2, kl_3, kl_4, kl_5, kl_6, kl_7, kl_8, kl_9, kl_10, kl_11, kl_12, jb_0_211, jb_1_211, jb_2_211, jb_3_211, jb_4_211, jb_5_211, jb_6_211, jb_7_211, jb_8_211, jb_9_211, jb_10_211, jb_11_211, jb_12_211, hS, m_good, gd_len, hs1, h14, e73, l73, hI1.2.1, rgR, hI1.lr, m_no, decide_eq_false_iff_not, gn_71, jb_7_10, jb_8_10, jb_9_10, c4, m_in, row_in (v := k) (n := nW) (by omega), m_isNot]
  by_cases hc : 0 < n ∧ 0 ≤ k ∧ k < nI nW
  · simp only [hc.1, hc.2, and_self, oK_some, cont_int, cont_intS, cont_none, cont_noneS, cont_long, cont_longS, true_and, and_true, false_and, and_false, true_implies, false_implies, not_true_eq_false, not_false_eq_true, eq_self, or_true, true_or, Option.isSome_some, hpf_length, hpa_length, bI_eq0, fi_hpa, fl_hpa, ar_hpf, fi_hpf_ne, fl_hpf_ne, ar_hpa_ne, hpa_hpa, hpf_hpf, nI_1, two_ne, fokZ, implies_true, Nat.reduceEqDiff]
    have hd : decide (0 < n ∧ 0 ≤ k ∧ k < nI nW) = true := decide_eq_true hc
    refine m_becomes (f := 8) hs1 e73 (gd_un hS hU) rfl (Or.inr rfl) (fun e => ?_) (fun e H2 hF2 a2 hU2 => ?_)
    · have er : acR (decide (0 < n ∧ 0 ≤ k ∧ k < nI nW)) st 8 k is = (0, 5) := by unfold acR; rw [if_pos hd, if_pos e]
      have es : acS (decide (0 < n ∧ 0 ≤ k ∧ k < nI nW)) st 8 k is = st := by unfold acS; rw [er, if_neg (by decide)]
      have eu : acU Us (decide (0 < n ∧ 0 ≤ k ∧ k < nI nW)) st 8 k is = Us := by unfold acU; rw [er, if_neg (by decide)]
      rw [er, es, eu] at hQ
      simp (maxDischargeDepth := 12) only [w297_0, w297_1, w297_4, w297_5, w297_8, w297_11, w297_12, w297_13, w297_14, w297_17, w297_18, w297_19, w297_20, w297_21, w297_24, w297_27, w297_28, w297_30, w297_31, w297_32, w297_35, w297_38, w297_39, w297_40, w297_43, oK_some, cont_int, cont_intS, cont_none, cont_noneS, cont_long, cont_longS, true_and, and_true, false_and, and_false, true_implies, false_implies, not_true_eq_false, not_false_eq_true, eq_self, or_true, true_or, Option.isSome_some, hpf_length, hpa_length, bI_eq0, fi_hpa, fl_hpa, ar_hpf, fi_hpf_ne, fl_hpf_ne, ar_hpa_ne, hpa_hpa, hpf_hpf, nI_1, two_ne, fokZ, implies_true, Nat.reduceEqDiff, rc_68, g_68_14, sf_68_14, fe_68_14, g_68_15, ga_71, gn_71, sa_71, ae_71, kl_0, kl_1, kl_2, kl_3, kl_4, kl_5, kl_6, kl_7, kl_8, kl_9, kl_10, kl_11, kl_12, jb_0_211, jb_1_211, jb_2_211, jb_3_211, jb_4_211, jb_5_211, jb_6_211, jb_7_211, jb_8_211, jb_9_211, jb_10_211, jb_11_211, jb_12_211]
      exact ma_no hI hU hK hQ
    · have er : acR (decide (0 < n ∧ 0 ≤ k ∧ k < nI nW)) st 8 k is = (1, 0) := by unfold acR; rw [if_pos hd, if_neg e]
      have es : acS (decide (0 < n ∧ 0 ≤ k ∧ k < nI nW)) st 8 k is = st.set 8 (st.getD 8 0 ^^^ (1 <<< (k &&& 31))) := by unfold acS; rw [er, if_pos rfl]
      have eu : acU Us (decide (0 < n ∧ 0 ≤ k ∧ k < nI nW)) st 8 k is = pushU Us st := by unfold acU; rw [er, if_pos rfl]
      rw [er, es, eu] at hQ
      simp (maxDischargeDepth := 12) only [w297_0, w297_1, w297_4, w297_5, w297_8, w297_11, w297_12, w297_13, w297_14, w297_17, w297_18, w297_19, w297_20, w297_21, w297_24, w297_27, w297_28, w297_30, w297_31, w297_32, w297_35, w297_38, w297_39, w297_40, w297_43, oK_some, cont_int, cont_intS, cont_none, cont_noneS, cont_long, cont_longS, true_and, and_true, false_and, and_false, true_implies, false_implies, not_true_eq_false, not_false_eq_true, eq_self, or_true, true_or, Option.isSome_some, hpf_length, hpa_length, bI_eq0, fi_hpa, fl_hpa, ar_hpf, fi_hpf_ne, fl_hpf_ne, ar_hpa_ne, hpa_hpa, hpf_hpf, nI_1, two_ne, fokZ, implies_true, Nat.reduceEqDiff, rc_68, g_68_14, sf_68_14, fe_68_14, g_68_15, ga_71, gn_71, sa_71, ae_71, kl_0, kl_1, kl_2, kl_3, kl_4, kl_5, kl_6, kl_7, kl_8, kl_9, kl_10, kl_11, kl_12, jb_0_211, jb_1_211, jb_2_211, jb_3_211, jb_4_211, jb_5_211, jb_6_211, jb_7_211, jb_8_211, jb_9_211, jb_10_211, jb_11_211, jb_12_211, hF2.len]
      refine hQ H2 ((gd_fga hS).trans (hF2.mono (by decide) (by decide))) ?_ ?_ a2 hU2 ((gd_im hS hK).of hF2 (by decide) (by decide) (by decide))
      · rw [hF2.int (by decide) (by decide), gd_0 hS]
      · rw [hF2.int (by decide) (by decide), gd_11 hS]
  · have er : acR (decide (0 < n ∧ 0 ≤ k ∧ k < nI nW)) st 8 k is = (0, 1) := by unfold acR; rw [decide_eq_false hc, if_neg (by decide)]
    have es : acS (decide (0 < n ∧ 0 ≤ k ∧ k < nI nW)) st 8 k is = st := by unfold acS; rw [er, if_neg (by decide)]
    have eu : acU Us (decide (0 < n ∧ 0 ≤ k ∧ k < nI nW)) st 8 k is = Us := by unfold acU; rw [er, if_neg (by decide)]
    rw [er, es, eu] at hQ
    by_cases hp : 0 < n
    · have hk : ¬ (0 ≤ k ∧ k < nI nW) := fun q => hc ⟨hp, q⟩
      simp only [hp, hk, oK_some, cont_int, cont_intS, cont_none, cont_noneS, cont_long, cont_longS, true_and, and_true, false_and, and_false, true_implies, false_implies, not_true_eq_false, not_false_eq_true, eq_self, or_true, true_or, Option.isSome_some, hpf_length, hpa_length, bI_eq0, fi_hpa, fl_hpa, ar_hpf, fi_hpf_ne, fl_hpf_ne, ar_hpa_ne, hpa_hpa, hpf_hpf, nI_1, two_ne, fokZ, implies_true, Nat.reduceEqDiff]
      exact ma_no hI hU hK hQ
    · simp only [hp, oK_some, cont_int, cont_intS, cont_none, cont_noneS, cont_long, cont_longS, true_and, and_true, false_and, and_false, true_implies, false_implies, not_true_eq_false, not_false_eq_true, eq_self, or_true, true_or, Option.isSome_some, hpf_length, hpa_length, bI_eq0, fi_hpa, fl_hpa, ar_hpf, fi_hpf_ne, fl_hpf_ne, ar_hpa_ne, hpa_hpa, hpf_hpf, nI_1, two_ne, fokZ, implies_true, Nat.reduceEqDiff]
      exact ma_no hI hU hK hQ
/-- day: what comes of it -/
def dyT (n : Nat) (st : List Int32) : Int32 := if 0 < n then (if st.getD 9 0 = 999 then 3 else 0) else 1
theorem M_day (hI : MIv H R st n nS nW nG nU nN) (hU : MUn H Us) (hK : MIm H Ks) (hQ : MA H Q (if dyT n st = 0 then dbt n (dayM R (allU nU) n nW nG nU st) else -1) (dyT n st) (if dyT n st = 0 then dayM R (allU nU) n nW nG nU st else st) (if dyT n st = 0 then pushU Us st else Us) Ks) : Wp scr (d + 5) 298 0 [some (.ref 68)] [] H Q := by
  have hS := hI.shp
  have hg := gd_fg hS
  have hI1 := hI.q hg
  have hs1 := hI1.shp
  have hM1 : Mn (ar (gd H) 71) n nS nW nG nU nN := by rw [hI1.2.1]; exact hI1.mn
  have h14 := hI1.2.2.2.2
  have e73 := hI1.2.2.1
  have rgR : ∀ j, R.getD j 0 = rg R j := fun _ => rfl
  have l73 := hI1.l
  obtain ⟨c2, c3, c4, c5, c6, c7, b2, b3, b4, b5, b6, b7⟩ := hI1.mn
  simp (maxDischargeDepth := 12) only [w298_0, w298_1, w298_4, w298_5, w298_8, w298_11, w298_12, w298_13, w298_16, w298_17, w298_18, w298_21, w298_23, w298_24, w298_27, w298_30, w298_31, w298_32, w298_35, w298_36, w298_37, w298_40, w298_41, w298_42, w298_43, w298_46, w298_48, w298_49, w298_50, w298_51, w298_52, w298_55, w298_56, w298_57, w298_60, w298_63, w298_64, w298_65, w298_68, w298_71, oK_some, cont_int, cont_intS, cont_none, cont_noneS, cont_long, cont_longS, true_and, and_true, false_and, and_false, true_implies, false_implies, not_true_eq_false, not_false_eq_true, eq_self, or_true, true_or, Option.isSome_some, hpf_length, hpa_length, bI_eq0, fi_hpa, fl_hpa, ar_hpf, fi_hpf_ne, fl_hpf_ne, ar_hpa_ne, hpa_hpa, hpf_hpf, nI_1, two_ne, fokZ, implies_true, Nat.reduceEqDiff, rc_68, g_68_14, sf_68_14, fe_68_14, g_68_17, ga_73, gn_73, sa_73, ae_73, g_68_15, ga_71, gn_71, sa_71, ae_71, g_68_22, sf_68_22, fe_68_22, kl_0, kl_1, kl_2, kl_3, kl_4, kl_5, kl_6, kl_7, kl_8, kl_9, kl_10, kl_11, kl_12, jb_0_10, jb_1_10, jb_2_10, jb_3_10, jb_4_10, jb_5_10, jb_6_10, jb_7_10, jb_8_10, jb_9_10, jb_0_211, jb_1_211, jb_2_211, jb_3_211, jb_4_211, jb_5_211, jb_6_211, jb_7_211, jb_8_211, jb_9_211, jb_10_211, jb_11_211, jb_12_211, hS, m_good, gd_len, hs1, h14, e73, l73, hI1.2.1, rgR, hI1.lr, m_no, decide_eq_false_iff_not, gn_71, jb_7_10, jb_8_10, jb_9_10]
  by_cases hp : 0 < n
  · by_cases h9 : st.getD 9 0 = 999
    · have e : dyT n st = 3 := by unfold dyT; rw [if_pos hp, if_pos h9]
      rw [e, if_neg (by decide), if_neg (by decide), if_neg (by decide)] at hQ
      simp only [hp, h9, oK_some, cont_int, cont_intS, cont_none, cont_noneS, cont_long, cont_longS, true_and, and_true, false_and, and_false, true_implies, false_implies, not_true_eq_false, not_false_eq_true, eq_self, or_true, true_or, Option.isSome_some, hpf_length, hpa_length, bI_eq0, fi_hpa, fl_hpa, ar_hpf, fi_hpf_ne, fl_hpf_ne, ar_hpa_ne, hpa_hpa, hpf_hpf, nI_1, two_ne, fokZ, implies_true, Nat.reduceEqDiff]
      exact ma_no hI hU hK hQ
    · have e : dyT n st = 0 := by unfold dyT; rw [if_pos hp, if_neg h9]
      rw [e, if_pos rfl, if_pos rfl, if_pos rfl] at hQ
      simp only [hp, h9, oK_some, cont_int, cont_intS, cont_none, cont_noneS, cont_long, cont_longS, true_and, and_true, false_and, and_false, true_implies, false_implies, not_true_eq_false, not_false_eq_true, eq_self, or_true, true_or, Option.isSome_some, hpf_length, hpa_length, bI_eq0, fi_hpa, fl_hpa, ar_hpf, fi_hpf_ne, fl_hpf_ne, ar_hpa_ne, hpa_hpa, hpf_hpf, nI_1, two_ne, fokZ, implies_true, Nat.reduceEqDiff]
      refine m_note hs1 e73 (gd_un hS hU) (fun H2 hF2 hU2 => ?_)
      have hI2 := hI1.of hF2 (by decide) (by decide) (by decide) (by decide)
      have hs2 := hF2.shp
      simp (maxDischargeDepth := 12) only [w298_0, w298_1, w298_4, w298_5, w298_8, w298_11, w298_12, w298_13, w298_16, w298_17, w298_18, w298_21, w298_23, w298_24, w298_27, w298_30, w298_31, w298_32, w298_35, w298_36, w298_37, w298_40, w298_41, w298_42, w298_43, w298_46, w298_48, w298_49, w298_50, w298_51, w298_52, w298_55, w298_56, w298_57, w298_60, w298_63, w298_64, w298_65, w298_68, w298_71, oK_some, cont_int, cont_intS, cont_none, cont_noneS, cont_long, cont_longS, true_and, and_true, false_and, and_false, true_implies, false_implies, not_true_eq_false, not_false_eq_true, eq_self, or_true, true_or, Option.isSome_some, hpf_length, hpa_length, bI_eq0, fi_hpa, fl_hpa, ar_hpf, fi_hpf_ne, fl_hpf_ne, ar_hpa_ne, hpa_hpa, hpf_hpf, nI_1, two_ne, fokZ, implies_true, Nat.reduceEqDiff, rc_68, g_68_14, sf_68_14, fe_68_14, g_68_17, ga_73, gn_73, sa_73, ae_73, g_68_15, ga_71, gn_71, sa_71, ae_71, g_68_22, sf_68_22, fe_68_22, kl_0, kl_1, kl_2, kl_3, kl_4, kl_5, kl_6, kl_7, kl_8, kl_9, kl_10, kl_11, kl_12, jb_0_10, jb_1_10, jb_2_10, jb_3_10, jb_4_10, jb_5_10, jb_6_10, jb_7_10, jb_8_10, jb_9_10, jb_0_211, jb_1_211, jb_2_211, jb_3_211, jb_4_211, jb_5_211, jb_6_211, jb_7_211, jb_8_211, jb_9_211, jb_10_211, jb_11_211, jb_12_211, hF2.len, hs2, hI2.2.1, hI2.lr, rgR, c6, jb_6_211, kl_6]
      have hs3 := sf_68_22 (v := (1 <<< (nI nU &&& 31)) - 1) hs2
      have hF3 : Fg [74] [(68, 20), (68, 22)] (gd H) (hpf H2 68 22 (.int ((1 <<< (nI nU &&& 31)) - 1))) := hF2.tr ((fg_hpf (a := 68) (f := 22) (ci := 12) hs2 rfl (by decide)) : Fg [] [(68, 22)] _ _) (by decide) (by decide) (by decide) (by decide)
      have hI3 := hI1.of hF3 (by decide) (by decide) (by decide) (by decide)
      refine m_dayOf hs3 (by rw [hI3.2.1]; exact hI3.mn) (Or.inl rfl) (fun H4 hF4 a4 => ?_)
      have hs4 := hF4.2.1
      have hF5 : Fg [73, 74, 76] [(68, 20), (68, 22)] (gd H) H4 := hF3.tr (hF4.fg (F := [])) (by decide) (by decide) (by decide) (by decide)
      have e22 : fi (hpf H2 68 22 (.int ((1 <<< (nI nU &&& 31)) - 1))) 68 22 = allU nU := by rw [fe_68_22 hs2]; rfl
      rw [hI3.2.1, e22, hI3.2.2.1] at a4
      have e71 : ar H4 71 = R := by rw [hF5.arr (by decide), hI1.2.1]
      simp (maxDischargeDepth := 12) only [w298_0, w298_1, w298_4, w298_5, w298_8, w298_11, w298_12, w298_13, w298_16, w298_17, w298_18, w298_21, w298_23, w298_24, w298_27, w298_30, w298_31, w298_32, w298_35, w298_36, w298_37, w298_40, w298_41, w298_42, w298_43, w298_46, w298_48, w298_49, w298_50, w298_51, w298_52, w298_55, w298_56, w298_57, w298_60, w298_63, w298_64, w298_65, w298_68, w298_71, oK_some, cont_int, cont_intS, cont_none, cont_noneS, cont_long, cont_longS, true_and, and_true, false_and, and_false, true_implies, false_implies, not_true_eq_false, not_false_eq_true, eq_self, or_true, true_or, Option.isSome_some, hpf_length, hpa_length, bI_eq0, fi_hpa, fl_hpa, ar_hpf, fi_hpf_ne, fl_hpf_ne, ar_hpa_ne, hpa_hpa, hpf_hpf, nI_1, two_ne, fokZ, implies_true, Nat.reduceEqDiff, rc_68, g_68_14, sf_68_14, fe_68_14, g_68_17, ga_73, gn_73, sa_73, ae_73, g_68_15, ga_71, gn_71, sa_71, ae_71, g_68_22, sf_68_22, fe_68_22, kl_0, kl_1, kl_2, kl_3, kl_4, kl_5, kl_6, kl_7, kl_8, kl_9, kl_10, kl_11, kl_12, jb_0_10, jb_1_10, jb_2_10, jb_3_10, jb_4_10, jb_5_10, jb_6_10, jb_7_10, jb_8_10, jb_9_10, jb_0_211, jb_1_211, jb_2_211, jb_3_211, jb_4_211, jb_5_211, jb_6_211, jb_7_211, jb_8_211, jb_9_211, jb_10_211, jb_11_211, jb_12_211, hF4.1, hs4, m_doubtersOf hs4 (by rw [e71]; exact hI3.mn) (Or.inl rfl), a4]
      refine hQ H4 ((gd_fga hS).trans (hF5.mono (by decide) (by decide))) ?_ ?_ a4 ?_ ((gd_im hS hK).of hF5 (by decide) (by decide) (by decide))
      · rw [hF5.int (by decide) (by decide), gd_0 hS]
      · rw [hF5.int (by decide) (by decide), gd_11 hS]
      · refine hU2.of (S := [73, 76]) (F := [(68, 22)]) ?_ (by decide) (by decide) (by decide)
        exact ((fg_hpf (a := 68) (f := 22) (ci := 12) hs2 rfl (by decide)) : Fg [73, 76] [(68, 22)] _ _).trans ((hF4.fg (F := [])).mono (by decide) (by decide))
  · have e : dyT n st = 1 := by unfold dyT; rw [if_neg hp]
    rw [e, if_neg (by decide), if_neg (by decide), if_neg (by decide)] at hQ
    simp only [hp, oK_some, cont_int, cont_intS, cont_none, cont_noneS, cont_long, cont_longS, true_and, and_true, false_and, and_false, true_implies, false_implies, not_true_eq_false, not_false_eq_true, eq_self, or_true, true_or, Option.isSome_some, hpf_length, hpa_length, bI_eq0, fi_hpa, fl_hpa, ar_hpf, fi_hpf_ne, fl_hpf_ne, ar_hpa_ne, hpa_hpa, hpf_hpf, nI_1, two_ne, fokZ, implies_true, Nat.reduceEqDiff]
    exact ma_no hI hU hK hQ
end MODELK
