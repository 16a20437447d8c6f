/-! ===== reading: the class's lines, kinds, names ===== -/
def lnK (xs : List Int32) (t : Tk) : Nat := if isWt xs t 0 = true then 1 else if isWt xs t 1 = true then 2 else if isWt xs t 2 = true then 3 else if isWt xs t 3 = true then 4 else if isWt xs t 4 = true then 5 else if isWt xs t 5 = true then 6 else if isWt xs t 6 = true then 7 else if isWt xs t 7 = true then 8 else 0
/-- the word at the token stands at another place too -/
def waE (xs : List Int32) (t : Tk) (q : Nat) : Bool := eqp xs t.1 (xs.drop q) (t.2.1 - t.1) && !(isL (xs.getD (q + (t.2.1 - t.1)) 0))
def nmH (xs rw : List Int32) (t : Tk) : Nat → Option Nat
  | 0 => none
  | k + 1 => match nmH xs rw t k with
    | some i => some i
    | none => if waE xs t (tg rw k 3).toNatClampNeg = true then some k else none
section CREAD2
variable {scr : List Int32} {d n j k : Nat} {t : Tk} {xs R : List Int32} {H H' : List AC} {Q : Option Value → List AC → Prop}
theorem c_lineHere (h : CP H xs n t) : Wp scr (d + 5) 37 0 [some (.ref 29)] [] H Q ↔ Q (some (.int (nI (lnK xs t)))) H := by
  refine Wp_iff ?_
  have hS := h.shp
  unfold lnK
  simp (maxDischargeDepth := 12) only [w37_0, w37_1, w37_3, w37_6, w37_9, w37_10, w37_11, w37_12, w37_14, w37_17, w37_20, w37_21, w37_22, w37_23, w37_25, w37_28, w37_31, w37_32, w37_33, w37_34, w37_36, w37_39, w37_42, w37_43, w37_44, w37_45, w37_47, w37_50, w37_53, w37_54, w37_55, w37_56, w37_58, w37_61, w37_64, w37_66, w37_67, w37_68, w37_70, w37_73, w37_76, w37_78, w37_79, w37_80, w37_82, w37_85, w37_88, w37_90, w37_93, w37_94, oK_some, cont_int, cont_intS, cont_none, cont_noneS, cont_long, cont_longS, true_and, and_true, false_and, and_false, true_implies, false_implies, not_true_eq_false, not_false_eq_true, eq_self, or_true, true_or, Option.isSome_some, hpf_length, hpa_length, bI_eq0, fi_hpa, fl_hpa, ar_hpf, fi_hpf_ne, fl_hpf_ne, ar_hpa_ne, hpa_hpa, hpf_hpf, nI_1, two_ne, fokZ, implies_true, Nat.reduceEqDiff, rc_29, hS, c_isW h (show 0 < 19 by decide), c_isW h (show 1 < 19 by decide), c_isW h (show 2 < 19 by decide), c_isW h (show 3 < 19 by decide), c_isW h (show 4 < 19 by decide), c_isW h (show 5 < 19 by decide), c_isW h (show 6 < 19 by decide), c_isW h (show 7 < 19 by decide)]
  cases q0 : isWt xs t 0
  · cases q1 : isWt xs t 1
    · cases q2 : isWt xs t 2
      · cases q3 : isWt xs t 3
        · cases q4 : isWt xs t 4
          · cases q5 : isWt xs t 5
            · cases q6 : isWt xs t 6
              · cases q7 : isWt xs t 7
                · exact ⟨fun _ => ⟨fun _ => ⟨fun _ => ⟨fun _ => ⟨fun _ => ⟨fun _ => ⟨fun _ => ⟨fun _ => rfl, fun q => absurd rfl q⟩, fun q => absurd rfl q⟩, fun q => absurd rfl q⟩, fun q => absurd rfl q⟩, fun q => absurd rfl q⟩, fun q => absurd rfl q⟩, fun q => absurd rfl q⟩, fun q => absurd rfl q⟩
                · simp; rfl
              · simp; rfl
            · simp; rfl
          · simp; rfl
        · simp; rfl
      · simp; rfl
    · simp; rfl
  · simp; rfl
theorem c_kindHere (h : CP H xs n t) : Wp scr (d + 5) 49 0 [some (.ref 29)] [] H Q ↔ Q (some (.int (fdI (pKind xs t)))) H := by
  refine Wp_iff ?_
  have hS := h.shp
  unfold pKind
  simp (maxDischargeDepth := 12) only [w49_0, w49_1, w49_3, w49_6, w49_9, w49_10, w49_11, w49_12, w49_14, w49_17, w49_20, w49_21, w49_22, w49_23, w49_25, w49_28, w49_31, w49_32, w49_33, w49_34, w49_36, w49_39, w49_42, w49_43, w49_46, w49_47, oK_some, cont_int, cont_intS, cont_none, cont_noneS, cont_long, cont_longS, true_and, and_true, false_and, and_false, true_implies, false_implies, not_true_eq_false, not_false_eq_true, eq_self, or_true, true_or, Option.isSome_some, hpf_length, hpa_length, bI_eq0, fi_hpa, fl_hpa, ar_hpf, fi_hpf_ne, fl_hpf_ne, ar_hpa_ne, hpa_hpa, hpf_hpf, nI_1, two_ne, fokZ, implies_true, Nat.reduceEqDiff, rc_29, hS, c_isW h (show 10 < 19 by decide), c_isW h (show 11 < 19 by decide), c_isW h (show 12 < 19 by decide), c_isW h (show 13 < 19 by decide)]
  cases q0 : isWt xs t 10
  · cases q1 : isWt xs t 11
    · cases q2 : isWt xs t 12
      · cases q3 : isWt xs t 13
        · simp [fdI]
        · simp [fdI]; rfl
      · simp [fdI]; rfl
    · simp [fdI]; rfl
  · simp [fdI]; rfl
theorem c_wordAt {q : Nat} (h : CP H xs n t) (hq : q ≤ 900) : Wp scr (d + 1) 36 0 [some (.ref 29), some (.int (nI q)), none, none] [] H Q ↔ Q (some (.int (bI (waE xs t q)))) H := by
  refine Wp_iff ?_
  obtain ⟨⟨hS, hn, h9, f3, f4, f5, ha, he, et⟩, e2⟩ := h
  have i1 : ∀ a : Nat, nI a + 1 = nI (a + 1) := fun a => ixa a 1 (v := 1) rfl
  have hae : t.1 ≤ t.2.1 := by
    have := congrArg Prod.snd et
    change t.2.1 = _ at this
    rw [this]
    exact tkT_ge
  have key := down (P := fun k => eqp xs t.1 (xs.drop q) k = true → Wp scr (d + 1) 36 12 [some (.ref 29), some (.int (nI q)), some (.int (nI (t.2.1 - t.1))), some (.int (nI k))] [] H (fun r H' => r = some (.int (bI (waE xs t q))) ∧ H' = H)) (t.2.1 - t.1) ?_ ?_
  · simp (maxDischargeDepth := 12) only [w36_0, w36_1, w36_4, w36_5, w36_8, w36_9, w36_10, w36_11, w36_13, w36_14, w36_17, w36_18, w36_21, w36_22, w36_25, w36_26, w36_27, w36_30, w36_31, w36_34, w36_35, w36_36, w36_37, w36_40, w36_43, w36_44, w36_45, w36_48, w36_51, w36_52, w36_55, w36_56, w36_57, w36_58, w36_61, w36_64, w36_67, w36_68, w36_71, w36_72, oK_some, cont_int, cont_intS, cont_none, cont_noneS, cont_long, cont_longS, true_and, and_true, false_and, and_false, true_implies, false_implies, not_true_eq_false, not_false_eq_true, eq_self, or_true, true_or, Option.isSome_some, hpf_length, hpa_length, bI_eq0, fi_hpa, fl_hpa, ar_hpf, fi_hpf_ne, fl_hpf_ne, ar_hpa_ne, hpa_hpa, hpf_hpf, nI_1, two_ne, fokZ, implies_true, Nat.reduceEqDiff, g_29_4, sf_29_4, fe_29_4, g_29_3, sf_29_3, fe_29_3, g_29_0, rc_1, rc_31, rc_35, rc_37, rc_39, rc_41, rc_46, rc_48, rc_50, rc_53, rc_55, rc_57, rc_59, rc_63, rc_66, hS, f3, f4, nI_subI hae]
    exact key eqp_zero
  · intro hz
    rw [w36_12]
    simp (maxDischargeDepth := 12) only [w36_0, w36_1, w36_4, w36_5, w36_8, w36_9, w36_10, w36_11, w36_13, w36_14, w36_17, w36_18, w36_21, w36_22, w36_25, w36_26, w36_27, w36_30, w36_31, w36_34, w36_35, w36_36, w36_37, w36_40, w36_43, w36_44, w36_45, w36_48, w36_51, w36_52, w36_55, w36_56, w36_57, w36_58, w36_61, w36_64, w36_67, w36_68, w36_71, w36_72, oK_some, cont_int, cont_intS, cont_none, cont_noneS, cont_long, cont_longS, true_and, and_true, false_and, and_false, true_implies, false_implies, not_true_eq_false, not_false_eq_true, eq_self, or_true, true_or, Option.isSome_some, hpf_length, hpa_length, bI_eq0, fi_hpa, fl_hpa, ar_hpf, fi_hpf_ne, fl_hpf_ne, ar_hpa_ne, hpa_hpa, hpf_hpf, nI_1, two_ne, fokZ, implies_true, Nat.reduceEqDiff, g_29_4, sf_29_4, fe_29_4, g_29_3, sf_29_3, fe_29_3, g_29_0, rc_1, rc_31, rc_35, rc_37, rc_39, rc_41, rc_46, rc_48, rc_50, rc_53, rc_55, rc_57, rc_59, rc_63, rc_66, hS, nI_les, nI_add, c_textAt hS (show q + (t.2.1 - t.1) < 2147483648 by omega), e2, c_isLetter]
    unfold waE
    rw [hz, Bool.true_and]
    cases isL (xs.getD (q + (t.2.1 - t.1)) 0)
    · simp [bI]
    · simp [bI]
  · intro k hk hw hz
    rw [eqp_succ, hz, Bool.true_and, getD_dropI] at hw
    rw [w36_12]
    simp (maxDischargeDepth := 12) only [w36_0, w36_1, w36_4, w36_5, w36_8, w36_9, w36_10, w36_11, w36_13, w36_14, w36_17, w36_18, w36_21, w36_22, w36_25, w36_26, w36_27, w36_30, w36_31, w36_34, w36_35, w36_36, w36_37, w36_40, w36_43, w36_44, w36_45, w36_48, w36_51, w36_52, w36_55, w36_56, w36_57, w36_58, w36_61, w36_64, w36_67, w36_68, w36_71, w36_72, oK_some, cont_int, cont_intS, cont_none, cont_noneS, cont_long, cont_longS, true_and, and_true, false_and, and_false, true_implies, false_implies, not_true_eq_false, not_false_eq_true, eq_self, or_true, true_or, Option.isSome_some, hpf_length, hpa_length, bI_eq0, fi_hpa, fl_hpa, ar_hpf, fi_hpf_ne, fl_hpf_ne, ar_hpa_ne, hpa_hpa, hpf_hpf, nI_1, two_ne, fokZ, implies_true, Nat.reduceEqDiff, g_29_4, sf_29_4, fe_29_4, g_29_3, sf_29_3, fe_29_3, g_29_0, rc_1, rc_31, rc_35, rc_37, rc_39, rc_41, rc_46, rc_48, rc_50, rc_53, rc_55, rc_57, rc_59, rc_63, rc_66, hS, nI_lef hk (by omega), f3, nI_add, c_textAt hS (show q + k < 2147483648 by omega), c_textAt hS (show t.1 + k < 2147483648 by omega), e2, i1]
    by_cases hc : xs.getD (t.1 + k) 0 = xs.getD (q + k) 0
    · simp only [hc, oK_some, cont_int, cont_intS, cont_none, cont_noneS, cont_long, cont_longS, true_and, and_true, false_and, and_false, true_implies, false_implies, not_true_eq_false, not_false_eq_true, eq_self, or_true, true_or, Option.isSome_some, hpf_length, hpa_length, bI_eq0, fi_hpa, fl_hpa, ar_hpf, fi_hpf_ne, fl_hpf_ne, ar_hpa_ne, hpa_hpa, hpf_hpf, nI_1, two_ne, fokZ, implies_true, Nat.reduceEqDiff]
      exact hw (decide_eq_true hc)
    · simp only [hc, oK_some, cont_int, cont_intS, cont_none, cont_noneS, cont_long, cont_longS, true_and, and_true, false_and, and_false, true_implies, false_implies, not_true_eq_false, not_false_eq_true, eq_self, or_true, true_or, Option.isSome_some, hpf_length, hpa_length, bI_eq0, fi_hpa, fl_hpa, ar_hpf, fi_hpf_ne, fl_hpf_ne, ar_hpa_ne, hpa_hpa, hpf_hpf, nI_1, two_ne, fokZ, implies_true, Nat.reduceEqDiff]
      have hz : waE xs t q = false := by
        unfold waE
        rw [show eqp xs t.1 (xs.drop q) (t.2.1 - t.1) = false from decide_eq_false (fun q' => hc (by have := q' k hk; rwa [getD_dropI] at this)), Bool.false_and]
      rw [hz]; rfl
/-- the names' places are places -/
def NmP (H : List AC) (c : Nat) : Prop := fi H 17 2 = nI c ∧ c ≤ 7 ∧ ∀ i, i < c → ∃ q, q ≤ 900 ∧ tg (ar H 18) i 3 = nI q
theorem nmH_lt {rw : List Int32} : ∀ k i, nmH xs rw t k = some i → i < k
  | 0, i, h => by unfold nmH at h; exact absurd h (by simp)
  | k + 1, i, h => by
    unfold nmH at h
    cases e : nmH xs rw t k with
    | some i' =>
      rw [e] at h
      have := nmH_lt k i' e
      injection h with h
      omega
    | none =>
      rw [e] at h
      change (if waE xs t (tg rw k 3).toNatClampNeg = true then some k else none) = some i at h
      cases q : waE xs t (tg rw k 3).toNatClampNeg
      · rw [q] at h; exact absurd h (by simp)
      · rw [q] at h; injection h with h; omega
theorem c_named {c : Nat} (h : CP H xs n t) (hN : NmP H c) : Wp scr (d + 2) 47 0 [some (.ref 29), none] [] H Q ↔ Q (some (.int (fdI (nmH xs (ar H 18) t c)))) H := by
  refine Wp_iff ?_
  have hS := h.shp
  obtain ⟨hc, hc7, hq⟩ := hN
  have i1 : ∀ a : Nat, nI a + 1 = nI (a + 1) := fun a => ixa a 1 (v := 1) rfl
  have hx : (ar H 18).length < 2147483648 := by rw [gn_18 hS]; decide
  have key := down (P := fun i => nmH xs (ar H 18) t i = none → Wp scr (d + 2) 47 2 [some (.ref 29), some (.int (nI i))] [] H (fun r H' => r = some (.int (fdI (nmH xs (ar H 18) t c))) ∧ H' = H)) c ?_ ?_
  · simp (maxDischargeDepth := 12) only [w47_0, w47_1, w47_3, w47_4, w47_7, w47_10, w47_13, w47_16, w47_17, w47_18, w47_21, w47_24, w47_25, w47_26, w47_29, w47_32, w47_35, w47_36, w47_37, w47_40, w47_43, w47_44, oK_some, cont_int, cont_intS, cont_none, cont_noneS, cont_long, cont_longS, true_and, and_true, false_and, and_false, true_implies, false_implies, not_true_eq_false, not_false_eq_true, eq_self, or_true, true_or, Option.isSome_some, hpf_length, hpa_length, bI_eq0, fi_hpa, fl_hpa, ar_hpf, fi_hpf_ne, fl_hpf_ne, ar_hpa_ne, hpa_hpa, hpf_hpf, nI_1, two_ne, fokZ, implies_true, Nat.reduceEqDiff, g_29_1, rc_16, g_3_2, rc_4, g_16_2, rc_17, rc_6, rc_8, rc_10, rc_12, rc_14, rc_19, rc_21, rc_23, rc_25, rc_27, rc_29, hS]
    exact key rfl
  · intro hz
    rw [w47_2]
    simp (maxDischargeDepth := 12) only [w47_0, w47_1, w47_3, w47_4, w47_7, w47_10, w47_13, w47_16, w47_17, w47_18, w47_21, w47_24, w47_25, w47_26, w47_29, w47_32, w47_35, w47_36, w47_37, w47_40, w47_43, w47_44, oK_some, cont_int, cont_intS, cont_none, cont_noneS, cont_long, cont_longS, true_and, and_true, false_and, and_false, true_implies, false_implies, not_true_eq_false, not_false_eq_true, eq_self, or_true, true_or, Option.isSome_some, hpf_length, hpa_length, bI_eq0, fi_hpa, fl_hpa, ar_hpf, fi_hpf_ne, fl_hpf_ne, ar_hpa_ne, hpa_hpa, hpf_hpf, nI_1, two_ne, fokZ, implies_true, Nat.reduceEqDiff, g_29_1, rc_16, g_3_2, rc_4, g_16_2, rc_17, rc_6, rc_8, rc_10, rc_12, rc_14, rc_19, rc_21, rc_23, rc_25, rc_27, rc_29, hS, c_Table_count (g_17_2 hS), hc, nI_les, hz]
    rfl
  · intro i hi hw hz
    obtain ⟨q, hq9, eq⟩ := hq i hi
    have hst : nmH xs (ar H 18) t (i + 1) = if waE xs t q = true then some i else none := by
      show (match nmH xs (ar H 18) t i with | some i => some i | none => if waE xs t (tg (ar H 18) i 3).toNatClampNeg = true then some i else none) = _
      rw [hz, eq, nI_clamp (by omega)]
    have hfin : waE xs t q = true → nmH xs (ar H 18) t c = some i := by
      intro hq
      rw [if_pos hq] at hst
      have : ∀ k, nmH xs (ar H 18) t (i + 1 + k) = some i := by
        intro k
        induction k with
        | zero => exact hst
        | succ k ih =>
          show (match nmH xs (ar H 18) t (i + 1 + k) with | some i => some i | none => if waE xs t (tg (ar H 18) (i + 1 + k) 3).toNatClampNeg = true then some (i + 1 + k) else none) = _
          rw [ih]
      have := this (c - (i + 1))
      rwa [show i + 1 + (c - (i + 1)) = c by omega] at this
    rw [w47_2]
    simp (maxDischargeDepth := 12) only [w47_0, w47_1, w47_3, w47_4, w47_7, w47_10, w47_13, w47_16, w47_17, w47_18, w47_21, w47_24, w47_25, w47_26, w47_29, w47_32, w47_35, w47_36, w47_37, w47_40, w47_43, w47_44, oK_some, cont_int, cont_intS, cont_none, cont_noneS, cont_long, cont_longS, true_and, and_true, false_and, and_false, true_implies, false_implies, not_true_eq_false, not_false_eq_true, eq_self, or_true, true_or, Option.isSome_some, hpf_length, hpa_length, bI_eq0, fi_hpa, fl_hpa, ar_hpf, fi_hpf_ne, fl_hpf_ne, ar_hpa_ne, hpa_hpa, hpf_hpf, nI_1, two_ne, fokZ, implies_true, Nat.reduceEqDiff, g_29_1, rc_16, g_3_2, rc_4, g_16_2, rc_17, rc_6, rc_8, rc_10, rc_12, rc_14, rc_19, rc_21, rc_23, rc_25, rc_27, rc_29, hS, c_Table_count (g_17_2 hS), hc, nI_lef hi (by omega), c_Table_at (g_17_1 hS) (ga_18 hS) hx, show cAt (ar H 18) (nI i * 4 + 3) = nI q from (tg_eq 3 (by omega) (by decide) rfl).trans eq, c_wordAt h hq9, i1]
    cases hb : waE xs t q
    · simp only [oK_some, cont_int, cont_intS, cont_none, cont_noneS, cont_long, cont_longS, true_and, and_true, false_and, and_false, true_implies, false_implies, not_true_eq_false, not_false_eq_true, eq_self, or_true, true_or, Option.isSome_some, hpf_length, hpa_length, bI_eq0, fi_hpa, fl_hpa, ar_hpf, fi_hpf_ne, fl_hpf_ne, ar_hpa_ne, hpa_hpa, hpf_hpf, nI_1, two_ne, fokZ, implies_true, Nat.reduceEqDiff]
      exact hw (by rw [hst, hb]; rfl)
    · simp only [oK_some, cont_int, cont_intS, cont_none, cont_noneS, cont_long, cont_longS, true_and, and_true, false_and, and_false, true_implies, false_implies, not_true_eq_false, not_false_eq_true, eq_self, or_true, true_or, Option.isSome_some, hpf_length, hpa_length, bI_eq0, fi_hpa, fl_hpa, ar_hpf, fi_hpf_ne, fl_hpf_ne, ar_hpa_ne, hpa_hpa, hpf_hpf, nI_1, two_ne, fokZ, implies_true, Nat.reduceEqDiff, Bool.true_eq_false, hfin hb]
      rfl
end CREAD2
