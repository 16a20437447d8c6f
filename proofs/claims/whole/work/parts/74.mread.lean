/-! ===== reading: the pure words, and the reference's small steps ===== -/
abbrev Tk := Nat × Nat × Nat
abbrev Er := Except (Int32 × Nat)
/-- the token behind a place: its place, its end, its sort -/
def tk (xs : List Int32) (n p : Nat) : Tk := (tkP xs n p, (tkT xs n (tkP xs n p)).2, (tkT xs n (tkP xs n p)).1)
def isWt (xs : List Int32) (t : Tk) (j : Nat) : Bool := isW xs t.1 t.2.1 t.2.2 j
def pWord (xs : List Int32) (n j : Nat) (t : Tk) : Er Tk := if isWt xs t j = true then .ok (tk xs n t.2.1) else .error (1, t.1)
def whT (xs : List Int32) (t : Tk) : Int32 := whV xs t.1 (t.2.1 - t.1)
def pNumH (xs : List Int32) (lo hi : Int32) (t : Tk) : Er Int32 := if t.2.2 = 2 then (if lo ≤ whT xs t ∧ whT xs t ≤ hi then .ok (whT xs t) else .error (4, t.1)) else .error (1, t.1)
def pNum (xs : List Int32) (n : Nat) (lo hi : Int32) (t : Tk) : Er (Int32 × Tk) :=
  match pNumH xs lo hi t with
  | .ok w => .ok (w, tk xs n t.2.1)
  | .error e => .error e
def pAfter (xs : List Int32) (n j : Nat) (lo hi : Int32) (t : Tk) : Er (Int32 × Tk) :=
  match pWord xs n j t with
  | .ok t1 => pNum xs n lo hi t1
  | .error e => .error e
def isKey (xs : List Int32) (t : Tk) : Bool := isWt xs t 0 || (isWt xs t 1 || (isWt xs t 2 || (isWt xs t 3 || (isWt xs t 4 || (isWt xs t 5 || (isWt xs t 6 || isWt xs t 7))))))
def pName (xs : List Int32) (t : Tk) : Bool := decide (t.2.2 = 1) && !(isKey xs t)
/-- the name at the token is that of row i -/
def nmE (xs : List Int32) (R : List Int32) (t : Tk) (i : Nat) : Bool := decide (0 < rg R (148 + i)) && (decide (rg R (148 + i) = nI (t.2.1 - t.1)) && eqp xs t.1 (R.drop (155 + 8 * i)) (t.2.1 - t.1))
def findR (xs : List Int32) (R : List Int32) (t : Tk) : Nat → Option Nat
  | 0 => none
  | k + 1 => match findR xs R t k with
    | some i => some i
    | none => if nmE xs R t k = true then some k else none
def pRowH (xs : List Int32) (R : List Int32) (t : Tk) : Er Nat := if pName xs t = true then (match findR xs R t 7 with | some i => .ok i | none => .error (2, t.1)) else .error (1, t.1)
def pRow (xs : List Int32) (n : Nat) (R : List Int32) (t : Tk) : Er (Nat × Tk) :=
  match pRowH xs R t with
  | .ok i => .ok (i, tk xs n t.2.1)
  | .error e => .error e
section MREAD
variable {scr : List Int32} {d n j k : Nat} {t : Tk} {xs R : List Int32} {H H' : List AC} {Q : Option Value → List AC → Prop}
/-- the reference reads -/
def MP (H : List AC) (xs : List Int32) (n : Nat) (t : Tk) (R : List Int32) : Prop := MT H n t.1 t.2.1 t.2.2 ∧ ar H 69 = xs ∧ ((∀ q, ¬ xs.getD q 0 = -1) ∧ fi H 68 9 = 0) ∧ fi H 68 13 = 0 ∧ ar H 72 = R
/-- the reference failed -/
def ML (H : List AC) (c : Int32) (p : Nat) : Prop := Shp H ∧ fi H 68 13 = 1 ∧ fi H 68 9 = c ∧ fi H 68 10 = nI p
abbrev FgM (H H' : List AC) : Prop := Fg [70] [(68, 4), (68, 5), (68, 6), (68, 7), (68, 8), (68, 9), (68, 10), (68, 13)] H H'
abbrev FgL (H H' : List AC) : Prop := Fg [70, 72] [(68, 4), (68, 5), (68, 6), (68, 7), (68, 8), (68, 9), (68, 10), (68, 13)] H H'
theorem Fg.l (h : FgM H H') : FgL H H' := h.mono (by decide) (by decide)
theorem MP.shp (h : MP H xs n t R) : Shp H := h.1.1
theorem m_wrongF {c q : Int32} (hS : Shp H) (hf : fi H 68 13 = 1) : Wp scr d 198 0 [some (.ref 68), some (.int c), some (.int q)] [] H Q ↔ Q none H := by
  refine Wp_iff ?_
  simp (maxDischargeDepth := 12) only [w198_0, w198_1, w198_4, w198_7, w198_8, w198_9, w198_10, w198_13, w198_14, w198_15, w198_18, w198_19, w198_20, w198_23, oK_some, cont_int, cont_intS, cont_none, cont_noneS, cont_long, cont_longS, true_and, and_true, false_and, and_false, true_implies, false_implies, not_true_eq_false, not_false_eq_true, eq_self, or_true, true_or, Option.isSome_some, hpf_length, hpa_length, bI_eq0, fi_hpa, fl_hpa, ar_hpf, fi_hpf_ne, fl_hpf_ne, ar_hpa_ne, hpa_hpa, hpf_hpf, nI_1, two_ne, fokZ, implies_true, Nat.reduceEqDiff, g_68_13, sf_68_13, fe_68_13, g_68_9, sf_68_9, fe_68_9, g_68_10, sf_68_10, fe_68_10, hS, hf, show ((1 : Int32) = 0) = False from eq_false (by decide)]
theorem m_wrong {c q : Int32} (hS : Shp H) (hf : fi H 68 13 = 0) : Wp scr d 198 0 [some (.ref 68), some (.int c), some (.int q)] [] H Q ↔ Q none (hpf (hpf (hpf H 68 13 (.int 1)) 68 9 (.int c)) 68 10 (.int q)) := by
  refine Wp_iff ?_
  have s1 := sf_68_13 (v := 1) hS
  have s2 := sf_68_9 (v := c) s1
  simp (maxDischargeDepth := 12) only [w198_0, w198_1, w198_4, w198_7, w198_8, w198_9, w198_10, w198_13, w198_14, w198_15, w198_18, w198_19, w198_20, w198_23, oK_some, cont_int, cont_intS, cont_none, cont_noneS, cont_long, cont_longS, true_and, and_true, false_and, and_false, true_implies, false_implies, not_true_eq_false, not_false_eq_true, eq_self, or_true, true_or, Option.isSome_some, hpf_length, hpa_length, bI_eq0, fi_hpa, fl_hpa, ar_hpf, fi_hpf_ne, fl_hpf_ne, ar_hpa_ne, hpa_hpa, hpf_hpf, nI_1, two_ne, fokZ, implies_true, Nat.reduceEqDiff, g_68_13, sf_68_13, fe_68_13, g_68_9, sf_68_9, fe_68_9, g_68_10, sf_68_10, fe_68_10, hS, hf, s1, s2]
theorem ml_wrong {c : Int32} {p : Nat} (hS : Shp H) : FgM H (hpf (hpf (hpf H 68 13 (.int 1)) 68 9 (.int c)) 68 10 (.int (nI p))) ∧ ML (hpf (hpf (hpf H 68 13 (.int 1)) 68 9 (.int c)) 68 10 (.int (nI p))) c p := by
  have s1 := sf_68_13 (v := 1) hS
  have s2 := sf_68_9 (v := c) s1
  have s3 := sf_68_10 (v := nI p) s2
  refine ⟨(((fg_hpf (a := 68) (f := 13) (ci := 12) hS rfl (by decide))).trans (fg_hpf (a := 68) (f := 9) (ci := 12) s1 rfl (by decide))).trans (fg_hpf (a := 68) (f := 10) (ci := 12) s2 rfl (by decide)), s3, ?_, ?_, fe_68_10 s2⟩
  · rw [fi_hpf_ne (by decide), fi_hpf_ne (by decide), fe_68_13 hS]
  · rw [fi_hpf_ne (by decide), fe_68_9 s1]
/-- wrong, at the token -/
theorem M_wrong {c : Int32} (h : MP H xs n t R) (hQ : ∀ H', FgM H H' → ML H' c t.1 → Q none H') : Wp scr d 198 0 [some (.ref 68), some (.int c), some (.int (nI t.1))] [] H Q := by
  rw [m_wrong h.shp h.2.2.2.1]
  exact hQ _ (ml_wrong h.shp).1 (ml_wrong h.shp).2
theorem M_nx (h : MP H xs n t R) (hQ : ∀ H', FgM H H' → MP H' xs n (tk xs n t.2.1) R → Q none H') : Wp scr (d + 1) 197 0 [some (.ref 68), none, none, none] [] H Q := by
  obtain ⟨⟨hS, hn, h9, f4, f5, f6, ha, he, et, h1, h2⟩, e69, hB, hf, e72⟩ := h
  refine M_next hS hn h9 f5 he (by rw [e69]; exact hB.1) (fun H' hF hT => ?_)
  rw [e69] at hT
  exact hQ H' (hF.mono (by decide) (by decide)) ⟨hT, (hF.arr (by decide)).trans e69, ⟨hB.1, (hF.int (by decide) (by decide)).trans hB.2⟩, (hF.int (by decide) (by decide)).trans hf, (hF.arr (by decide)).trans e72⟩
theorem m_isW (h : MP H xs n t R) (hj : j < 19) : Wp scr (d + 4) 199 0 [some (.ref 68), some (.retAddr j), none, none] [] H Q ↔ Q (some (.int (bI (isWt xs t j)))) H := by
  rw [M_isWord h.1 h.2.2.2.1 hj, h.2.1]; rfl
theorem m_mustF (hS : Shp H) (hf : fi H 68 13 = 1) : Wp scr (d + 6) 201 0 [some (.ref 68), some (.retAddr j)] [] H Q ↔ Q none H := by
  refine Wp_iff ?_
  simp (maxDischargeDepth := 12) only [w201_0, w201_1, w201_4, w201_7, w201_8, w201_9, w201_12, w201_15, w201_16, w201_17, w201_18, w201_21, w201_24, oK_some, cont_int, cont_intS, cont_none, cont_noneS, cont_long, cont_longS, true_and, and_true, false_and, and_false, true_implies, false_implies, not_true_eq_false, not_false_eq_true, eq_self, or_true, true_or, Option.isSome_some, hpf_length, hpa_length, bI_eq0, fi_hpa, fl_hpa, ar_hpf, fi_hpf_ne, fl_hpf_ne, ar_hpa_ne, hpa_hpa, hpf_hpf, nI_1, two_ne, fokZ, implies_true, Nat.reduceEqDiff, g_68_13, sf_68_13, fe_68_13, rc_68, g_68_4, sf_68_4, fe_68_4, hS, hf, show ((1 : Int32) = 0) = False from eq_false (by decide)]
theorem M_must (h : MP H xs n t R) (hj : j < 19) (hok : ∀ t', pWord xs n j t = .ok t' → ∀ H', FgM H H' → MP H' xs n t' R → Q none H') (her : ∀ c p, pWord xs n j t = .error (c, p) → ∀ H', FgM H H' → ML H' c p → Q none H') : Wp scr (d + 6) 201 0 [some (.ref 68), some (.retAddr j)] [] H Q := by
  have hS := h.shp
  have hj2 : j < 200 := by omega
  unfold pWord at hok her
  cases hw : isWt xs t j
  · rw [hw] at hok her
    simp (maxDischargeDepth := 12) only [w201_0, w201_1, w201_4, w201_7, w201_8, w201_9, w201_12, w201_15, w201_16, w201_17, w201_18, w201_21, w201_24, oK_some, cont_int, cont_intS, cont_none, cont_noneS, cont_long, cont_longS, true_and, and_true, false_and, and_false, true_implies, false_implies, not_true_eq_false, not_false_eq_true, eq_self, or_true, true_or, Option.isSome_some, hpf_length, hpa_length, bI_eq0, fi_hpa, fl_hpa, ar_hpf, fi_hpf_ne, fl_hpf_ne, ar_hpa_ne, hpa_hpa, hpf_hpf, nI_1, two_ne, fokZ, implies_true, Nat.reduceEqDiff, g_68_13, sf_68_13, fe_68_13, rc_68, g_68_4, sf_68_4, fe_68_4, w200_0, w200_1, w200_2, w200_5, w200_8, w200_9, w200_10, w200_11, w200_14, w200_15, oK_some, cont_int, cont_intS, cont_none, cont_noneS, cont_long, cont_longS, true_and, and_true, false_and, and_false, true_implies, false_implies, not_true_eq_false, not_false_eq_true, eq_self, or_true, true_or, Option.isSome_some, hpf_length, hpa_length, bI_eq0, fi_hpa, fl_hpa, ar_hpf, fi_hpf_ne, fl_hpf_ne, ar_hpa_ne, hpa_hpa, hpf_hpf, nI_1, two_ne, fokZ, implies_true, Nat.reduceEqDiff, rc_68, hS, h.2.2.2.1, hj, hj2, m_isW h hj, hw, h.1.2.2.2.1]
    exact M_wrong h (fun H' hF hL => by have hs := hF.shp; simp (maxDischargeDepth := 12) only [w201_0, w201_1, w201_4, w201_7, w201_8, w201_9, w201_12, w201_15, w201_16, w201_17, w201_18, w201_21, w201_24, oK_some, cont_int, cont_intS, cont_none, cont_noneS, cont_long, cont_longS, true_and, and_true, false_and, and_false, true_implies, false_implies, not_true_eq_false, not_false_eq_true, eq_self, or_true, true_or, Option.isSome_some, hpf_length, hpa_length, bI_eq0, fi_hpa, fl_hpa, ar_hpf, fi_hpf_ne, fl_hpf_ne, ar_hpa_ne, hpa_hpa, hpf_hpf, nI_1, two_ne, fokZ, implies_true, Nat.reduceEqDiff, g_68_13, sf_68_13, fe_68_13, rc_68, g_68_4, sf_68_4, fe_68_4, hF.len, hs]; exact her _ _ rfl H' hF hL)
  · rw [hw] at hok her
    simp (maxDischargeDepth := 12) only [w201_0, w201_1, w201_4, w201_7, w201_8, w201_9, w201_12, w201_15, w201_16, w201_17, w201_18, w201_21, w201_24, oK_some, cont_int, cont_intS, cont_none, cont_noneS, cont_long, cont_longS, true_and, and_true, false_and, and_false, true_implies, false_implies, not_true_eq_false, not_false_eq_true, eq_self, or_true, true_or, Option.isSome_some, hpf_length, hpa_length, bI_eq0, fi_hpa, fl_hpa, ar_hpf, fi_hpf_ne, fl_hpf_ne, ar_hpa_ne, hpa_hpa, hpf_hpf, nI_1, two_ne, fokZ, implies_true, Nat.reduceEqDiff, g_68_13, sf_68_13, fe_68_13, rc_68, g_68_4, sf_68_4, fe_68_4, w200_0, w200_1, w200_2, w200_5, w200_8, w200_9, w200_10, w200_11, w200_14, w200_15, oK_some, cont_int, cont_intS, cont_none, cont_noneS, cont_long, cont_longS, true_and, and_true, false_and, and_false, true_implies, false_implies, not_true_eq_false, not_false_eq_true, eq_self, or_true, true_or, Option.isSome_some, hpf_length, hpa_length, bI_eq0, fi_hpa, fl_hpa, ar_hpf, fi_hpf_ne, fl_hpf_ne, ar_hpa_ne, hpa_hpa, hpf_hpf, nI_1, two_ne, fokZ, implies_true, Nat.reduceEqDiff, rc_68, hS, h.2.2.2.1, hj, hj2, m_isW h hj, hw, Bool.true_eq_false]
    refine M_nx h (fun H' hF hP => ?_)
    have hs := hF.shp
    simp (maxDischargeDepth := 12) only [w201_0, w201_1, w201_4, w201_7, w201_8, w201_9, w201_12, w201_15, w201_16, w201_17, w201_18, w201_21, w201_24, oK_some, cont_int, cont_intS, cont_none, cont_noneS, cont_long, cont_longS, true_and, and_true, false_and, and_false, true_implies, false_implies, not_true_eq_false, not_false_eq_true, eq_self, or_true, true_or, Option.isSome_some, hpf_length, hpa_length, bI_eq0, fi_hpa, fl_hpa, ar_hpf, fi_hpf_ne, fl_hpf_ne, ar_hpa_ne, hpa_hpa, hpf_hpf, nI_1, two_ne, fokZ, implies_true, Nat.reduceEqDiff, g_68_13, sf_68_13, fe_68_13, rc_68, g_68_4, sf_68_4, fe_68_4, w200_0, w200_1, w200_2, w200_5, w200_8, w200_9, w200_10, w200_11, w200_14, w200_15, oK_some, cont_int, cont_intS, cont_none, cont_noneS, cont_long, cont_longS, true_and, and_true, false_and, and_false, true_implies, false_implies, not_true_eq_false, not_false_eq_true, eq_self, or_true, true_or, Option.isSome_some, hpf_length, hpa_length, bI_eq0, fi_hpa, fl_hpa, ar_hpf, fi_hpf_ne, fl_hpf_ne, ar_hpa_ne, hpa_hpa, hpf_hpf, nI_1, two_ne, fokZ, implies_true, Nat.reduceEqDiff, rc_68, hF.len, hs, show ((1 : Int32) = 0) = False from eq_false (by decide)]
    exact hok _ rfl H' hF hP
theorem m_numHF {lo hi : Int32} (hS : Shp H) (hf : fi H 68 13 = 1) : Wp scr (d + 1) 207 0 [some (.ref 68), some (.int lo), some (.int hi)] [] H Q ↔ Q (some (.int lo)) H := by
  refine Wp_iff ?_
  simp (maxDischargeDepth := 12) only [w207_0, w207_1, w207_4, w207_7, w207_8, w207_9, w207_10, w207_13, w207_14, w207_17, w207_18, w207_19, w207_20, w207_23, w207_26, w207_29, w207_30, w207_33, w207_34, w207_35, w207_38, w207_41, w207_42, w207_43, w207_44, w207_47, w207_50, w207_51, w207_54, w207_57, w207_58, w207_61, w207_62, w207_65, oK_some, cont_int, cont_intS, cont_none, cont_noneS, cont_long, cont_longS, true_and, and_true, false_and, and_false, true_implies, false_implies, not_true_eq_false, not_false_eq_true, eq_self, or_true, true_or, Option.isSome_some, hpf_length, hpa_length, bI_eq0, fi_hpa, fl_hpa, ar_hpf, fi_hpf_ne, fl_hpf_ne, ar_hpa_ne, hpa_hpa, hpf_hpf, nI_1, two_ne, fokZ, implies_true, Nat.reduceEqDiff, g_68_13, sf_68_13, fe_68_13, g_68_6, sf_68_6, fe_68_6, g_68_4, sf_68_4, fe_68_4, rc_68, g_68_7, sf_68_7, fe_68_7, hS, hf, show ((1 : Int32) = 0) = False from eq_false (by decide)]
theorem mtk3 {s : Nat} (h : s < 5) : (mtk s = 3) = (s = 2) := by
  have : ∀ s, s < 5 → ((mtk s = 3) ↔ (s = 2)) := by decide
  exact propext (this s h)
theorem mtk2 {s : Nat} (h : s < 5) : (mtk s = 2) = (s = 1) := by
  have : ∀ s, s < 5 → ((mtk s = 2) ↔ (s = 1)) := by decide
  exact propext (this s h)
theorem MP.s5 (h : MP H xs n t R) : t.2.2 < 5 := by
  have := congrArg Prod.fst h.1.2.2.2.2.2.2.2.2.1
  change t.2.2 = _ at this
  rw [this]
  exact tkT_lt
theorem M_numH {lo hi : Int32} (h : MP H xs n t R) (hok : ∀ w, pNumH xs lo hi t = .ok w → Q (some (.int w)) H) (her : ∀ c p, pNumH xs lo hi t = .error (c, p) → ∀ H', FgM H H' → ML H' c p → Q (some (.int lo)) H') : Wp scr (d + 1) 207 0 [some (.ref 68), some (.int lo), some (.int hi)] [] H Q := by
  have hS := h.shp
  have f13 := h.2.2.2.1
  have f6 : (fi H 68 6 = 3) = (t.2.2 = 2) := by rw [h.1.2.2.2.2.2.1]; exact mtk3 h.s5
  have f4 := h.1.2.2.2.1
  unfold pNumH at hok her
  by_cases h2 : t.2.2 = 2
  · rw [if_pos h2] at hok her
    have f7 : fi H 68 7 = whT xs t := by rw [h.1.2.2.2.2.2.2.2.2.2.2 h2, h.2.1]; rfl
    by_cases hb : lo ≤ whT xs t ∧ whT xs t ≤ hi
    · rw [if_pos hb] at hok
      simp (maxDischargeDepth := 12) only [w207_0, w207_1, w207_4, w207_7, w207_8, w207_9, w207_10, w207_13, w207_14, w207_17, w207_18, w207_19, w207_20, w207_23, w207_26, w207_29, w207_30, w207_33, w207_34, w207_35, w207_38, w207_41, w207_42, w207_43, w207_44, w207_47, w207_50, w207_51, w207_54, w207_57, w207_58, w207_61, w207_62, w207_65, oK_some, cont_int, cont_intS, cont_none, cont_noneS, cont_long, cont_longS, true_and, and_true, false_and, and_false, true_implies, false_implies, not_true_eq_false, not_false_eq_true, eq_self, or_true, true_or, Option.isSome_some, hpf_length, hpa_length, bI_eq0, fi_hpa, fl_hpa, ar_hpf, fi_hpf_ne, fl_hpf_ne, ar_hpa_ne, hpa_hpa, hpf_hpf, nI_1, two_ne, fokZ, implies_true, Nat.reduceEqDiff, g_68_13, sf_68_13, fe_68_13, g_68_6, sf_68_6, fe_68_6, g_68_4, sf_68_4, fe_68_4, rc_68, g_68_7, sf_68_7, fe_68_7, hS, f13, f6, h2, f7, m_in, decide_eq_true hb, Bool.true_eq_false]
      exact hok _ rfl
    · rw [if_neg hb] at her
      simp (maxDischargeDepth := 12) only [w207_0, w207_1, w207_4, w207_7, w207_8, w207_9, w207_10, w207_13, w207_14, w207_17, w207_18, w207_19, w207_20, w207_23, w207_26, w207_29, w207_30, w207_33, w207_34, w207_35, w207_38, w207_41, w207_42, w207_43, w207_44, w207_47, w207_50, w207_51, w207_54, w207_57, w207_58, w207_61, w207_62, w207_65, oK_some, cont_int, cont_intS, cont_none, cont_noneS, cont_long, cont_longS, true_and, and_true, false_and, and_false, true_implies, false_implies, not_true_eq_false, not_false_eq_true, eq_self, or_true, true_or, Option.isSome_some, hpf_length, hpa_length, bI_eq0, fi_hpa, fl_hpa, ar_hpf, fi_hpf_ne, fl_hpf_ne, ar_hpa_ne, hpa_hpa, hpf_hpf, nI_1, two_ne, fokZ, implies_true, Nat.reduceEqDiff, g_68_13, sf_68_13, fe_68_13, g_68_6, sf_68_6, fe_68_6, g_68_4, sf_68_4, fe_68_4, rc_68, g_68_7, sf_68_7, fe_68_7, hS, f13, f6, h2, f7, m_in, decide_eq_false hb, f4]
      refine M_wrong h (fun H' hF hL => ?_)
      have hs := hF.shp
      simp (maxDischargeDepth := 12) only [w207_0, w207_1, w207_4, w207_7, w207_8, w207_9, w207_10, w207_13, w207_14, w207_17, w207_18, w207_19, w207_20, w207_23, w207_26, w207_29, w207_30, w207_33, w207_34, w207_35, w207_38, w207_41, w207_42, w207_43, w207_44, w207_47, w207_50, w207_51, w207_54, w207_57, w207_58, w207_61, w207_62, w207_65, oK_some, cont_int, cont_intS, cont_none, cont_noneS, cont_long, cont_longS, true_and, and_true, false_and, and_false, true_implies, false_implies, not_true_eq_false, not_false_eq_true, eq_self, or_true, true_or, Option.isSome_some, hpf_length, hpa_length, bI_eq0, fi_hpa, fl_hpa, ar_hpf, fi_hpf_ne, fl_hpf_ne, ar_hpa_ne, hpa_hpa, hpf_hpf, nI_1, two_ne, fokZ, implies_true, Nat.reduceEqDiff, g_68_13, sf_68_13, fe_68_13, g_68_6, sf_68_6, fe_68_6, g_68_4, sf_68_4, fe_68_4, rc_68, g_68_7, sf_68_7, fe_68_7, hF.len, hs, hL.2.1, show ((1 : Int32) = 0) = False from eq_false (by decide)]
      exact her _ _ rfl H' hF hL
  · rw [if_neg h2] at her
    simp (maxDischargeDepth := 12) only [w207_0, w207_1, w207_4, w207_7, w207_8, w207_9, w207_10, w207_13, w207_14, w207_17, w207_18, w207_19, w207_20, w207_23, w207_26, w207_29, w207_30, w207_33, w207_34, w207_35, w207_38, w207_41, w207_42, w207_43, w207_44, w207_47, w207_50, w207_51, w207_54, w207_57, w207_58, w207_61, w207_62, w207_65, oK_some, cont_int, cont_intS, cont_none, cont_noneS, cont_long, cont_longS, true_and, and_true, false_and, and_false, true_implies, false_implies, not_true_eq_false, not_false_eq_true, eq_self, or_true, true_or, Option.isSome_some, hpf_length, hpa_length, bI_eq0, fi_hpa, fl_hpa, ar_hpf, fi_hpf_ne, fl_hpf_ne, ar_hpa_ne, hpa_hpa, hpf_hpf, nI_1, two_ne, fokZ, implies_true, Nat.reduceEqDiff, g_68_13, sf_68_13, fe_68_13, g_68_6, sf_68_6, fe_68_6, g_68_4, sf_68_4, fe_68_4, rc_68, g_68_7, sf_68_7, fe_68_7, hS, f13, f6, h2, f4]
    refine M_wrong h (fun H' hF hL => ?_)
    have hs := hF.shp
    simp (maxDischargeDepth := 12) only [w207_0, w207_1, w207_4, w207_7, w207_8, w207_9, w207_10, w207_13, w207_14, w207_17, w207_18, w207_19, w207_20, w207_23, w207_26, w207_29, w207_30, w207_33, w207_34, w207_35, w207_38, w207_41, w207_42, w207_43, w207_44, w207_47, w207_50, w207_51, w207_54, w207_57, w207_58, w207_61, w207_62, w207_65, oK_some, cont_int, cont_intS, cont_none, cont_noneS, cont_long, cont_longS, true_and, and_true, false_and, and_false, true_implies, false_implies, not_true_eq_false, not_false_eq_true, eq_self, or_true, true_or, Option.isSome_some, hpf_length, hpa_length, bI_eq0, fi_hpa, fl_hpa, ar_hpf, fi_hpf_ne, fl_hpf_ne, ar_hpa_ne, hpa_hpa, hpf_hpf, nI_1, two_ne, fokZ, implies_true, Nat.reduceEqDiff, g_68_13, sf_68_13, fe_68_13, g_68_6, sf_68_6, fe_68_6, g_68_4, sf_68_4, fe_68_4, rc_68, g_68_7, sf_68_7, fe_68_7, hF.len, hs, hL.2.1, show ((1 : Int32) = 0) = False from eq_false (by decide)]
    exact her _ _ rfl H' hF hL
theorem m_numF {lo hi : Int32} (hS : Shp H) (hf : fi H 68 13 = 1) : Wp scr (d + 2) 208 0 [some (.ref 68), some (.int lo), some (.int hi), none] [] H Q ↔ Q (some (.int lo)) H := by
  refine Wp_iff ?_
  simp (maxDischargeDepth := 12) only [w208_0, w208_1, w208_2, w208_3, w208_6, w208_7, w208_8, w208_11, w208_14, w208_15, w208_18, w208_19, oK_some, cont_int, cont_intS, cont_none, cont_noneS, cont_long, cont_longS, true_and, and_true, false_and, and_false, true_implies, false_implies, not_true_eq_false, not_false_eq_true, eq_self, or_true, true_or, Option.isSome_some, hpf_length, hpa_length, bI_eq0, fi_hpa, fl_hpa, ar_hpf, fi_hpf_ne, fl_hpf_ne, ar_hpa_ne, hpa_hpa, hpf_hpf, nI_1, two_ne, fokZ, implies_true, Nat.reduceEqDiff, rc_68, g_68_13, sf_68_13, fe_68_13, hS, m_numHF hS hf, hf, show ((1 : Int32) = 0) = False from eq_false (by decide)]
theorem M_num {lo hi : Int32} (h : MP H xs n t R) (hok : ∀ w t', pNum xs n lo hi t = .ok (w, t') → ∀ H', FgM H H' → MP H' xs n t' R → Q (some (.int w)) H') (her : ∀ c p, pNum xs n lo hi t = .error (c, p) → ∀ H', FgM H H' → ML H' c p → Q (some (.int lo)) H') : Wp scr (d + 2) 208 0 [some (.ref 68), some (.int lo), some (.int hi), none] [] H Q := by
  have hS := h.shp
  unfold pNum at hok her
  simp (maxDischargeDepth := 12) only [w208_0, w208_1, w208_2, w208_3, w208_6, w208_7, w208_8, w208_11, w208_14, w208_15, w208_18, w208_19, oK_some, cont_int, cont_intS, cont_none, cont_noneS, cont_long, cont_longS, true_and, and_true, false_and, and_false, true_implies, false_implies, not_true_eq_false, not_false_eq_true, eq_self, or_true, true_or, Option.isSome_some, hpf_length, hpa_length, bI_eq0, fi_hpa, fl_hpa, ar_hpf, fi_hpf_ne, fl_hpf_ne, ar_hpa_ne, hpa_hpa, hpf_hpf, nI_1, two_ne, fokZ, implies_true, Nat.reduceEqDiff, rc_68, g_68_13, sf_68_13, fe_68_13, hS]
  refine M_numH h (fun w hw => ?_) (fun c p hw H' hF hL => ?_)
  · rw [hw] at hok
    simp (maxDischargeDepth := 12) only [w208_0, w208_1, w208_2, w208_3, w208_6, w208_7, w208_8, w208_11, w208_14, w208_15, w208_18, w208_19, oK_some, cont_int, cont_intS, cont_none, cont_noneS, cont_long, cont_longS, true_and, and_true, false_and, and_false, true_implies, false_implies, not_true_eq_false, not_false_eq_true, eq_self, or_true, true_or, Option.isSome_some, hpf_length, hpa_length, bI_eq0, fi_hpa, fl_hpa, ar_hpf, fi_hpf_ne, fl_hpf_ne, ar_hpa_ne, hpa_hpa, hpf_hpf, nI_1, two_ne, fokZ, implies_true, Nat.reduceEqDiff, rc_68, g_68_13, sf_68_13, fe_68_13, hS, h.2.2.2.1]
    refine M_nx h (fun H' hF hP => ?_)
    have hs := hF.shp
    simp (maxDischargeDepth := 12) only [w208_0, w208_1, w208_2, w208_3, w208_6, w208_7, w208_8, w208_11, w208_14, w208_15, w208_18, w208_19, oK_some, cont_int, cont_intS, cont_none, cont_noneS, cont_long, cont_longS, true_and, and_true, false_and, and_false, true_implies, false_implies, not_true_eq_false, not_false_eq_true, eq_self, or_true, true_or, Option.isSome_some, hpf_length, hpa_length, bI_eq0, fi_hpa, fl_hpa, ar_hpf, fi_hpf_ne, fl_hpf_ne, ar_hpa_ne, hpa_hpa, hpf_hpf, nI_1, two_ne, fokZ, implies_true, Nat.reduceEqDiff, rc_68, g_68_13, sf_68_13, fe_68_13, hF.len, hs]
    exact hok _ _ rfl H' hF hP
  · rw [hw] at her
    have hs := hF.shp
    simp (maxDischargeDepth := 12) only [w208_0, w208_1, w208_2, w208_3, w208_6, w208_7, w208_8, w208_11, w208_14, w208_15, w208_18, w208_19, oK_some, cont_int, cont_intS, cont_none, cont_noneS, cont_long, cont_longS, true_and, and_true, false_and, and_false, true_implies, false_implies, not_true_eq_false, not_false_eq_true, eq_self, or_true, true_or, Option.isSome_some, hpf_length, hpa_length, bI_eq0, fi_hpa, fl_hpa, ar_hpf, fi_hpf_ne, fl_hpf_ne, ar_hpa_ne, hpa_hpa, hpf_hpf, nI_1, two_ne, fokZ, implies_true, Nat.reduceEqDiff, rc_68, g_68_13, sf_68_13, fe_68_13, hF.len, hs, hL.2.1, show ((1 : Int32) = 0) = False from eq_false (by decide)]
    exact her _ _ rfl H' hF hL
theorem m_afterF {lo hi : Int32} (hj : j < 19) (hS : Shp H) (hf : fi H 68 13 = 1) : Wp scr (d + 7) 209 0 [some (.ref 68), some (.retAddr j), some (.int lo), some (.int hi)] [] H Q ↔ Q (some (.int lo)) H := by
  refine Wp_iff ?_
  have hj2 : j < 200 := by omega
  simp (maxDischargeDepth := 12) only [w209_0, w209_1, w209_2, w209_5, w209_6, w209_7, w209_8, w209_11, oK_some, cont_int, cont_intS, cont_none, cont_noneS, cont_long, cont_longS, true_and, and_true, false_and, and_false, true_implies, false_implies, not_true_eq_false, not_false_eq_true, eq_self, or_true, true_or, Option.isSome_some, hpf_length, hpa_length, bI_eq0, fi_hpa, fl_hpa, ar_hpf, fi_hpf_ne, fl_hpf_ne, ar_hpa_ne, hpa_hpa, hpf_hpf, nI_1, two_ne, fokZ, implies_true, Nat.reduceEqDiff, rc_68, hS, m_mustF hS hf, m_numF (d := d + 4) hS hf, hj2]
theorem M_after {lo hi : Int32} (h : MP H xs n t R) (hj : j < 19) (hok : ∀ w t', pAfter xs n j lo hi t = .ok (w, t') → ∀ H', FgM H H' → MP H' xs n t' R → Q (some (.int w)) H') (her : ∀ c p, pAfter xs n j lo hi t = .error (c, p) → ∀ H', FgM H H' → ML H' c p → Q (some (.int lo)) H') : Wp scr (d + 7) 209 0 [some (.ref 68), some (.retAddr j), some (.int lo), some (.int hi)] [] H Q := by
  have hS := h.shp
  have hj2 : j < 200 := by omega
  unfold pAfter at hok her
  simp (maxDischargeDepth := 12) only [w209_0, w209_1, w209_2, w209_5, w209_6, w209_7, w209_8, w209_11, oK_some, cont_int, cont_intS, cont_none, cont_noneS, cont_long, cont_longS, true_and, and_true, false_and, and_false, true_implies, false_implies, not_true_eq_false, not_false_eq_true, eq_self, or_true, true_or, Option.isSome_some, hpf_length, hpa_length, bI_eq0, fi_hpa, fl_hpa, ar_hpf, fi_hpf_ne, fl_hpf_ne, ar_hpa_ne, hpa_hpa, hpf_hpf, nI_1, two_ne, fokZ, implies_true, Nat.reduceEqDiff, rc_68, hS, hj2]
  refine M_must h hj (fun t1 e1 H1 hF1 hP1 => ?_) (fun c p e1 H1 hF1 hL1 => ?_)
  · rw [e1] at hok her
    have hs := hF1.shp
    simp (maxDischargeDepth := 12) only [w209_0, w209_1, w209_2, w209_5, w209_6, w209_7, w209_8, w209_11, oK_some, cont_int, cont_intS, cont_none, cont_noneS, cont_long, cont_longS, true_and, and_true, false_and, and_false, true_implies, false_implies, not_true_eq_false, not_false_eq_true, eq_self, or_true, true_or, Option.isSome_some, hpf_length, hpa_length, bI_eq0, fi_hpa, fl_hpa, ar_hpf, fi_hpf_ne, fl_hpf_ne, ar_hpa_ne, hpa_hpa, hpf_hpf, nI_1, two_ne, fokZ, implies_true, Nat.reduceEqDiff, rc_68, hF1.len, hs]
    refine M_num (d := d + 4) hP1 (fun w t2 e2 H2 hF2 hP2 => ?_) (fun c p e2 H2 hF2 hL2 => ?_)
    · have hs2 := hF2.shp
      simp (maxDischargeDepth := 12) only [w209_0, w209_1, w209_2, w209_5, w209_6, w209_7, w209_8, w209_11, oK_some, cont_int, cont_intS, cont_none, cont_noneS, cont_long, cont_longS, true_and, and_true, false_and, and_false, true_implies, false_implies, not_true_eq_false, not_false_eq_true, eq_self, or_true, true_or, Option.isSome_some, hpf_length, hpa_length, bI_eq0, fi_hpa, fl_hpa, ar_hpf, fi_hpf_ne, fl_hpf_ne, ar_hpa_ne, hpa_hpa, hpf_hpf, nI_1, two_ne, fokZ, implies_true, Nat.reduceEqDiff, rc_68, hF2.len, hs2]
      exact hok _ _ e2 H2 (hF1.trans hF2) hP2
    · have hs2 := hF2.shp
      simp (maxDischargeDepth := 12) only [w209_0, w209_1, w209_2, w209_5, w209_6, w209_7, w209_8, w209_11, oK_some, cont_int, cont_intS, cont_none, cont_noneS, cont_long, cont_longS, true_and, and_true, false_and, and_false, true_implies, false_implies, not_true_eq_false, not_false_eq_true, eq_self, or_true, true_or, Option.isSome_some, hpf_length, hpa_length, bI_eq0, fi_hpa, fl_hpa, ar_hpf, fi_hpf_ne, fl_hpf_ne, ar_hpa_ne, hpa_hpa, hpf_hpf, nI_1, two_ne, fokZ, implies_true, Nat.reduceEqDiff, rc_68, hF2.len, hs2]
      exact her _ _ e2 H2 (hF1.trans hF2) hL2
  · rw [e1] at her
    have hs := hF1.shp
    simp (maxDischargeDepth := 12) only [w209_0, w209_1, w209_2, w209_5, w209_6, w209_7, w209_8, w209_11, oK_some, cont_int, cont_intS, cont_none, cont_noneS, cont_long, cont_longS, true_and, and_true, false_and, and_false, true_implies, false_implies, not_true_eq_false, not_false_eq_true, eq_self, or_true, true_or, Option.isSome_some, hpf_length, hpa_length, bI_eq0, fi_hpa, fl_hpa, ar_hpf, fi_hpf_ne, fl_hpf_ne, ar_hpa_ne, hpa_hpa, hpf_hpf, nI_1, two_ne, fokZ, implies_true, Nat.reduceEqDiff, rc_68, hF1.len, hs, m_numF (d := d + 4) hs hL1.2.1]
    exact her _ _ rfl H1 hF1 hL1
end MREAD
