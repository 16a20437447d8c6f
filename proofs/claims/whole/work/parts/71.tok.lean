/-! ===== the tape: letters, digits, runs, tokens ===== -/
def isL (c : Int32) : Bool := decide (97 ≤ c ∧ c ≤ 122)
def isD (c : Int32) : Bool := decide (48 ≤ c ∧ c ≤ 57)
/-- over a run -/
def skN (g : Nat → Bool) : Nat → Nat → Nat
  | 0, p => p
  | k + 1, p => if g p then skN g k (p + 1) else p
def sk (g : Nat → Bool) (n p : Nat) : Nat := skN g (n - p) p
theorem sk_step {g : Nat → Bool} {n p : Nat} (hp : p < n) (hg : g p = true) : sk g n p = sk g n (p + 1) := by
  unfold sk
  rw [show n - p = (n - (p + 1)) + 1 by omega]
  simp only [skN, hg, if_true]
theorem sk_stop {g : Nat → Bool} {n p : Nat} (h : ¬ (p < n ∧ g p = true)) : sk g n p = p := by
  unfold sk
  by_cases hp : p < n
  · rw [show n - p = (n - (p + 1)) + 1 by omega]
    have hg : g p = false := by cases e : g p; rfl; exact absurd ⟨hp, e⟩ h
    simp only [skN, hg]; simp
  · rw [show n - p = 0 by omega]; rfl
theorem skN_end {g : Nat → Bool} : ∀ k p, p ≤ skN g k p ∧ skN g k p ≤ p + k ∧ (∀ q, p ≤ q → q < skN g k p → g q = true) ∧ (skN g k p < p + k → g (skN g k p) = false)
  | 0, p => ⟨Nat.le_refl _, Nat.le_refl _, fun q h1 h2 => absurd h2 (by simp only [skN]; omega), fun h => absurd h (by simp only [skN]; omega)⟩
  | k + 1, p => by
    cases e : g p
    · simp only [skN, e]
      refine ⟨by simp, by simp, fun q h1 h2 => ?_, fun _ => by simpa using e⟩
      simp at h2; omega
    · simp only [skN, e, if_true]
      obtain ⟨h1, h2, h3, h4⟩ := skN_end (g := g) k (p + 1)
      refine ⟨by omega, by omega, fun q q1 q2 => ?_, fun q => h4 (by omega)⟩
      by_cases hq : q = p
      · rw [hq, e]
      · exact h3 q (by omega) q2
theorem sk_le {g : Nat → Bool} {n p : Nat} : p ≤ sk g n p := (skN_end _ _).1
theorem sk_ub {g : Nat → Bool} {n p : Nat} (hp : p ≤ n) : sk g n p ≤ n := by
  have := (skN_end (g := g) (n - p) p).2.1
  unfold sk; omega
theorem sk_in {g : Nat → Bool} {n p q : Nat} (h1 : p ≤ q) (h2 : q < sk g n p) : g q = true := (skN_end _ _).2.2.1 q h1 h2
theorem sk_ex {g : Nat → Bool} {n p : Nat} (h : sk g n p < n) : g (sk g n p) = false := by
  refine (skN_end _ _).2.2.2 ?_
  have := sk_le (g := g) (n := n) (p := p)
  unfold sk at h this; omega
/-- a loop over a run -/
theorem sk_ind {g : Nat → Bool} {n : Nat} {P : Nat → Prop} (step : ∀ p, p < n → g p = true → P (p + 1) → P p) : ∀ p, P (sk g n p) → P p := by
  have key : ∀ k p, n - p ≤ k → P (sk g n p) → P p := by
    intro k
    induction k with
    | zero => intro p hk h; rwa [sk_stop (by omega)] at h
    | succ k ih =>
      intro p hk h
      by_cases c : p < n ∧ g p = true
      · rw [sk_step c.1 c.2] at h
        exact step p c.1 c.2 (ih (p + 1) (by omega) h)
      · rwa [sk_stop c] at h
  exact fun p => key (n - p) p (Nat.le_refl _)
theorem sk_no {g : Nat → Bool} {n p : Nat} : ¬ (sk g n p < n ∧ g (sk g n p) = true) := fun h => by rw [sk_ex h.1] at h; exact absurd h.2 (by decide)
/-- the runs on a tape -/
def tkP (xs : List Int32) (n p : Nat) : Nat := sk (fun q => decide (xs.getD q 0 = 32)) n p
def tkL (xs : List Int32) (n p : Nat) : Nat := sk (fun q => isL (xs.getD q 0)) n p
def tkD (xs : List Int32) (n p : Nat) : Nat := sk (fun q => isD (xs.getD q 0)) n p
/-- a token's sort and end, from its place -/
def tkT (xs : List Int32) (n a : Nat) : Nat × Nat :=
  if n ≤ a then (0, a) else if isL (xs.getD a 0) then (if tkL xs n a - a ≤ 8 then 1 else 4, tkL xs n a) else if isD (xs.getD a 0) then (if tkD xs n a - a ≤ 3 then 2 else 4, tkD xs n a) else (if xs.getD a 0 = 59 then 3 else 4, a + 1)
def whF (xs : List Int32) (a k : Nat) (w : Int32) : Int32 := w * 10 + xs.getD (a + k) 0 - 48
/-- a whole number on the tape -/
def whV (xs : List Int32) (a m : Nat) : Int32 := forN (whF xs a) m 0
section TOK
variable {scr : List Int32} {d n p : Nat} {c : Int32} {H : List AC} {Q : Option Value → List AC → Prop}
theorem m_isSmall : Wp scr d 195 0 [some (.int c)] [] H Q ↔ Q (some (.int (bI (isL c)))) H := by
  refine Wp_iff ?_
  simp only [w195_0, w195_1, w195_3, w195_6, w195_7, w195_9, w195_12, w195_13, w195_16, w195_17, eq_self, or_true, true_or]
  have e1 : 97 ≤ c ↔ ¬ c < 97 := by rw [Int32.not_lt]
  have e2 : c ≤ 122 ↔ ¬ 122 < c := by rw [Int32.not_lt]
  unfold isL
  by_cases c1 : c < 97
  · simp [c1, e1, bI]
  · by_cases c2 : 122 < c
    · simp [c1, c2, e1, e2, bI]
    · simp [c1, c2, e1, e2, bI]
theorem m_isDigit : Wp scr d 196 0 [some (.int c)] [] H Q ↔ Q (some (.int (bI (isD c)))) H := by
  refine Wp_iff ?_
  simp only [w196_0, w196_1, w196_3, w196_6, w196_7, w196_9, w196_12, w196_13, w196_16, w196_17, eq_self, or_true, true_or]
  have e1 : 48 ≤ c ↔ ¬ c < 48 := by rw [Int32.not_lt]
  have e2 : c ≤ 57 ↔ ¬ 57 < c := by rw [Int32.not_lt]
  unfold isD
  by_cases c1 : c < 48
  · simp [c1, e1, bI]
  · by_cases c2 : 57 < c
    · simp [c1, c2, e1, e2, bI]
    · simp [c1, c2, e1, e2, bI]
theorem c_isLetter : Wp scr d 33 0 [some (.int c)] [] H Q ↔ Q (some (.int (bI (isL c)))) H := by
  refine Wp_iff ?_
  simp only [w33_0, w33_1, w33_3, w33_6, w33_7, w33_9, w33_12, w33_13, w33_16, w33_17, eq_self, or_true, true_or]
  have e1 : 97 ≤ c ↔ ¬ c < 97 := by rw [Int32.not_lt]
  have e2 : c ≤ 122 ↔ ¬ 122 < c := by rw [Int32.not_lt]
  unfold isL
  by_cases c1 : c < 97
  · simp [c1, e1, bI]
  · by_cases c2 : 122 < c
    · simp [c1, c2, e1, e2, bI]
    · simp [c1, c2, e1, e2, bI]
theorem c_isDigit : Wp scr d 34 0 [some (.int c)] [] H Q ↔ Q (some (.int (bI (isD c)))) H := by
  refine Wp_iff ?_
  simp only [w34_0, w34_1, w34_3, w34_6, w34_7, w34_9, w34_12, w34_13, w34_16, w34_17, eq_self, or_true, true_or]
  have e1 : 48 ≤ c ↔ ¬ c < 48 := by rw [Int32.not_lt]
  have e2 : c ≤ 57 ↔ ¬ 57 < c := by rw [Int32.not_lt]
  unfold isD
  by_cases c1 : c < 48
  · simp [c1, e1, bI]
  · by_cases c2 : 57 < c
    · simp [c1, c2, e1, e2, bI]
    · simp [c1, c2, e1, e2, bI]
/-- what the reference sees at a place -/
def seI (xs : List Int32) (n p : Nat) : Int32 := if p < n then xs.getD p 0 else -1
theorem m_see (hS : Shp H) (hn : fi H 68 3 = nI n) (h9 : n ≤ 900) (hp : p < 2147483648) : Wp scr d 194 0 [some (.ref 68), some (.int (nI p))] [] H Q ↔ Q (some (.int (seI (ar H 69) n p))) H := by
  refine Wp_iff ?_
  unfold seI
  by_cases h : p < n
  · simp (maxDischargeDepth := 12) only [w194_0, w194_1, w194_2, w194_5, w194_8, w194_9, w194_12, w194_13, w194_14, w194_17, w194_18, oK_some, cont_int, cont_intS, cont_none, cont_noneS, cont_long, cont_longS, true_and, and_true, false_and, and_false, true_implies, false_implies, not_true_eq_false, not_false_eq_true, eq_self, or_true, true_or, Option.isSome_some, hpf_length, hpa_length, bI_eq0, fi_hpa, fl_hpa, ar_hpf, fi_hpf_ne, fl_hpf_ne, ar_hpa_ne, hpa_hpa, hpf_hpf, nI_1, two_ne, fokZ, implies_true, Nat.reduceEqDiff, g_68_3, sf_68_3, fe_68_3, g_68_1, ga_69, gn_69, sa_69, ae_69, kl_0, kl_1, kl_2, kl_3, kl_4, kl_5, kl_6, kl_7, kl_8, kl_9, kl_10, kl_11, kl_12, hS, hn, nI_lef h (by omega : n < 2147483648), if_pos h, gn_69, inb_nI (i := p) (by omega), decide_eq_true (by omega : p < 900), nI_clamp (n := p) (by omega)]
  · simp (maxDischargeDepth := 12) only [w194_0, w194_1, w194_2, w194_5, w194_8, w194_9, w194_12, w194_13, w194_14, w194_17, w194_18, oK_some, cont_int, cont_intS, cont_none, cont_noneS, cont_long, cont_longS, true_and, and_true, false_and, and_false, true_implies, false_implies, not_true_eq_false, not_false_eq_true, eq_self, or_true, true_or, Option.isSome_some, hpf_length, hpa_length, bI_eq0, fi_hpa, fl_hpa, ar_hpf, fi_hpf_ne, fl_hpf_ne, ar_hpa_ne, hpa_hpa, hpf_hpf, nI_1, two_ne, fokZ, implies_true, Nat.reduceEqDiff, g_68_3, sf_68_3, fe_68_3, g_68_1, ga_69, gn_69, sa_69, ae_69, kl_0, kl_1, kl_2, kl_3, kl_4, kl_5, kl_6, kl_7, kl_8, kl_9, kl_10, kl_11, kl_12, hS, hn, if_neg h, show (nI n ≤ nI p) = True from eq_true ((nI_leI (by omega) hp).mpr (by omega))]
theorem seI_lt {xs : List Int32} (h : p < n) : seI xs n p = xs.getD p 0 := if_pos h
theorem seI_ge {xs : List Int32} (h : ¬ p < n) : seI xs n p = -1 := if_neg h
theorem isL_m1 : isL (-1) = false := by decide
theorem isD_m1 : isD (-1) = false := by decide
/-- the sort, as the reference writes it -/
def mtk (s : Nat) : Int32 := if s = 0 then 0 else if s = 1 then 2 else if s = 2 then 3 else if s = 3 then 59 else 1
/-- the reference stands at a token -/
def MT (H : List AC) (n a e s : Nat) : Prop := Shp H ∧ fi H 68 3 = nI n ∧ n ≤ 900 ∧ fi H 68 4 = nI a ∧ fi H 68 5 = nI e ∧ fi H 68 6 = mtk s ∧ a ≤ n ∧ e ≤ n ∧ (s, e) = tkT (ar H 69) n a ∧ (s = 1 → fi H 68 8 = nI (e - a) ∧ ∀ k, k < e - a → (ar H 70).getD k 0 = (ar H 69).getD (a + k) 0) ∧ (s = 2 → fi H 68 7 = whV (ar H 69) a (e - a))
theorem tkT_end {xs : List Int32} {a : Nat} (h : a ≤ n) : (tkT xs n a).2 ≤ n := by
  unfold tkT
  by_cases h1 : n ≤ a
  · rw [if_pos h1]; exact h
  · rw [if_neg h1]
    by_cases h2 : isL (xs.getD a 0) = true
    · rw [if_pos h2]; exact sk_ub h
    · rw [if_neg h2]
      by_cases h3 : isD (xs.getD a 0) = true
      · rw [if_pos h3]; exact sk_ub h
      · rw [if_neg h3]; show a + 1 ≤ n; omega
theorem MT_mk {X Y : List AC} {a e s : Nat} (hF : Fg [70] [(68, 4), (68, 5), (68, 6), (68, 7), (68, 8)] H X) (hn : fi H 68 3 = nI n) (h9 : n ≤ 900) (ha : a ≤ n) (f4 : fi X 68 4 = nI a) (et : tkT (ar H 69) n a = (s, e)) (h1 : s = 1 → fi X 68 8 = nI (e - a) ∧ ∀ k, k < e - a → (ar X 70).getD k 0 = (ar H 69).getD (a + k) 0) (h2 : s = 2 → fi X 68 7 = whV (ar H 69) a (e - a)) (hY : Fg [] [(68, 5), (68, 6)] X Y) (g5 : fi Y 68 5 = nI e) (g6 : fi Y 68 6 = mtk s) : Fg [70] [(68, 4), (68, 5), (68, 6), (68, 7), (68, 8)] H Y ∧ MT Y n a (tkT (ar H 69) n a).2 (tkT (ar H 69) n a).1 := by
  have hFY := hF.trans (hY.mono (by decide) (by decide))
  have e69 : ar Y 69 = ar H 69 := hFY.arr (by decide)
  refine ⟨hFY, hY.shp, (hFY.int (by decide) (by decide)).trans hn, h9, (hY.int (by decide) (by decide)).trans f4, ?_, ?_, ha, tkT_end ha, ?_, ?_, ?_⟩
  · rw [et]; exact g5
  · rw [et]; exact g6
  · rw [e69]
  · rw [et, e69]; intro q
    rw [hY.int (by decide) (by decide), hY.arr (by decide)]
    exact h1 q
  · rw [et, e69]; intro q
    rw [hY.int (by decide) (by decide)]
    exact h2 q
theorem M_next {e : Nat} (hS : Shp H) (hn : fi H 68 3 = nI n) (h9 : n ≤ 900) (he : fi H 68 5 = nI e) (hen : e ≤ n) (hB : ∀ q, ¬ (ar H 69).getD q 0 = -1) (hQ : ∀ H', Fg [70] [(68, 4), (68, 5), (68, 6), (68, 7), (68, 8)] H H' → MT H' n (tkP (ar H 69) n e) (tkT (ar H 69) n (tkP (ar H 69) n e)).2 (tkT (ar H 69) n (tkP (ar H 69) n e)).1 → Q none H') : Wp scr (d + 1) 197 0 [some (.ref 68), none, none, none] [] H Q := by
  have i1 : ∀ a : Nat, nI a + 1 = nI (a + 1) := fun a => ixa a 1 (v := 1) rfl
  simp (maxDischargeDepth := 12) only [w197_0, w197_1, w197_4, w197_6, w197_7, w197_10, w197_12, w197_15, w197_18, w197_21, w197_22, w197_23, w197_26, w197_27, w197_28, w197_31, w197_32, w197_33, w197_34, w197_37, w197_38, w197_39, w197_42, w197_43, w197_44, w197_47, w197_48, w197_49, w197_52, w197_53, w197_54, w197_57, w197_60, w197_61, w197_64, w197_67, w197_68, w197_69, w197_72, w197_75, w197_78, w197_79, w197_82, w197_84, w197_87, w197_88, w197_91, w197_92, w197_95, w197_96, w197_97, w197_100, w197_101, w197_102, w197_103, w197_106, w197_107, w197_108, w197_111, w197_114, w197_117, w197_118, w197_119, w197_122, w197_123, w197_124, w197_127, w197_129, w197_132, w197_133, w197_136, w197_137, w197_140, w197_143, w197_144, w197_147, w197_150, w197_151, w197_152, w197_153, w197_154, w197_157, w197_160, w197_163, w197_164, w197_165, w197_168, w197_169, w197_171, w197_172, w197_175, w197_176, w197_177, w197_178, w197_181, w197_182, w197_184, w197_185, w197_188, w197_191, w197_194, w197_197, w197_198, w197_199, w197_202, w197_203, w197_204, w197_205, w197_208, w197_209, w197_212, w197_213, w197_216, w197_219, w197_220, w197_221, w197_222, w197_223, w197_226, w197_227, w197_228, w197_230, w197_233, w197_234, w197_237, w197_238, w197_241, oK_some, cont_int, cont_intS, cont_none, cont_noneS, cont_long, cont_longS, true_and, and_true, false_and, and_false, true_implies, false_implies, not_true_eq_false, not_false_eq_true, eq_self, or_true, true_or, Option.isSome_some, hpf_length, hpa_length, bI_eq0, fi_hpa, fl_hpa, ar_hpf, fi_hpf_ne, fl_hpf_ne, ar_hpa_ne, hpa_hpa, hpf_hpf, nI_1, two_ne, fokZ, implies_true, Nat.reduceEqDiff, g_68_5, sf_68_5, fe_68_5, rc_68, g_68_4, sf_68_4, fe_68_4, g_68_8, sf_68_8, fe_68_8, g_68_7, sf_68_7, fe_68_7, g_68_6, sf_68_6, fe_68_6, g_68_12, ga_70, gn_70, sa_70, ae_70, kl_0, kl_1, kl_2, kl_3, kl_4, kl_5, kl_6, kl_7, kl_8, kl_9, kl_10, kl_11, kl_12, jb_0_8, jb_1_8, jb_2_8, jb_3_8, jb_4_8, jb_5_8, jb_6_8, jb_7_8, hS, he]
  refine sk_ind (g := fun q => decide ((ar H 69).getD q 0 = 32)) (n := n) (P := fun p => Wp scr (d + 1) 197 5 [some (.ref 68), some (.int (nI p)), none, none] [] H Q) (fun p hp hg hw => ?_) e ?_
  · rw [w197_5]
    simp (maxDischargeDepth := 12) only [w197_0, w197_1, w197_4, w197_6, w197_7, w197_10, w197_12, w197_15, w197_18, w197_21, w197_22, w197_23, w197_26, w197_27, w197_28, w197_31, w197_32, w197_33, w197_34, w197_37, w197_38, w197_39, w197_42, w197_43, w197_44, w197_47, w197_48, w197_49, w197_52, w197_53, w197_54, w197_57, w197_60, w197_61, w197_64, w197_67, w197_68, w197_69, w197_72, w197_75, w197_78, w197_79, w197_82, w197_84, w197_87, w197_88, w197_91, w197_92, w197_95, w197_96, w197_97, w197_100, w197_101, w197_102, w197_103, w197_106, w197_107, w197_108, w197_111, w197_114, w197_117, w197_118, w197_119, w197_122, w197_123, w197_124, w197_127, w197_129, w197_132, w197_133, w197_136, w197_137, w197_140, w197_143, w197_144, w197_147, w197_150, w197_151, w197_152, w197_153, w197_154, w197_157, w197_160, w197_163, w197_164, w197_165, w197_168, w197_169, w197_171, w197_172, w197_175, w197_176, w197_177, w197_178, w197_181, w197_182, w197_184, w197_185, w197_188, w197_191, w197_194, w197_197, w197_198, w197_199, w197_202, w197_203, w197_204, w197_205, w197_208, w197_209, w197_212, w197_213, w197_216, w197_219, w197_220, w197_221, w197_222, w197_223, w197_226, w197_227, w197_228, w197_230, w197_233, w197_234, w197_237, w197_238, w197_241, oK_some, cont_int, cont_intS, cont_none, cont_noneS, cont_long, cont_longS, true_and, and_true, false_and, and_false, true_implies, false_implies, not_true_eq_false, not_false_eq_true, eq_self, or_true, true_or, Option.isSome_some, hpf_length, hpa_length, bI_eq0, fi_hpa, fl_hpa, ar_hpf, fi_hpf_ne, fl_hpf_ne, ar_hpa_ne, hpa_hpa, hpf_hpf, nI_1, two_ne, fokZ, implies_true, Nat.reduceEqDiff, g_68_5, sf_68_5, fe_68_5, rc_68, g_68_4, sf_68_4, fe_68_4, g_68_8, sf_68_8, fe_68_8, g_68_7, sf_68_7, fe_68_7, g_68_6, sf_68_6, fe_68_6, g_68_12, ga_70, gn_70, sa_70, ae_70, kl_0, kl_1, kl_2, kl_3, kl_4, kl_5, kl_6, kl_7, kl_8, kl_9, kl_10, kl_11, kl_12, jb_0_8, jb_1_8, jb_2_8, jb_3_8, jb_4_8, jb_5_8, jb_6_8, jb_7_8, hS, m_see hS hn h9 (show p < 2147483648 by omega), seI_lt hp, of_decide_eq_true hg, i1]
    exact hw
  · show Wp scr (d + 1) 197 5 [some (.ref 68), some (.int (nI (tkP (ar H 69) n e))), none, none] [] H Q
    have hno := sk_no (g := fun q => decide ((ar H 69).getD q 0 = 32)) (n := n) (p := e)
    have hub : tkP (ar H 69) n e ≤ n := sk_ub hen
    change ¬ (tkP (ar H 69) n e < n ∧ decide ((ar H 69).getD (tkP (ar H 69) n e) 0 = 32) = true) at hno
    generalize tkP (ar H 69) n e = a at hno hub hQ
    have ne : (seI (ar H 69) n a = 32) = False := by
      refine eq_false (fun q => ?_)
      by_cases c : a < n
      · rw [seI_lt c] at q; exact hno ⟨c, decide_eq_true q⟩
      · rw [seI_ge c] at q; exact absurd q (by decide)
    have hF1 : Fg [] [(68, 4)] H (hpf H 68 4 (.int (nI a))) := (fg_hpf (a := 68) (f := 4) (ci := 12) hS rfl (by decide))
    have s1 := hF1.shp
    have hF2 : Fg [] [(68, 8)] _ (hpf (hpf H 68 4 (.int (nI a))) 68 8 (.int 0)) := (fg_hpf (a := 68) (f := 8) (ci := 12) s1 rfl (by decide))
    have s2 := hF2.shp
    have hF3 : Fg [] [(68, 7)] _ (hpf (hpf (hpf H 68 4 (.int (nI a))) 68 8 (.int 0)) 68 7 (.int 0)) := (fg_hpf (a := 68) (f := 7) (ci := 12) s2 rfl (by decide))
    have s3 := hF3.shp
    have hF : Fg [] [(68, 4), (68, 7), (68, 8)] H (hpf (hpf (hpf H 68 4 (.int (nI a))) 68 8 (.int 0)) 68 7 (.int 0)) := ((hF1.mono (by decide) (by decide)).trans (hF2.mono (by decide) (by decide))).trans (hF3.mono (by decide) (by decide))
    rw [w197_5]
    simp (maxDischargeDepth := 12) only [w197_0, w197_1, w197_4, w197_6, w197_7, w197_10, w197_12, w197_15, w197_18, w197_21, w197_22, w197_23, w197_26, w197_27, w197_28, w197_31, w197_32, w197_33, w197_34, w197_37, w197_38, w197_39, w197_42, w197_43, w197_44, w197_47, w197_48, w197_49, w197_52, w197_53, w197_54, w197_57, w197_60, w197_61, w197_64, w197_68, w197_69, w197_72, w197_75, w197_78, w197_79, w197_82, w197_84, w197_87, w197_88, w197_91, w197_92, w197_95, w197_96, w197_97, w197_100, w197_101, w197_102, w197_103, w197_106, w197_107, w197_108, w197_111, w197_114, w197_117, w197_118, w197_119, w197_122, w197_123, w197_124, w197_127, w197_129, w197_132, w197_133, w197_136, w197_137, w197_140, w197_143, w197_144, w197_147, w197_150, w197_151, w197_153, w197_154, w197_157, w197_160, w197_163, w197_164, w197_165, w197_168, w197_169, w197_171, w197_172, w197_175, w197_176, w197_177, w197_178, w197_181, w197_182, w197_184, w197_185, w197_188, w197_191, w197_194, w197_197, w197_198, w197_199, w197_202, w197_203, w197_204, w197_205, w197_208, w197_209, w197_212, w197_213, w197_216, w197_219, w197_220, w197_221, w197_222, w197_223, w197_226, w197_227, w197_228, w197_230, w197_233, w197_234, w197_237, w197_238, w197_241, oK_some, cont_int, cont_intS, cont_none, cont_noneS, cont_long, cont_longS, true_and, and_true, false_and, and_false, true_implies, false_implies, not_true_eq_false, not_false_eq_true, eq_self, or_true, true_or, Option.isSome_some, hpf_length, hpa_length, bI_eq0, fi_hpa, fl_hpa, ar_hpf, fi_hpf_ne, fl_hpf_ne, ar_hpa_ne, hpa_hpa, hpf_hpf, nI_1, two_ne, fokZ, implies_true, Nat.reduceEqDiff, g_68_5, sf_68_5, fe_68_5, rc_68, g_68_4, sf_68_4, fe_68_4, g_68_8, sf_68_8, fe_68_8, g_68_7, sf_68_7, fe_68_7, g_68_6, sf_68_6, fe_68_6, g_68_12, ga_70, gn_70, sa_70, ae_70, kl_0, kl_1, kl_2, kl_3, kl_4, kl_5, kl_6, kl_7, kl_8, kl_9, kl_10, kl_11, kl_12, jb_0_8, jb_1_8, jb_2_8, jb_3_8, jb_4_8, jb_5_8, jb_6_8, jb_7_8, hS, m_see hS hn h9 (show a < 2147483648 by omega), ne, s1, s2, m_see s1 ((hF1.int (by decide) (by decide)).trans hn) h9 (show a < 2147483648 by omega)]
    have g4 : fi (hpf (hpf (hpf H 68 4 (.int (nI a))) 68 8 (.int 0)) 68 7 (.int 0)) 68 4 = nI a := by
      rw [hF3.int (by decide) (by decide), hF2.int (by decide) (by decide), fe_68_4 hS]
    have g7 : fi (hpf (hpf (hpf H 68 4 (.int (nI a))) 68 8 (.int 0)) 68 7 (.int 0)) 68 7 = 0 := fe_68_7 s2
    have g8 : fi (hpf (hpf (hpf H 68 4 (.int (nI a))) 68 8 (.int 0)) 68 7 (.int 0)) 68 8 = 0 := by
      rw [hF3.int (by decide) (by decide), fe_68_8 s1]
    generalize hpf (hpf (hpf H 68 4 (.int (nI a))) 68 8 (.int 0)) 68 7 (.int 0) = X at hF g4 g7 g8 s3
    clear hF1 hF2 hF3 s1 s2
    have hFX : Fg [70] [(68, 4), (68, 5), (68, 6), (68, 7), (68, 8)] H X := hF.mono (by decide) (by decide)
    by_cases hlt : a < n
    · rw [seI_lt hlt]
      simp only [hB a, oK_some, cont_int, cont_intS, cont_none, cont_noneS, cont_long, cont_longS, true_and, and_true, false_and, and_false, true_implies, false_implies, not_true_eq_false, not_false_eq_true, eq_self, or_true, true_or, Option.isSome_some, hpf_length, hpa_length, bI_eq0, fi_hpa, fl_hpa, ar_hpf, fi_hpf_ne, fl_hpf_ne, ar_hpa_ne, hpa_hpa, hpf_hpf, nI_1, two_ne, fokZ, implies_true, Nat.reduceEqDiff, m_isSmall]
      cases hL : isL ((ar H 69).getD a 0)
      · simp (maxDischargeDepth := 12) only [w197_0, w197_1, w197_4, w197_6, w197_7, w197_10, w197_12, w197_15, w197_18, w197_21, w197_22, w197_23, w197_26, w197_27, w197_28, w197_31, w197_32, w197_33, w197_34, w197_37, w197_38, w197_39, w197_42, w197_43, w197_44, w197_47, w197_48, w197_49, w197_52, w197_53, w197_54, w197_57, w197_60, w197_61, w197_64, w197_68, w197_69, w197_72, w197_75, w197_78, w197_79, w197_82, w197_84, w197_87, w197_88, w197_91, w197_92, w197_95, w197_96, w197_97, w197_100, w197_101, w197_102, w197_103, w197_106, w197_107, w197_108, w197_111, w197_114, w197_117, w197_118, w197_119, w197_122, w197_123, w197_124, w197_127, w197_129, w197_132, w197_133, w197_136, w197_137, w197_140, w197_143, w197_144, w197_147, w197_150, w197_151, w197_153, w197_154, w197_157, w197_160, w197_163, w197_164, w197_165, w197_168, w197_169, w197_171, w197_172, w197_175, w197_176, w197_177, w197_178, w197_181, w197_182, w197_184, w197_185, w197_188, w197_191, w197_194, w197_197, w197_198, w197_199, w197_202, w197_203, w197_204, w197_205, w197_208, w197_209, w197_212, w197_213, w197_216, w197_219, w197_220, w197_221, w197_222, w197_223, w197_226, w197_227, w197_228, w197_230, w197_233, w197_234, w197_237, w197_238, w197_241, oK_some, cont_int, cont_intS, cont_none, cont_noneS, cont_long, cont_longS, true_and, and_true, false_and, and_false, true_implies, false_implies, not_true_eq_false, not_false_eq_true, eq_self, or_true, true_or, Option.isSome_some, hpf_length, hpa_length, bI_eq0, fi_hpa, fl_hpa, ar_hpf, fi_hpf_ne, fl_hpf_ne, ar_hpa_ne, hpa_hpa, hpf_hpf, nI_1, two_ne, fokZ, implies_true, Nat.reduceEqDiff, g_68_5, sf_68_5, fe_68_5, rc_68, g_68_4, sf_68_4, fe_68_4, g_68_8, sf_68_8, fe_68_8, g_68_7, sf_68_7, fe_68_7, g_68_6, sf_68_6, fe_68_6, g_68_12, ga_70, gn_70, sa_70, ae_70, kl_0, kl_1, kl_2, kl_3, kl_4, kl_5, kl_6, kl_7, kl_8, kl_9, kl_10, kl_11, kl_12, jb_0_8, jb_1_8, jb_2_8, jb_3_8, jb_4_8, jb_5_8, jb_6_8, jb_7_8, s3, m_isDigit]
        cases hD : isD ((ar H 69).getD a 0)
        · have et : tkT (ar H 69) n a = (if (ar H 69).getD a 0 = 59 then 3 else 4, a + 1) := by unfold tkT; rw [if_neg (by omega), hL, hD]; rfl
          have s5 := sf_68_5 (v := nI (a + 1)) s3
          simp (maxDischargeDepth := 12) only [w197_0, w197_1, w197_4, w197_6, w197_7, w197_10, w197_12, w197_15, w197_18, w197_21, w197_22, w197_23, w197_26, w197_27, w197_28, w197_31, w197_32, w197_33, w197_34, w197_37, w197_38, w197_39, w197_42, w197_43, w197_44, w197_47, w197_48, w197_49, w197_52, w197_53, w197_54, w197_57, w197_60, w197_61, w197_64, w197_68, w197_69, w197_72, w197_75, w197_78, w197_79, w197_82, w197_84, w197_87, w197_88, w197_91, w197_92, w197_95, w197_96, w197_97, w197_100, w197_101, w197_102, w197_103, w197_106, w197_107, w197_108, w197_111, w197_114, w197_117, w197_118, w197_119, w197_122, w197_123, w197_124, w197_127, w197_129, w197_132, w197_133, w197_136, w197_137, w197_140, w197_143, w197_144, w197_147, w197_150, w197_151, w197_153, w197_154, w197_157, w197_160, w197_163, w197_164, w197_165, w197_168, w197_169, w197_171, w197_172, w197_175, w197_176, w197_177, w197_178, w197_181, w197_182, w197_184, w197_185, w197_188, w197_191, w197_194, w197_197, w197_198, w197_199, w197_202, w197_203, w197_204, w197_205, w197_208, w197_209, w197_212, w197_213, w197_216, w197_219, w197_220, w197_221, w197_222, w197_223, w197_226, w197_227, w197_228, w197_230, w197_233, w197_234, w197_237, w197_238, w197_241, oK_some, cont_int, cont_intS, cont_none, cont_noneS, cont_long, cont_longS, true_and, and_true, false_and, and_false, true_implies, false_implies, not_true_eq_false, not_false_eq_true, eq_self, or_true, true_or, Option.isSome_some, hpf_length, hpa_length, bI_eq0, fi_hpa, fl_hpa, ar_hpf, fi_hpf_ne, fl_hpf_ne, ar_hpa_ne, hpa_hpa, hpf_hpf, nI_1, two_ne, fokZ, implies_true, Nat.reduceEqDiff, g_68_5, sf_68_5, fe_68_5, rc_68, g_68_4, sf_68_4, fe_68_4, g_68_8, sf_68_8, fe_68_8, g_68_7, sf_68_7, fe_68_7, g_68_6, sf_68_6, fe_68_6, g_68_12, ga_70, gn_70, sa_70, ae_70, kl_0, kl_1, kl_2, kl_3, kl_4, kl_5, kl_6, kl_7, kl_8, kl_9, kl_10, kl_11, kl_12, jb_0_8, jb_1_8, jb_2_8, jb_3_8, jb_4_8, jb_5_8, jb_6_8, jb_7_8, s3, i1, s5]
          by_cases h5 : (ar H 69).getD a 0 = 59
          · rw [if_pos h5] at et
            simp only [h5, oK_some, cont_int, cont_intS, cont_none, cont_noneS, cont_long, cont_longS, true_and, and_true, false_and, and_false, true_implies, false_implies, not_true_eq_false, not_false_eq_true, eq_self, or_true, true_or, Option.isSome_some, hpf_length, hpa_length, bI_eq0, fi_hpa, fl_hpa, ar_hpf, fi_hpf_ne, fl_hpf_ne, ar_hpa_ne, hpa_hpa, hpf_hpf, nI_1, two_ne, fokZ, implies_true, Nat.reduceEqDiff]
            have q := MT_mk hFX hn h9 hub g4 et (fun q => absurd q (by decide)) (fun q => absurd q (by decide)) (Y := hpf (hpf X 68 5 (.int (nI (a + 1)))) 68 6 (.int 59)) (((fg_hpf (a := 68) (f := 5) (ci := 12) s3 rfl (by decide))).trans (fg_hpf (a := 68) (f := 6) (ci := 12) s5 rfl (by decide))) (by rw [fi_hpf_ne (by decide), fe_68_5 s3]) (fe_68_6 s5)
            exact hQ _ q.1 q.2
          · rw [if_neg h5] at et
            simp only [h5, oK_some, cont_int, cont_intS, cont_none, cont_noneS, cont_long, cont_longS, true_and, and_true, false_and, and_false, true_implies, false_implies, not_true_eq_false, not_false_eq_true, eq_self, or_true, true_or, Option.isSome_some, hpf_length, hpa_length, bI_eq0, fi_hpa, fl_hpa, ar_hpf, fi_hpf_ne, fl_hpf_ne, ar_hpa_ne, hpa_hpa, hpf_hpf, nI_1, two_ne, fokZ, implies_true, Nat.reduceEqDiff]
            have q := MT_mk hFX hn h9 hub g4 et (fun q => absurd q (by decide)) (fun q => absurd q (by decide)) (Y := hpf (hpf X 68 5 (.int (nI (a + 1)))) 68 6 (.int 1)) (((fg_hpf (a := 68) (f := 5) (ci := 12) s3 rfl (by decide))).trans (fg_hpf (a := 68) (f := 6) (ci := 12) s5 rfl (by decide))) (by rw [fi_hpf_ne (by decide), fe_68_5 s3]) (fe_68_6 s5)
            exact hQ _ q.1 q.2
        · simp only [oK_some, cont_int, cont_intS, cont_none, cont_noneS, cont_long, cont_longS, true_and, and_true, false_and, and_false, true_implies, false_implies, not_true_eq_false, not_false_eq_true, eq_self, or_true, true_or, Option.isSome_some, hpf_length, hpa_length, bI_eq0, fi_hpa, fl_hpa, ar_hpf, fi_hpf_ne, fl_hpf_ne, ar_hpa_ne, hpa_hpa, hpf_hpf, nI_1, two_ne, fokZ, implies_true, Nat.reduceEqDiff, Bool.true_eq_false]
          have key := sk_ind (g := fun q => isD ((ar H 69).getD q 0)) (n := n) (P := fun p => a ≤ p → ∀ Y, Fg [] [(68, 7)] X Y → (p - a ≤ 3 → fi Y 68 7 = whV (ar H 69) a (p - a)) → Wp scr (d + 1) 197 152 [some (.ref 68), some (.int (nI p)), some (.int ((ar H 69).getD a 0)), some (.int (nI (p - a)))] [] Y Q) (fun p hp hg hw hap Y hY y7 => ?_) a ?_
          · have := key (Nat.le_refl _) X (Fg.rfl' s3) (fun _ => by rw [g7, Nat.sub_self]; rfl)
            rw [Nat.sub_self] at this
            exact this
          · have sY := hY.shp
            have e69 : ar Y 69 = ar H 69 := (hY.arr (by decide)).trans (hFX.arr (by decide))
            have yn : fi Y 68 3 = nI n := ((hY.int (by decide) (by decide)).trans (hFX.int (by decide) (by decide))).trans hn
            rw [show p + 1 - a = p - a + 1 by omega] at hw
            rw [w197_152]
            simp (maxDischargeDepth := 12) only [w197_0, w197_1, w197_4, w197_6, w197_7, w197_10, w197_12, w197_15, w197_18, w197_21, w197_22, w197_23, w197_26, w197_27, w197_28, w197_31, w197_32, w197_33, w197_34, w197_37, w197_38, w197_39, w197_42, w197_43, w197_44, w197_47, w197_48, w197_49, w197_52, w197_53, w197_54, w197_57, w197_60, w197_61, w197_64, w197_68, w197_69, w197_72, w197_75, w197_78, w197_79, w197_82, w197_84, w197_87, w197_88, w197_91, w197_92, w197_95, w197_96, w197_97, w197_100, w197_101, w197_102, w197_103, w197_106, w197_107, w197_108, w197_111, w197_114, w197_117, w197_118, w197_119, w197_122, w197_123, w197_124, w197_127, w197_129, w197_132, w197_133, w197_136, w197_137, w197_140, w197_143, w197_144, w197_147, w197_150, w197_151, w197_153, w197_154, w197_157, w197_160, w197_163, w197_164, w197_165, w197_168, w197_169, w197_171, w197_172, w197_175, w197_176, w197_177, w197_178, w197_181, w197_182, w197_184, w197_185, w197_188, w197_191, w197_194, w197_197, w197_198, w197_199, w197_202, w197_203, w197_204, w197_205, w197_208, w197_209, w197_212, w197_213, w197_216, w197_219, w197_220, w197_221, w197_222, w197_223, w197_226, w197_227, w197_228, w197_230, w197_233, w197_234, w197_237, w197_238, w197_241, oK_some, cont_int, cont_intS, cont_none, cont_noneS, cont_long, cont_longS, true_and, and_true, false_and, and_false, true_implies, false_implies, not_true_eq_false, not_false_eq_true, eq_self, or_true, true_or, Option.isSome_some, hpf_length, hpa_length, bI_eq0, fi_hpa, fl_hpa, ar_hpf, fi_hpf_ne, fl_hpf_ne, ar_hpa_ne, hpa_hpa, hpf_hpf, nI_1, two_ne, fokZ, implies_true, Nat.reduceEqDiff, g_68_5, sf_68_5, fe_68_5, rc_68, g_68_4, sf_68_4, fe_68_4, g_68_8, sf_68_8, fe_68_8, g_68_7, sf_68_7, fe_68_7, g_68_6, sf_68_6, fe_68_6, g_68_12, ga_70, gn_70, sa_70, ae_70, kl_0, kl_1, kl_2, kl_3, kl_4, kl_5, kl_6, kl_7, kl_8, kl_9, kl_10, kl_11, kl_12, jb_0_8, jb_1_8, jb_2_8, jb_3_8, jb_4_8, jb_5_8, jb_6_8, jb_7_8, sY, m_see sY yn h9 (show p < 2147483648 by omega), e69, seI_lt hp, m_isDigit, hg, i1, Bool.true_eq_false]
            by_cases h3 : p - a < 3
            · simp only [show ((3 : Int32) ≤ nI (p - a)) = False from nI_lef (n := 3) h3 (by decide), oK_some, cont_int, cont_intS, cont_none, cont_noneS, cont_long, cont_longS, true_and, and_true, false_and, and_false, true_implies, false_implies, not_true_eq_false, not_false_eq_true, eq_self, or_true, true_or, Option.isSome_some, hpf_length, hpa_length, bI_eq0, fi_hpa, fl_hpa, ar_hpf, fi_hpf_ne, fl_hpf_ne, ar_hpa_ne, hpa_hpa, hpf_hpf, nI_1, two_ne, fokZ, implies_true, Nat.reduceEqDiff]
              have hY' : Fg [] [(68, 7)] Y (hpf Y 68 7 (.int (10 * fi Y 68 7 + (ar H 69).getD p 0 - 48))) := (fg_hpf (a := 68) (f := 7) (ci := 12) sY rfl (by decide))
              refine hw (by omega) _ (hY.trans hY') (fun _ => ?_)
              rw [fe_68_7 sY, y7 (by omega)]
              show _ = whF (ar H 69) a (p - a) (whV (ar H 69) a (p - a))
              unfold whF
              rw [show a + (p - a) = p by omega, Int32.mul_comm]
            · simp only [show ((3 : Int32) ≤ nI (p - a)) = True from eq_true ((nI_leI (a := 3) (by omega) (by omega)).mpr (by omega)), oK_some, cont_int, cont_intS, cont_none, cont_noneS, cont_long, cont_longS, true_and, and_true, false_and, and_false, true_implies, false_implies, not_true_eq_false, not_false_eq_true, eq_self, or_true, true_or, Option.isSome_some, hpf_length, hpa_length, bI_eq0, fi_hpa, fl_hpa, ar_hpf, fi_hpf_ne, fl_hpf_ne, ar_hpa_ne, hpa_hpa, hpf_hpf, nI_1, two_ne, fokZ, implies_true, Nat.reduceEqDiff]
              exact hw (by omega) Y hY (fun q => absurd q (by omega))
          · intro hae Y hY y7
            have hx := sk_no (g := fun q => isD ((ar H 69).getD q 0)) (n := n) (p := a)
            have hub2 : tkD (ar H 69) n a ≤ n := sk_ub hub
            have et : tkT (ar H 69) n a = (if tkD (ar H 69) n a - a ≤ 3 then 2 else 4, tkD (ar H 69) n a) := by unfold tkT; rw [if_neg (by omega), hL, hD]; rfl
            change a ≤ tkD (ar H 69) n a at hae
            change ¬ (tkD (ar H 69) n a < n ∧ isD ((ar H 69).getD (tkD (ar H 69) n a) 0) = true) at hx
            change tkD (ar H 69) n a - a ≤ 3 → fi Y 68 7 = whV (ar H 69) a (tkD (ar H 69) n a - a) at y7
            change Wp scr (d + 1) 197 152 [some (.ref 68), some (.int (nI (tkD (ar H 69) n a))), some (.int ((ar H 69).getD a 0)), some (.int (nI (tkD (ar H 69) n a - a)))] [] Y Q
            generalize tkD (ar H 69) n a = e' at hae hx y7 et hub2
            have sY := hY.shp
            have e69 : ar Y 69 = ar H 69 := (hY.arr (by decide)).trans (hFX.arr (by decide))
            have yn : fi Y 68 3 = nI n := ((hY.int (by decide) (by decide)).trans (hFX.int (by decide) (by decide))).trans hn
            have nx : isD (seI (ar H 69) n e') = false := by
              by_cases c : e' < n
              · rw [seI_lt c]; exact Bool.eq_false_iff.mpr (fun q => hx ⟨c, q⟩)
              · rw [seI_ge c]; exact isD_m1
            have s5 := sf_68_5 (v := nI e') sY
            rw [w197_152]
            simp (maxDischargeDepth := 12) only [w197_0, w197_1, w197_4, w197_6, w197_7, w197_10, w197_12, w197_15, w197_18, w197_21, w197_22, w197_23, w197_26, w197_27, w197_28, w197_31, w197_32, w197_33, w197_34, w197_37, w197_38, w197_39, w197_42, w197_43, w197_44, w197_47, w197_48, w197_49, w197_52, w197_53, w197_54, w197_57, w197_60, w197_61, w197_64, w197_68, w197_69, w197_72, w197_75, w197_78, w197_79, w197_82, w197_84, w197_87, w197_88, w197_91, w197_92, w197_95, w197_96, w197_97, w197_100, w197_101, w197_102, w197_103, w197_106, w197_107, w197_108, w197_111, w197_114, w197_117, w197_118, w197_119, w197_122, w197_123, w197_124, w197_127, w197_129, w197_132, w197_133, w197_136, w197_137, w197_140, w197_143, w197_144, w197_147, w197_150, w197_151, w197_153, w197_154, w197_157, w197_160, w197_163, w197_164, w197_165, w197_168, w197_169, w197_171, w197_172, w197_175, w197_176, w197_177, w197_178, w197_181, w197_182, w197_184, w197_185, w197_188, w197_191, w197_194, w197_197, w197_198, w197_199, w197_202, w197_203, w197_204, w197_205, w197_208, w197_209, w197_212, w197_213, w197_216, w197_219, w197_220, w197_221, w197_222, w197_223, w197_226, w197_227, w197_228, w197_230, w197_233, w197_234, w197_237, w197_238, w197_241, oK_some, cont_int, cont_intS, cont_none, cont_noneS, cont_long, cont_longS, true_and, and_true, false_and, and_false, true_implies, false_implies, not_true_eq_false, not_false_eq_true, eq_self, or_true, true_or, Option.isSome_some, hpf_length, hpa_length, bI_eq0, fi_hpa, fl_hpa, ar_hpf, fi_hpf_ne, fl_hpf_ne, ar_hpa_ne, hpa_hpa, hpf_hpf, nI_1, two_ne, fokZ, implies_true, Nat.reduceEqDiff, g_68_5, sf_68_5, fe_68_5, rc_68, g_68_4, sf_68_4, fe_68_4, g_68_8, sf_68_8, fe_68_8, g_68_7, sf_68_7, fe_68_7, g_68_6, sf_68_6, fe_68_6, g_68_12, ga_70, gn_70, sa_70, ae_70, kl_0, kl_1, kl_2, kl_3, kl_4, kl_5, kl_6, kl_7, kl_8, kl_9, kl_10, kl_11, kl_12, jb_0_8, jb_1_8, jb_2_8, jb_3_8, jb_4_8, jb_5_8, jb_6_8, jb_7_8, sY, m_see sY yn h9 (show e' < 2147483648 by omega), e69, nx, m_isDigit, s5]
            have hFY := hFX.trans (hY.mono (by decide) (by decide))
            have y4 : fi Y 68 4 = nI a := (hY.int (by decide) (by decide)).trans g4
            by_cases h3 : e' - a ≤ 3
            · rw [if_pos h3] at et
              simp only [show (nI (e' - a) ≤ 3) = True from eq_true (nI_le (b := 3) h3 (by decide)), oK_some, cont_int, cont_intS, cont_none, cont_noneS, cont_long, cont_longS, true_and, and_true, false_and, and_false, true_implies, false_implies, not_true_eq_false, not_false_eq_true, eq_self, or_true, true_or, Option.isSome_some, hpf_length, hpa_length, bI_eq0, fi_hpa, fl_hpa, ar_hpf, fi_hpf_ne, fl_hpf_ne, ar_hpa_ne, hpa_hpa, hpf_hpf, nI_1, two_ne, fokZ, implies_true, Nat.reduceEqDiff]
              have q := MT_mk hFY hn h9 hub y4 et (fun q => absurd q (by decide)) (fun _ => y7 h3) (Y := hpf (hpf Y 68 5 (.int (nI e'))) 68 6 (.int 3)) (((fg_hpf (a := 68) (f := 5) (ci := 12) sY rfl (by decide))).trans (fg_hpf (a := 68) (f := 6) (ci := 12) s5 rfl (by decide))) (by rw [fi_hpf_ne (by decide), fe_68_5 sY]) (fe_68_6 s5)
              exact hQ _ q.1 q.2
            · rw [if_neg h3] at et
              simp only [show (nI (e' - a) ≤ 3) = False from eq_false (nI_ge (a := 3) (b := e' - a) (by omega) (by omega)), oK_some, cont_int, cont_intS, cont_none, cont_noneS, cont_long, cont_longS, true_and, and_true, false_and, and_false, true_implies, false_implies, not_true_eq_false, not_false_eq_true, eq_self, or_true, true_or, Option.isSome_some, hpf_length, hpa_length, bI_eq0, fi_hpa, fl_hpa, ar_hpf, fi_hpf_ne, fl_hpf_ne, ar_hpa_ne, hpa_hpa, hpf_hpf, nI_1, two_ne, fokZ, implies_true, Nat.reduceEqDiff]
              have q := MT_mk hFY hn h9 hub y4 et (fun q => absurd q (by decide)) (fun q => absurd q (by decide)) (Y := hpf (hpf Y 68 5 (.int (nI e'))) 68 6 (.int 1)) (((fg_hpf (a := 68) (f := 5) (ci := 12) sY rfl (by decide))).trans (fg_hpf (a := 68) (f := 6) (ci := 12) s5 rfl (by decide))) (by rw [fi_hpf_ne (by decide), fe_68_5 sY]) (fe_68_6 s5)
              exact hQ _ q.1 q.2
      · simp (maxDischargeDepth := 12) only [w197_0, w197_1, w197_4, w197_6, w197_7, w197_10, w197_12, w197_15, w197_18, w197_21, w197_22, w197_23, w197_26, w197_27, w197_28, w197_31, w197_32, w197_33, w197_34, w197_37, w197_38, w197_39, w197_42, w197_43, w197_44, w197_47, w197_48, w197_49, w197_52, w197_53, w197_54, w197_57, w197_60, w197_61, w197_64, w197_68, w197_69, w197_72, w197_75, w197_78, w197_79, w197_82, w197_84, w197_87, w197_88, w197_91, w197_92, w197_95, w197_96, w197_97, w197_100, w197_101, w197_102, w197_103, w197_106, w197_107, w197_108, w197_111, w197_114, w197_117, w197_118, w197_119, w197_122, w197_123, w197_124, w197_127, w197_129, w197_132, w197_133, w197_136, w197_137, w197_140, w197_143, w197_144, w197_147, w197_150, w197_151, w197_153, w197_154, w197_157, w197_160, w197_163, w197_164, w197_165, w197_168, w197_169, w197_171, w197_172, w197_175, w197_176, w197_177, w197_178, w197_181, w197_182, w197_184, w197_185, w197_188, w197_191, w197_194, w197_197, w197_198, w197_199, w197_202, w197_203, w197_204, w197_205, w197_208, w197_209, w197_212, w197_213, w197_216, w197_219, w197_220, w197_221, w197_222, w197_223, w197_226, w197_227, w197_228, w197_230, w197_233, w197_234, w197_237, w197_238, w197_241, oK_some, cont_int, cont_intS, cont_none, cont_noneS, cont_long, cont_longS, true_and, and_true, false_and, and_false, true_implies, false_implies, not_true_eq_false, not_false_eq_true, eq_self, or_true, true_or, Option.isSome_some, hpf_length, hpa_length, bI_eq0, fi_hpa, fl_hpa, ar_hpf, fi_hpf_ne, fl_hpf_ne, ar_hpa_ne, hpa_hpa, hpf_hpf, nI_1, two_ne, fokZ, implies_true, Nat.reduceEqDiff, g_68_5, sf_68_5, fe_68_5, rc_68, g_68_4, sf_68_4, fe_68_4, g_68_8, sf_68_8, fe_68_8, g_68_7, sf_68_7, fe_68_7, g_68_6, sf_68_6, fe_68_6, g_68_12, ga_70, gn_70, sa_70, ae_70, kl_0, kl_1, kl_2, kl_3, kl_4, kl_5, kl_6, kl_7, kl_8, kl_9, kl_10, kl_11, kl_12, jb_0_8, jb_1_8, jb_2_8, jb_3_8, jb_4_8, jb_5_8, jb_6_8, jb_7_8, s3, Bool.true_eq_false]
        have key := sk_ind (g := fun q => isL ((ar H 69).getD q 0)) (n := n) (P := fun p => a ≤ p → ∀ Y, Fg [70] [(68, 8)] X Y → fi Y 68 8 = nI (p - a) → (∀ k, k < p - a → k < 8 → (ar Y 70).getD k 0 = (ar H 69).getD (a + k) 0) → Wp scr (d + 1) 197 67 [some (.ref 68), some (.int (nI p)), some (.int ((ar H 69).getD a 0)), none] [] Y Q) (fun p hp hg hw hap Y hY y8 yk => ?_) a ?_
        · have := key (Nat.le_refl _) X (Fg.rfl' s3) (by rw [g8, Nat.sub_self]; rfl) (fun k hk => absurd hk (by omega))
          exact this
        · have sY := hY.shp
          have e69 : ar Y 69 = ar H 69 := (hY.arr (by decide)).trans (hFX.arr (by decide))
          have yn : fi Y 68 3 = nI n := ((hY.int (by decide) (by decide)).trans (hFX.int (by decide) (by decide))).trans hn
          rw [show p + 1 - a = p - a + 1 by omega] at hw
          rw [w197_67]
          simp (maxDischargeDepth := 12) only [w197_0, w197_1, w197_4, w197_6, w197_7, w197_10, w197_12, w197_15, w197_18, w197_21, w197_22, w197_23, w197_26, w197_27, w197_28, w197_31, w197_32, w197_33, w197_34, w197_37, w197_38, w197_39, w197_42, w197_43, w197_44, w197_47, w197_48, w197_49, w197_52, w197_53, w197_54, w197_57, w197_60, w197_61, w197_64, w197_68, w197_69, w197_72, w197_75, w197_78, w197_79, w197_82, w197_84, w197_87, w197_88, w197_91, w197_92, w197_95, w197_96, w197_97, w197_100, w197_101, w197_102, w197_103, w197_106, w197_107, w197_108, w197_111, w197_114, w197_117, w197_118, w197_119, w197_122, w197_123, w197_124, w197_127, w197_129, w197_132, w197_133, w197_136, w197_137, w197_140, w197_143, w197_144, w197_147, w197_150, w197_151, w197_153, w197_154, w197_157, w197_160, w197_163, w197_164, w197_165, w197_168, w197_169, w197_171, w197_172, w197_175, w197_176, w197_177, w197_178, w197_181, w197_182, w197_184, w197_185, w197_188, w197_191, w197_194, w197_197, w197_198, w197_199, w197_202, w197_203, w197_204, w197_205, w197_208, w197_209, w197_212, w197_213, w197_216, w197_219, w197_220, w197_221, w197_222, w197_223, w197_226, w197_227, w197_228, w197_230, w197_233, w197_234, w197_237, w197_238, w197_241, oK_some, cont_int, cont_intS, cont_none, cont_noneS, cont_long, cont_longS, true_and, and_true, false_and, and_false, true_implies, false_implies, not_true_eq_false, not_false_eq_true, eq_self, or_true, true_or, Option.isSome_some, hpf_length, hpa_length, bI_eq0, fi_hpa, fl_hpa, ar_hpf, fi_hpf_ne, fl_hpf_ne, ar_hpa_ne, hpa_hpa, hpf_hpf, nI_1, two_ne, fokZ, implies_true, Nat.reduceEqDiff, g_68_5, sf_68_5, fe_68_5, rc_68, g_68_4, sf_68_4, fe_68_4, g_68_8, sf_68_8, fe_68_8, g_68_7, sf_68_7, fe_68_7, g_68_6, sf_68_6, fe_68_6, g_68_12, ga_70, gn_70, sa_70, ae_70, kl_0, kl_1, kl_2, kl_3, kl_4, kl_5, kl_6, kl_7, kl_8, kl_9, kl_10, kl_11, kl_12, jb_0_8, jb_1_8, jb_2_8, jb_3_8, jb_4_8, jb_5_8, jb_6_8, jb_7_8, sY, m_see sY yn h9 (show p < 2147483648 by omega), e69, seI_lt hp, m_isSmall, hg, i1, Bool.true_eq_false, y8]
          by_cases h3 : p - a < 8
          · have hl : ((ar Y 70).set (p - a) ((ar H 69).getD p 0)).length = 8 := by rw [List.length_set, gn_70 sY]
            have sZ := sa_70 sY hl
            have z8 : fi (hpa Y 70 ((ar Y 70).set (p - a) ((ar H 69).getD p 0))) 68 8 = nI (p - a) := by rw [fi_hpa, y8]
            have hF1 : Fg [70] [(68, 8)] Y (hpa Y 70 ((ar Y 70).set (p - a) ((ar H 69).getD p 0))) := fg_hpa sY (by rw [List.length_set]) (by decide)
            simp only [show ((8 : Int32) ≤ nI (p - a)) = False from nI_lef (n := 8) h3 (by decide), oK_some, cont_int, cont_intS, cont_none, cont_noneS, cont_long, cont_longS, true_and, and_true, false_and, and_false, true_implies, false_implies, not_true_eq_false, not_false_eq_true, eq_self, or_true, true_or, Option.isSome_some, hpf_length, hpa_length, bI_eq0, fi_hpa, fl_hpa, ar_hpf, fi_hpf_ne, fl_hpf_ne, ar_hpa_ne, hpa_hpa, hpf_hpf, nI_1, two_ne, fokZ, implies_true, Nat.reduceEqDiff, inb_nI (i := p - a) (by omega), decide_eq_true (by omega : p - a < 8), nI_clamp (n := p - a) (by omega), w197_0, w197_1, w197_4, w197_6, w197_7, w197_10, w197_12, w197_15, w197_18, w197_21, w197_22, w197_23, w197_26, w197_27, w197_28, w197_31, w197_32, w197_33, w197_34, w197_37, w197_38, w197_39, w197_42, w197_43, w197_44, w197_47, w197_48, w197_49, w197_52, w197_53, w197_54, w197_57, w197_60, w197_61, w197_64, w197_68, w197_69, w197_72, w197_75, w197_78, w197_79, w197_82, w197_84, w197_87, w197_88, w197_91, w197_92, w197_95, w197_96, w197_97, w197_100, w197_101, w197_102, w197_103, w197_106, w197_107, w197_108, w197_111, w197_114, w197_117, w197_118, w197_119, w197_122, w197_123, w197_124, w197_127, w197_129, w197_132, w197_133, w197_136, w197_137, w197_140, w197_143, w197_144, w197_147, w197_150, w197_151, w197_153, w197_154, w197_157, w197_160, w197_163, w197_164, w197_165, w197_168, w197_169, w197_171, w197_172, w197_175, w197_176, w197_177, w197_178, w197_181, w197_182, w197_184, w197_185, w197_188, w197_191, w197_194, w197_197, w197_198, w197_199, w197_202, w197_203, w197_204, w197_205, w197_208, w197_209, w197_212, w197_213, w197_216, w197_219, w197_220, w197_221, w197_222, w197_223, w197_226, w197_227, w197_228, w197_230, w197_233, w197_234, w197_237, w197_238, w197_241, oK_some, cont_int, cont_intS, cont_none, cont_noneS, cont_long, cont_longS, true_and, and_true, false_and, and_false, true_implies, false_implies, not_true_eq_false, not_false_eq_true, eq_self, or_true, true_or, Option.isSome_some, hpf_length, hpa_length, bI_eq0, fi_hpa, fl_hpa, ar_hpf, fi_hpf_ne, fl_hpf_ne, ar_hpa_ne, hpa_hpa, hpf_hpf, nI_1, two_ne, fokZ, implies_true, Nat.reduceEqDiff, g_68_5, sf_68_5, fe_68_5, rc_68, g_68_4, sf_68_4, fe_68_4, g_68_8, sf_68_8, fe_68_8, g_68_7, sf_68_7, fe_68_7, g_68_6, sf_68_6, fe_68_6, g_68_12, ga_70, gn_70, sa_70, ae_70, kl_0, kl_1, kl_2, kl_3, kl_4, kl_5, kl_6, kl_7, kl_8, kl_9, kl_10, kl_11, kl_12, jb_0_8, jb_1_8, jb_2_8, jb_3_8, jb_4_8, jb_5_8, jb_6_8, jb_7_8, sZ, z8, i1]
            have hF2 : Fg [70] [(68, 8)] _ (hpf (hpa Y 70 ((ar Y 70).set (p - a) ((ar H 69).getD p 0))) 68 8 (.int (nI (p - a + 1)))) := (fg_hpf (a := 68) (f := 8) (ci := 12) sZ rfl (by decide))
            refine hw (by omega) _ ((hY.trans hF1).trans hF2) (fe_68_8 sZ) (fun k hk h8 => ?_)
            rw [ar_hpf, ae_70 sY]
            by_cases e' : k = p - a
            · rw [e', getD_set, if_pos ⟨rfl, by rw [gn_70 sY]; exact h3⟩, show a + (p - a) = p by omega]
            · rw [getD_set, if_neg (fun q => e' q.1.symm)]
              exact yk k (by omega) h8
          · simp only [show ((8 : Int32) ≤ nI (p - a)) = True from eq_true ((nI_leI (a := 8) (by omega) (by omega)).mpr (by omega)), oK_some, cont_int, cont_intS, cont_none, cont_noneS, cont_long, cont_longS, true_and, and_true, false_and, and_false, true_implies, false_implies, not_true_eq_false, not_false_eq_true, eq_self, or_true, true_or, Option.isSome_some, hpf_length, hpa_length, bI_eq0, fi_hpa, fl_hpa, ar_hpf, fi_hpf_ne, fl_hpf_ne, ar_hpa_ne, hpa_hpa, hpf_hpf, nI_1, two_ne, fokZ, implies_true, Nat.reduceEqDiff]
            have hF2 : Fg [70] [(68, 8)] Y (hpf Y 68 8 (.int (nI (p - a + 1)))) := (fg_hpf (a := 68) (f := 8) (ci := 12) sY rfl (by decide))
            exact hw (by omega) _ (hY.trans hF2) (fe_68_8 sY) (fun k hk h8 => by rw [ar_hpf]; exact yk k (by omega) h8)
        · intro hae Y hY y8 yk
          have hx := sk_no (g := fun q => isL ((ar H 69).getD q 0)) (n := n) (p := a)
          have hub2 : tkL (ar H 69) n a ≤ n := sk_ub hub
          have et : tkT (ar H 69) n a = (if tkL (ar H 69) n a - a ≤ 8 then 1 else 4, tkL (ar H 69) n a) := by unfold tkT; rw [if_neg (by omega), hL]; rfl
          change a ≤ tkL (ar H 69) n a at hae
          change ¬ (tkL (ar H 69) n a < n ∧ isL ((ar H 69).getD (tkL (ar H 69) n a) 0) = true) at hx
          change fi Y 68 8 = nI (tkL (ar H 69) n a - a) at y8
          change ∀ k, k < tkL (ar H 69) n a - a → k < 8 → (ar Y 70).getD k 0 = (ar H 69).getD (a + k) 0 at yk
          change Wp scr (d + 1) 197 67 [some (.ref 68), some (.int (nI (tkL (ar H 69) n a))), some (.int ((ar H 69).getD a 0)), none] [] Y Q
          generalize tkL (ar H 69) n a = e' at hae hx y8 yk et hub2
          have sY := hY.shp
          have e69 : ar Y 69 = ar H 69 := (hY.arr (by decide)).trans (hFX.arr (by decide))
          have yn : fi Y 68 3 = nI n := ((hY.int (by decide) (by decide)).trans (hFX.int (by decide) (by decide))).trans hn
          have nx : isL (seI (ar H 69) n e') = false := by
            by_cases c : e' < n
            · rw [seI_lt c]; exact Bool.eq_false_iff.mpr (fun q => hx ⟨c, q⟩)
            · rw [seI_ge c]; exact isL_m1
          have s5 := sf_68_5 (v := nI e') sY
          rw [w197_67]
          simp (maxDischargeDepth := 12) only [w197_0, w197_1, w197_4, w197_6, w197_7, w197_10, w197_12, w197_15, w197_18, w197_21, w197_22, w197_23, w197_26, w197_27, w197_28, w197_31, w197_32, w197_33, w197_34, w197_37, w197_38, w197_39, w197_42, w197_43, w197_44, w197_47, w197_48, w197_49, w197_52, w197_53, w197_54, w197_57, w197_60, w197_61, w197_64, w197_68, w197_69, w197_72, w197_75, w197_78, w197_79, w197_82, w197_84, w197_87, w197_88, w197_91, w197_92, w197_95, w197_96, w197_97, w197_100, w197_101, w197_102, w197_103, w197_106, w197_107, w197_108, w197_111, w197_114, w197_117, w197_118, w197_119, w197_122, w197_123, w197_124, w197_127, w197_129, w197_132, w197_133, w197_136, w197_137, w197_140, w197_143, w197_144, w197_147, w197_150, w197_151, w197_153, w197_154, w197_157, w197_160, w197_163, w197_164, w197_165, w197_168, w197_169, w197_171, w197_172, w197_175, w197_176, w197_177, w197_178, w197_181, w197_182, w197_184, w197_185, w197_188, w197_191, w197_194, w197_197, w197_198, w197_199, w197_202, w197_203, w197_204, w197_205, w197_208, w197_209, w197_212, w197_213, w197_216, w197_219, w197_220, w197_221, w197_222, w197_223, w197_226, w197_227, w197_228, w197_230, w197_233, w197_234, w197_237, w197_238, w197_241, oK_some, cont_int, cont_intS, cont_none, cont_noneS, cont_long, cont_longS, true_and, and_true, false_and, and_false, true_implies, false_implies, not_true_eq_false, not_false_eq_true, eq_self, or_true, true_or, Option.isSome_some, hpf_length, hpa_length, bI_eq0, fi_hpa, fl_hpa, ar_hpf, fi_hpf_ne, fl_hpf_ne, ar_hpa_ne, hpa_hpa, hpf_hpf, nI_1, two_ne, fokZ, implies_true, Nat.reduceEqDiff, g_68_5, sf_68_5, fe_68_5, rc_68, g_68_4, sf_68_4, fe_68_4, g_68_8, sf_68_8, fe_68_8, g_68_7, sf_68_7, fe_68_7, g_68_6, sf_68_6, fe_68_6, g_68_12, ga_70, gn_70, sa_70, ae_70, kl_0, kl_1, kl_2, kl_3, kl_4, kl_5, kl_6, kl_7, kl_8, kl_9, kl_10, kl_11, kl_12, jb_0_8, jb_1_8, jb_2_8, jb_3_8, jb_4_8, jb_5_8, jb_6_8, jb_7_8, sY, m_see sY yn h9 (show e' < 2147483648 by omega), e69, nx, m_isSmall, s5, y8]
          have hFY := hFX.trans (hY.mono (by decide) (by decide))
          have y4 : fi Y 68 4 = nI a := (hY.int (by decide) (by decide)).trans g4
          by_cases h3 : e' - a ≤ 8
          · rw [if_pos h3] at et
            simp only [show (nI (e' - a) ≤ 8) = True from eq_true (nI_le (b := 8) h3 (by decide)), oK_some, cont_int, cont_intS, cont_none, cont_noneS, cont_long, cont_longS, true_and, and_true, false_and, and_false, true_implies, false_implies, not_true_eq_false, not_false_eq_true, eq_self, or_true, true_or, Option.isSome_some, hpf_length, hpa_length, bI_eq0, fi_hpa, fl_hpa, ar_hpf, fi_hpf_ne, fl_hpf_ne, ar_hpa_ne, hpa_hpa, hpf_hpf, nI_1, two_ne, fokZ, implies_true, Nat.reduceEqDiff]
            have q := MT_mk hFY hn h9 hub y4 et (fun _ => ⟨y8, fun k hk => yk k hk (by omega)⟩) (fun q => absurd q (by decide)) (Y := hpf (hpf Y 68 5 (.int (nI e'))) 68 6 (.int 2)) (((fg_hpf (a := 68) (f := 5) (ci := 12) sY rfl (by decide))).trans (fg_hpf (a := 68) (f := 6) (ci := 12) s5 rfl (by decide))) (by rw [fi_hpf_ne (by decide), fe_68_5 sY]) (fe_68_6 s5)
            exact hQ _ q.1 q.2
          · rw [if_neg h3] at et
            simp only [show (nI (e' - a) ≤ 8) = False from eq_false (nI_ge (a := 8) (b := e' - a) (by omega) (by omega)), oK_some, cont_int, cont_intS, cont_none, cont_noneS, cont_long, cont_longS, true_and, and_true, false_and, and_false, true_implies, false_implies, not_true_eq_false, not_false_eq_true, eq_self, or_true, true_or, Option.isSome_some, hpf_length, hpa_length, bI_eq0, fi_hpa, fl_hpa, ar_hpf, fi_hpf_ne, fl_hpf_ne, ar_hpa_ne, hpa_hpa, hpf_hpf, nI_1, two_ne, fokZ, implies_true, Nat.reduceEqDiff]
            have q := MT_mk hFY hn h9 hub y4 et (fun q => absurd q (by decide)) (fun q => absurd q (by decide)) (Y := hpf (hpf Y 68 5 (.int (nI e'))) 68 6 (.int 1)) (((fg_hpf (a := 68) (f := 5) (ci := 12) sY rfl (by decide))).trans (fg_hpf (a := 68) (f := 6) (ci := 12) s5 rfl (by decide))) (by rw [fi_hpf_ne (by decide), fe_68_5 sY]) (fe_68_6 s5)
            exact hQ _ q.1 q.2
    · rw [seI_ge hlt]
      simp only [oK_some, cont_int, cont_intS, cont_none, cont_noneS, cont_long, cont_longS, true_and, and_true, false_and, and_false, true_implies, false_implies, not_true_eq_false, not_false_eq_true, eq_self, or_true, true_or, Option.isSome_some, hpf_length, hpa_length, bI_eq0, fi_hpa, fl_hpa, ar_hpf, fi_hpf_ne, fl_hpf_ne, ar_hpa_ne, hpa_hpa, hpf_hpf, nI_1, two_ne, fokZ, implies_true, Nat.reduceEqDiff]
      have q := MT_mk (s := 0) (e := a) hFX hn h9 hub g4 (by unfold tkT; rw [if_pos (by omega)]) (fun q => absurd q (by decide)) (fun q => absurd q (by decide)) (Y := hpf (hpf X 68 6 (.int 0)) 68 5 (.int (nI a))) (((fg_hpf (a := 68) (f := 6) (ci := 12) s3 rfl (by decide))).trans (fg_hpf (a := 68) (f := 5) (ci := 12) (sf_68_6 s3) rfl (by decide))) (fe_68_5 (sf_68_6 s3)) (by rw [fi_hpf_ne (by decide), fe_68_6 s3]; rfl)
      exact hQ _ q.1 q.2
end TOK
