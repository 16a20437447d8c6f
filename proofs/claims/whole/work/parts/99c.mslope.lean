/-! ===== reading: the reference reads a text ===== -/
def capJ (j : Nat) : Nat := if j = 2 then 7 else if j = 3 then 10 else if j = 5 then 6 else 5
def MnX (R : List Int32) : Prop := R.length = 211 ∧ ∀ j, 2 ≤ j → j ≤ 7 → ∃ c, c ≤ capJ j ∧ rg R j = nI c
section MNX
variable {xs R R' : List Int32} {n : Nat} {t t' : Tk}
theorem MnX.mn (h : MnX R) : ∃ c2 c3 c4 c5 c6 c7, Mn R c2 c3 c4 c5 c6 c7 := by
  obtain ⟨c2, b2, e2⟩ := h.2 2 (by decide) (by decide)
  obtain ⟨c3, b3, e3⟩ := h.2 3 (by decide) (by decide)
  obtain ⟨c4, b4, e4⟩ := h.2 4 (by decide) (by decide)
  obtain ⟨c5, b5, e5⟩ := h.2 5 (by decide) (by decide)
  obtain ⟨c6, b6, e6⟩ := h.2 6 (by decide) (by decide)
  obtain ⟨c7, b7, e7⟩ := h.2 7 (by decide) (by decide)
  exact ⟨c2, c3, c4, c5, c6, c7, e2, e3, e4, e5, e6, e7, b2, b3, b4, b5, b6, b7⟩
theorem mnx_zero : MnX Z211 := ⟨List.length_replicate, fun j _ _ => ⟨0, Nat.zero_le _, rgZ⟩⟩
theorem mnx_inc {i : Nat} (h : MnX R) (hl : R'.length = R.length) (hc : cn R i < capJ i) (ho : ∀ j, 2 ≤ j → j ≤ 7 → ¬ j = i → rg R' j = rg R j) (hn : rg R' i = nI (cn R i + 1)) : MnX R' := by
  refine ⟨hl.trans h.1, fun j h1 h2 => ?_⟩
  by_cases e : j = i
  · subst e; exact ⟨cn R j + 1, hc, hn⟩
  · rw [ho j h1 h2 e]; exact h.2 j h1 h2
theorem pSlope_mn (h : MnX R) (e : pSlope xs n R t = .ok (R', t')) : MnX R' := by
  unfold pSlope at e
  split at e
  · exact absurd e (by simp)
  · obtain ⟨a, _, e⟩ := eb_inv e
    obtain ⟨b, _, e⟩ := eb_inv e
    injection e with e
    injection e with e1 e2
    rw [← e1]
    refine ⟨by simp only [List.length_set]; exact h.1, fun j h1 h2 => ?_⟩
    rw [rgset (by omega), rgset (by omega), rgset (by omega)]
    exact h.2 j h1 h2
theorem pRowL_mn (h : MnX R) (hc : cn R 2 < 7) (e : pRowL xs n R t = .ok (R', t')) (hn : t.2.1 ≤ n) : MnX R' := by
  unfold pRowL at e
  obtain ⟨⟨R1, t1⟩, e1, e⟩ := eb_inv e
  have hR1 := (pNew_ok hn e1).2.1
  cases ek : pKind xs t1 with
  | none => simp only [ek] at e; exact absurd e (by simp)
  | some kd =>
    simp only [ek] at e
    obtain ⟨a, _, e⟩ := eb_inv e
    obtain ⟨b, _, e⟩ := eb_inv e
    injection e with e
    injection e with e2 e3
    have o : ∀ j, j < 148 → rg R1 j = rg R j := fun j hj => by rw [hR1]; unfold nmW; rw [rgset (by omega)]; exact nmF_old _ _ (Or.inl (by omega))
    have l1 : R1.length = R.length := by rw [hR1]; unfold nmW; rw [List.length_set, nmF_len]
    have l2 := h.1
    rw [← e2]
    refine mnx_inc (i := 2) h (by simp only [List.length_set]; exact l1) hc (fun j h1 h2 h3 => ?_) ?_
    · rw [rgset (by omega), rgset (by omega), rgset (by omega), rgset (by omega)]; exact o j (by omega)
    · exact rgset_eq (by simp only [List.length_set]; omega)
theorem pSees_mn (h : MnX R) (hc : cn R 3 < 10) (e : pSees xs n R t = .ok (R', t')) : MnX R' := by
  unfold pSees at e
  obtain ⟨a, _, e⟩ := eb_inv e
  obtain ⟨b, _, e⟩ := eb_inv e
  split at e
  · exact absurd e (by simp)
  · obtain ⟨c, _, e⟩ := eb_inv e
    injection e with e
    injection e with e1 e2
    have l2 := h.1
    rw [← e1]
    refine mnx_inc (i := 3) h (by simp only [List.length_set]) hc (fun j h1 h2 h3 => ?_) ?_
    · rw [rgset (by omega), rgset (by omega)]
    · exact rgset_eq (by simp only [List.length_set]; omega)
theorem pWall_mn (h : MnX R) (hc : cn R 4 < 5) (e : pWall xs n R t = .ok (R', t')) : MnX R' := by
  unfold pWall at e
  obtain ⟨a, _, e⟩ := eb_inv e
  obtain ⟨b, _, e⟩ := eb_inv e
  split at e
  · exact absurd e (by simp)
  · split at e
    · exact absurd e (by simp)
    · obtain ⟨c, _, e⟩ := eb_inv e
      injection e with e
      injection e with e1 e2
      have l2 := h.1
      rw [← e1]
      refine mnx_inc (i := 4) h (by simp only [List.length_set]) hc (fun j h1 h2 h3 => ?_) ?_
      · rw [rgset (by omega), rgset (by omega), rgset (by omega), rgset (by omega)]
      · exact rgset_eq (by simp only [List.length_set]; omega)
theorem pSign_mn (h : MnX R) (hc : cn R 5 < 6) (e : pSign xs n R t = .ok (R', t')) : MnX R' := by
  unfold pSign at e
  obtain ⟨a, _, e⟩ := eb_inv e
  obtain ⟨b, _, e⟩ := eb_inv e
  obtain ⟨c, _, e⟩ := eb_inv e
  obtain ⟨c', _, e⟩ := eb_inv e
  injection e with e
  injection e with e1 e2
  have l2 := h.1
  rw [← e1]
  refine mnx_inc (i := 5) h (by simp only [List.length_set]) hc (fun j h1 h2 h3 => ?_) ?_
  · rw [rgset (by omega), rgset (by omega), rgset (by omega), rgset (by omega), rgset (by omega)]
  · exact rgset_eq (by simp only [List.length_set]; omega)
theorem pRum_mn (h : MnX R) (hc : cn R 6 < 5) (e : pRum xs n R t = .ok (R', t')) : MnX R' := by
  unfold pRum at e
  obtain ⟨a, _, e⟩ := eb_inv e
  obtain ⟨b, _, e⟩ := eb_inv e
  obtain ⟨c, _, e⟩ := eb_inv e
  injection e with e
  injection e with e1 e2
  have l2 := h.1
  rw [← e1]
  refine mnx_inc (i := 6) h (by simp only [List.length_set]) hc (fun j h1 h2 h3 => ?_) ?_
  · rw [rgset (by omega), rgset (by omega), rgset (by omega), rgset (by omega)]
  · exact rgset_eq (by simp only [List.length_set]; omega)
theorem pSeen_mn {v : Int32} (h : MnX R) (hc : cn R 7 < 5) (e : pSeen xs n R v t = .ok (R', t')) : MnX R' := by
  unfold pSeen at e
  obtain ⟨a, _, e⟩ := eb_inv e
  obtain ⟨b, _, e⟩ := eb_inv e
  obtain ⟨c, _, e⟩ := eb_inv e
  split at e
  · exact absurd e (by simp)
  · injection e with e
    injection e with e1 e2
    have l2 := h.1
    rw [← e1]
    refine mnx_inc (i := 7) h (by simp only [List.length_set]) hc (fun j h1 h2 h3 => ?_) ?_
    · rw [rgset (by omega), rgset (by omega), rgset (by omega), rgset (by omega)]
    · exact rgset_eq (by simp only [List.length_set]; omega)
theorem pLine_mn (h : MnX R) (hn : t.2.1 ≤ n) (e : pLine xs n R t = .ok (R', t')) : MnX R' := by
  have bg : ∀ {b : Bool} {f : Tk → Er (List Int32 × Tk)}, (b = true → ∀ t1, t1.2.1 ≤ n → f t1 = .ok (R', t') → MnX R') → eb (pBeg xs n R b t) f = .ok (R', t') → MnX R' := fun {b} {f} hf e => by
    obtain ⟨t1, e1, e⟩ := eb_inv e
    have q := pBeg_ok hn e1
    exact hf q.2.1 t1 q.1.le.2.1 e
  unfold pLine at e
  split at e
  · exact pSlope_mn h e
  · split at e
    · exact bg (fun hb t1 h1 h2 => pRowL_mn h (of_decide_eq_true hb) h2 h1) e
    · split at e
      · exact bg (fun hb t1 h1 h2 => pSees_mn h (of_decide_eq_true hb) h2) e
      · split at e
        · exact bg (fun hb t1 h1 h2 => pWall_mn h (of_decide_eq_true hb) h2) e
        · split at e
          · exact bg (fun hb t1 h1 h2 => pSign_mn h (of_decide_eq_true hb) h2) e
          · split at e
            · exact bg (fun hb t1 h1 h2 => pRum_mn h (of_decide_eq_true hb) h2) e
            · split at e
              · exact bg (fun hb t1 h1 h2 => pSeen_mn h (of_decide_eq_true hb) h2) e
              · split at e
                · exact bg (fun hb t1 h1 h2 => pSeen_mn h (of_decide_eq_true hb) h2) e
                · exact absurd e (by simp)
end MNX
theorem mtk59 {s : Nat} (h : s < 5) : (mtk s = 59) = (s = 3) := by
  have c : s = 0 ∨ s = 1 ∨ s = 2 ∨ s = 3 ∨ s = 4 := by omega
  rcases c with rfl | rfl | rfl | rfl | rfl <;> simp [mtk]
theorem mtk0 {s : Nat} (h : s < 5) : (mtk s = 0) = (s = 0) := by
  have c : s = 0 ∨ s = 1 ∨ s = 2 ∨ s = 3 ∨ s = 4 := by omega
  rcases c with rfl | rfl | rfl | rfl | rfl <;> simp [mtk]
section MLINES
variable {scr : List Int32} {d n : Nat} {xs : List Int32} {v1 v2 : Int32} {Q : Option Value → List AC → Prop}
theorem MP.t2 {H : List AC} {t : Tk} {R : List Int32} (h : MP H xs n t R) : t.2.1 ≤ n := h.1.2.2.2.2.2.2.2.1
theorem M_lines : ∀ (k : Nat) (R : List Int32) (t : Tk) (H : List AC), n < k + (tk xs n t.2.1).1 ∨ ¬ t.2.2 = 3 → MP H xs n t R → MnX R → (∀ R' t', (if t.2.2 = 3 then pLs xs n k R (tk xs n t.2.1) else .ok (R, t)) = .ok (R', t') → ∀ H', FgL H H' → MP H' xs n t' R' → MnX R' → Wp scr (d + 10) 210 104 [some (.ref 68), some (.int v1), some (.int v2)] [] H' Q) → (∀ c p, (if t.2.2 = 3 then pLs xs n k R (tk xs n t.2.1) else .ok (R, t)) = .error (c, p) → ∀ H', FgL H H' → ML H' c p → Wp scr (d + 10) 210 104 [some (.ref 68), some (.int v1), some (.int v2)] [] H' Q) → Wp scr (d + 10) 210 77 [some (.ref 68), some (.int v1), some (.int v2)] [] H Q := by
  intro k
  induction k with
  | zero =>
    intro R t H hk hP hM hok her
    have h3 : ¬ t.2.2 = 3 := by
      rcases hk with q | q
      · have : (tk xs n t.2.1).1 ≤ n := sk_ub hP.t2
        omega
      · exact q
    have s0 := hP.shp
    have x0 := hP.2.2.2.1
    have e6 : (fi H 68 6 = 59) = False := by rw [hP.1.2.2.2.2.2.1, mtk59 hP.s5]; exact eq_false h3
    rw [if_neg h3] at hok
    rw [w210_77]
    simp (maxDischargeDepth := 12) only [w210_0, w210_1, w210_4, w210_5, w210_6, w210_7, w210_10, w210_13, w210_16, w210_17, w210_18, w210_21, w210_22, w210_23, w210_24, w210_27, w210_28, w210_29, w210_32, w210_33, w210_34, w210_37, w210_38, w210_40, w210_43, w210_46, w210_47, w210_50, w210_51, w210_52, w210_53, w210_56, w210_59, w210_60, w210_61, w210_64, w210_65, w210_66, w210_69, w210_70, w210_73, w210_74, w210_78, w210_81, w210_84, w210_85, w210_88, w210_90, w210_93, w210_94, w210_97, w210_98, w210_101, w210_105, w210_108, w210_111, w210_112, w210_115, w210_118, w210_119, w210_120, w210_121, w210_124, w210_127, w210_128, w210_131, w210_134, w210_135, w210_138, w210_140, w210_141, w210_144, w210_145, w210_148, w210_149, w210_150, w210_153, w210_154, w210_156, w210_157, w210_160, w210_164, w210_167, w210_170, w210_171, w210_172, w210_175, w210_176, w210_177, w210_180, w210_181, w210_182, w210_185, w210_186, w210_189, w210_192, w210_193, w210_195, w210_197, w210_200, w210_201, w210_204, w210_205, w210_206, w210_207, w210_210, w210_213, w210_214, w210_216, w210_217, w210_220, w210_221, w210_222, w210_225, w210_226, w210_229, w210_230, w210_231, w210_234, w210_236, w210_237, w210_238, w210_239, w210_240, w210_241, w210_242, w210_243, w210_244, w210_247, w210_250, w210_251, w210_252, w210_255, w210_256, w210_257, w210_260, w210_261, w210_262, w210_265, w210_266, w210_269, w210_270, w210_271, oK_some, cont_int, cont_intS, cont_none, cont_noneS, cont_long, cont_longS, true_and, and_true, false_and, and_false, true_implies, false_implies, not_true_eq_false, not_false_eq_true, eq_self, or_true, true_or, Option.isSome_some, hpf_length, hpa_length, bI_eq0, fi_hpa, fl_hpa, ar_hpf, fi_hpf_ne, fl_hpf_ne, ar_hpa_ne, hpa_hpa, hpf_hpf, nI_1, two_ne, fokZ, implies_true, Nat.reduceEqDiff, rc_68, g_68_2, sf_68_2, fe_68_2, g_68_9, sf_68_9, fe_68_9, g_68_13, sf_68_13, fe_68_13, g_68_16, ga_72, gn_72, sa_72, ae_72, g_68_3, sf_68_3, fe_68_3, g_68_5, sf_68_5, fe_68_5, g_68_6, sf_68_6, fe_68_6, g_68_4, sf_68_4, fe_68_4, g_68_15, ga_71, gn_71, sa_71, ae_71, g_68_17, ga_73, gn_73, sa_73, ae_73, g_68_14, sf_68_14, fe_68_14, g_68_20, sf_68_20, fe_68_20, g_68_21, sf_68_21, fe_68_21, kl_0, kl_1, kl_2, kl_3, kl_4, kl_5, kl_6, kl_7, kl_8, kl_9, kl_10, kl_11, kl_12, jb_0_10, jb_1_10, jb_2_10, jb_3_10, jb_4_10, jb_5_10, jb_6_10, jb_7_10, jb_8_10, jb_9_10, jb_0_211, jb_1_211, jb_2_211, jb_3_211, jb_4_211, jb_5_211, jb_6_211, jb_7_211, jb_8_211, jb_9_211, jb_10_211, jb_11_211, jb_12_211, s0, x0, e6]
    exact hok _ _ rfl H (Fg.rfl' s0) hP hM
  | succ k ih =>
    intro R t H hk hP hM hok her
    have s0 := hP.shp
    have x0 := hP.2.2.2.1
    have e6 : (fi H 68 6 = 59) = (t.2.2 = 3) := by rw [hP.1.2.2.2.2.2.1, mtk59 hP.s5]
    by_cases h3 : t.2.2 = 3
    · rw [if_pos h3] at hok her
      have eL : pLs xs n (k + 1) R (tk xs n t.2.1) = eb (pLine xs n R (tk xs n t.2.1)) fun q => if q.2.2.2 = 3 then pLs xs n k q.1 (tk xs n q.2.2.1) else .ok q := rfl
      rw [eL] at hok her
      have hk' := hk.resolve_right (fun q => q h3)
      rw [w210_77]
      simp (maxDischargeDepth := 12) only [w210_0, w210_1, w210_4, w210_5, w210_6, w210_7, w210_10, w210_13, w210_16, w210_17, w210_18, w210_21, w210_22, w210_23, w210_24, w210_27, w210_28, w210_29, w210_32, w210_33, w210_34, w210_37, w210_38, w210_40, w210_43, w210_46, w210_47, w210_50, w210_51, w210_52, w210_53, w210_56, w210_59, w210_60, w210_61, w210_64, w210_65, w210_66, w210_69, w210_70, w210_73, w210_74, w210_78, w210_81, w210_84, w210_85, w210_88, w210_90, w210_93, w210_94, w210_97, w210_98, w210_101, w210_105, w210_108, w210_111, w210_112, w210_115, w210_118, w210_119, w210_120, w210_121, w210_124, w210_127, w210_128, w210_131, w210_134, w210_135, w210_138, w210_140, w210_141, w210_144, w210_145, w210_148, w210_149, w210_150, w210_153, w210_154, w210_156, w210_157, w210_160, w210_164, w210_167, w210_170, w210_171, w210_172, w210_175, w210_176, w210_177, w210_180, w210_181, w210_182, w210_185, w210_186, w210_189, w210_192, w210_193, w210_195, w210_197, w210_200, w210_201, w210_204, w210_205, w210_206, w210_207, w210_210, w210_213, w210_214, w210_216, w210_217, w210_220, w210_221, w210_222, w210_225, w210_226, w210_229, w210_230, w210_231, w210_234, w210_236, w210_237, w210_238, w210_239, w210_240, w210_241, w210_242, w210_243, w210_244, w210_247, w210_250, w210_251, w210_252, w210_255, w210_256, w210_257, w210_260, w210_261, w210_262, w210_265, w210_266, w210_269, w210_270, w210_271, oK_some, cont_int, cont_intS, cont_none, cont_noneS, cont_long, cont_longS, true_and, and_true, false_and, and_false, true_implies, false_implies, not_true_eq_false, not_false_eq_true, eq_self, or_true, true_or, Option.isSome_some, hpf_length, hpa_length, bI_eq0, fi_hpa, fl_hpa, ar_hpf, fi_hpf_ne, fl_hpf_ne, ar_hpa_ne, hpa_hpa, hpf_hpf, nI_1, two_ne, fokZ, implies_true, Nat.reduceEqDiff, rc_68, g_68_2, sf_68_2, fe_68_2, g_68_9, sf_68_9, fe_68_9, g_68_13, sf_68_13, fe_68_13, g_68_16, ga_72, gn_72, sa_72, ae_72, g_68_3, sf_68_3, fe_68_3, g_68_5, sf_68_5, fe_68_5, g_68_6, sf_68_6, fe_68_6, g_68_4, sf_68_4, fe_68_4, g_68_15, ga_71, gn_71, sa_71, ae_71, g_68_17, ga_73, gn_73, sa_73, ae_73, g_68_14, sf_68_14, fe_68_14, g_68_20, sf_68_20, fe_68_20, g_68_21, sf_68_21, fe_68_21, kl_0, kl_1, kl_2, kl_3, kl_4, kl_5, kl_6, kl_7, kl_8, kl_9, kl_10, kl_11, kl_12, jb_0_10, jb_1_10, jb_2_10, jb_3_10, jb_4_10, jb_5_10, jb_6_10, jb_7_10, jb_8_10, jb_9_10, jb_0_211, jb_1_211, jb_2_211, jb_3_211, jb_4_211, jb_5_211, jb_6_211, jb_7_211, jb_8_211, jb_9_211, jb_10_211, jb_11_211, jb_12_211, s0, x0, e6, h3]
      refine M_nx (d := d + 8) hP (fun H1 hF1 hP1 => ?_)
      have s1 := hF1.shp
      obtain ⟨c2, c3, c4, c5, c6, c7, hMn⟩ := hM.mn
      simp (maxDischargeDepth := 12) only [w210_0, w210_1, w210_4, w210_5, w210_6, w210_7, w210_10, w210_13, w210_16, w210_17, w210_18, w210_21, w210_22, w210_23, w210_24, w210_27, w210_28, w210_29, w210_32, w210_33, w210_34, w210_37, w210_38, w210_40, w210_43, w210_46, w210_47, w210_50, w210_51, w210_52, w210_53, w210_56, w210_59, w210_60, w210_61, w210_64, w210_65, w210_66, w210_69, w210_70, w210_73, w210_74, w210_78, w210_81, w210_84, w210_85, w210_88, w210_90, w210_93, w210_94, w210_97, w210_98, w210_101, w210_105, w210_108, w210_111, w210_112, w210_115, w210_118, w210_119, w210_120, w210_121, w210_124, w210_127, w210_128, w210_131, w210_134, w210_135, w210_138, w210_140, w210_141, w210_144, w210_145, w210_148, w210_149, w210_150, w210_153, w210_154, w210_156, w210_157, w210_160, w210_164, w210_167, w210_170, w210_171, w210_172, w210_175, w210_176, w210_177, w210_180, w210_181, w210_182, w210_185, w210_186, w210_189, w210_192, w210_193, w210_195, w210_197, w210_200, w210_201, w210_204, w210_205, w210_206, w210_207, w210_210, w210_213, w210_214, w210_216, w210_217, w210_220, w210_221, w210_222, w210_225, w210_226, w210_229, w210_230, w210_231, w210_234, w210_236, w210_237, w210_238, w210_239, w210_240, w210_241, w210_242, w210_243, w210_244, w210_247, w210_250, w210_251, w210_252, w210_255, w210_256, w210_257, w210_260, w210_261, w210_262, w210_265, w210_266, w210_269, w210_270, w210_271, oK_some, cont_int, cont_intS, cont_none, cont_noneS, cont_long, cont_longS, true_and, and_true, false_and, and_false, true_implies, false_implies, not_true_eq_false, not_false_eq_true, eq_self, or_true, true_or, Option.isSome_some, hpf_length, hpa_length, bI_eq0, fi_hpa, fl_hpa, ar_hpf, fi_hpf_ne, fl_hpf_ne, ar_hpa_ne, hpa_hpa, hpf_hpf, nI_1, two_ne, fokZ, implies_true, Nat.reduceEqDiff, rc_68, g_68_2, sf_68_2, fe_68_2, g_68_9, sf_68_9, fe_68_9, g_68_13, sf_68_13, fe_68_13, g_68_16, ga_72, gn_72, sa_72, ae_72, g_68_3, sf_68_3, fe_68_3, g_68_5, sf_68_5, fe_68_5, g_68_6, sf_68_6, fe_68_6, g_68_4, sf_68_4, fe_68_4, g_68_15, ga_71, gn_71, sa_71, ae_71, g_68_17, ga_73, gn_73, sa_73, ae_73, g_68_14, sf_68_14, fe_68_14, g_68_20, sf_68_20, fe_68_20, g_68_21, sf_68_21, fe_68_21, kl_0, kl_1, kl_2, kl_3, kl_4, kl_5, kl_6, kl_7, kl_8, kl_9, kl_10, kl_11, kl_12, jb_0_10, jb_1_10, jb_2_10, jb_3_10, jb_4_10, jb_5_10, jb_6_10, jb_7_10, jb_8_10, jb_9_10, jb_0_211, jb_1_211, jb_2_211, jb_3_211, jb_4_211, jb_5_211, jb_6_211, jb_7_211, jb_8_211, jb_9_211, jb_10_211, jb_11_211, jb_12_211, hF1.len, s1]
      refine M_readLine (d := d) hP1 hMn (fun R' t' e H2 hF2 hP2 => ?_) (fun c p e H2 hF2 hL2 => ?_)
      · have s2 := hF2.shp
        rw [e, eb_ok] at hok her
        simp (maxDischargeDepth := 12) only [w210_0, w210_1, w210_4, w210_5, w210_6, w210_7, w210_10, w210_13, w210_16, w210_17, w210_18, w210_21, w210_22, w210_23, w210_24, w210_27, w210_28, w210_29, w210_32, w210_33, w210_34, w210_37, w210_38, w210_40, w210_43, w210_46, w210_47, w210_50, w210_51, w210_52, w210_53, w210_56, w210_59, w210_60, w210_61, w210_64, w210_65, w210_66, w210_69, w210_70, w210_73, w210_74, w210_78, w210_81, w210_84, w210_85, w210_88, w210_90, w210_93, w210_94, w210_97, w210_98, w210_101, w210_105, w210_108, w210_111, w210_112, w210_115, w210_118, w210_119, w210_120, w210_121, w210_124, w210_127, w210_128, w210_131, w210_134, w210_135, w210_138, w210_140, w210_141, w210_144, w210_145, w210_148, w210_149, w210_150, w210_153, w210_154, w210_156, w210_157, w210_160, w210_164, w210_167, w210_170, w210_171, w210_172, w210_175, w210_176, w210_177, w210_180, w210_181, w210_182, w210_185, w210_186, w210_189, w210_192, w210_193, w210_195, w210_197, w210_200, w210_201, w210_204, w210_205, w210_206, w210_207, w210_210, w210_213, w210_214, w210_216, w210_217, w210_220, w210_221, w210_222, w210_225, w210_226, w210_229, w210_230, w210_231, w210_234, w210_236, w210_237, w210_238, w210_239, w210_240, w210_241, w210_242, w210_243, w210_244, w210_247, w210_250, w210_251, w210_252, w210_255, w210_256, w210_257, w210_260, w210_261, w210_262, w210_265, w210_266, w210_269, w210_270, w210_271, oK_some, cont_int, cont_intS, cont_none, cont_noneS, cont_long, cont_longS, true_and, and_true, false_and, and_false, true_implies, false_implies, not_true_eq_false, not_false_eq_true, eq_self, or_true, true_or, Option.isSome_some, hpf_length, hpa_length, bI_eq0, fi_hpa, fl_hpa, ar_hpf, fi_hpf_ne, fl_hpf_ne, ar_hpa_ne, hpa_hpa, hpf_hpf, nI_1, two_ne, fokZ, implies_true, Nat.reduceEqDiff, rc_68, g_68_2, sf_68_2, fe_68_2, g_68_9, sf_68_9, fe_68_9, g_68_13, sf_68_13, fe_68_13, g_68_16, ga_72, gn_72, sa_72, ae_72, g_68_3, sf_68_3, fe_68_3, g_68_5, sf_68_5, fe_68_5, g_68_6, sf_68_6, fe_68_6, g_68_4, sf_68_4, fe_68_4, g_68_15, ga_71, gn_71, sa_71, ae_71, g_68_17, ga_73, gn_73, sa_73, ae_73, g_68_14, sf_68_14, fe_68_14, g_68_20, sf_68_20, fe_68_20, g_68_21, sf_68_21, fe_68_21, kl_0, kl_1, kl_2, kl_3, kl_4, kl_5, kl_6, kl_7, kl_8, kl_9, kl_10, kl_11, kl_12, jb_0_10, jb_1_10, jb_2_10, jb_3_10, jb_4_10, jb_5_10, jb_6_10, jb_7_10, jb_8_10, jb_9_10, jb_0_211, jb_1_211, jb_2_211, jb_3_211, jb_4_211, jb_5_211, jb_6_211, jb_7_211, jb_8_211, jb_9_211, jb_10_211, jb_11_211, jb_12_211, hF2.len, s2]
        refine ih R' t' H2 ?_ hP2 (pLine_mn hM hP1.t2 e) (fun R2 t2 e2 H' hF => hok R2 t2 e2 H' ((hF1.l.trans hF2).trans hF)) (fun c p e2 H' hF => her c p e2 H' ((hF1.l.trans hF2).trans hF))
        by_cases z : t'.2.2 = 3
        · have := ls_step hP1.t2 e z
          have := hP1.le
          left; omega
        · exact Or.inr z
      · have s2 := hF2.shp
        rw [e, eb_er] at her
        have y2 := hL2.2.1
        simp (maxDischargeDepth := 12) only [w210_0, w210_1, w210_4, w210_5, w210_6, w210_7, w210_10, w210_13, w210_16, w210_17, w210_18, w210_21, w210_22, w210_23, w210_24, w210_27, w210_28, w210_29, w210_32, w210_33, w210_34, w210_37, w210_38, w210_40, w210_43, w210_46, w210_47, w210_50, w210_51, w210_52, w210_53, w210_56, w210_59, w210_60, w210_61, w210_64, w210_65, w210_66, w210_69, w210_70, w210_73, w210_74, w210_78, w210_81, w210_84, w210_85, w210_88, w210_90, w210_93, w210_94, w210_97, w210_98, w210_101, w210_105, w210_108, w210_111, w210_112, w210_115, w210_118, w210_119, w210_120, w210_121, w210_124, w210_127, w210_128, w210_131, w210_134, w210_135, w210_138, w210_140, w210_141, w210_144, w210_145, w210_148, w210_149, w210_150, w210_153, w210_154, w210_156, w210_157, w210_160, w210_164, w210_167, w210_170, w210_171, w210_172, w210_175, w210_176, w210_177, w210_180, w210_181, w210_182, w210_185, w210_186, w210_189, w210_192, w210_193, w210_195, w210_197, w210_200, w210_201, w210_204, w210_205, w210_206, w210_207, w210_210, w210_213, w210_214, w210_216, w210_217, w210_220, w210_221, w210_222, w210_225, w210_226, w210_229, w210_230, w210_231, w210_234, w210_236, w210_237, w210_238, w210_239, w210_240, w210_241, w210_242, w210_243, w210_244, w210_247, w210_250, w210_251, w210_252, w210_255, w210_256, w210_257, w210_260, w210_261, w210_262, w210_265, w210_266, w210_269, w210_270, w210_271, oK_some, cont_int, cont_intS, cont_none, cont_noneS, cont_long, cont_longS, true_and, and_true, false_and, and_false, true_implies, false_implies, not_true_eq_false, not_false_eq_true, eq_self, or_true, true_or, Option.isSome_some, hpf_length, hpa_length, bI_eq0, fi_hpa, fl_hpa, ar_hpf, fi_hpf_ne, fl_hpf_ne, ar_hpa_ne, hpa_hpa, hpf_hpf, nI_1, two_ne, fokZ, implies_true, Nat.reduceEqDiff, rc_68, g_68_2, sf_68_2, fe_68_2, g_68_9, sf_68_9, fe_68_9, g_68_13, sf_68_13, fe_68_13, g_68_16, ga_72, gn_72, sa_72, ae_72, g_68_3, sf_68_3, fe_68_3, g_68_5, sf_68_5, fe_68_5, g_68_6, sf_68_6, fe_68_6, g_68_4, sf_68_4, fe_68_4, g_68_15, ga_71, gn_71, sa_71, ae_71, g_68_17, ga_73, gn_73, sa_73, ae_73, g_68_14, sf_68_14, fe_68_14, g_68_20, sf_68_20, fe_68_20, g_68_21, sf_68_21, fe_68_21, kl_0, kl_1, kl_2, kl_3, kl_4, kl_5, kl_6, kl_7, kl_8, kl_9, kl_10, kl_11, kl_12, jb_0_10, jb_1_10, jb_2_10, jb_3_10, jb_4_10, jb_5_10, jb_6_10, jb_7_10, jb_8_10, jb_9_10, jb_0_211, jb_1_211, jb_2_211, jb_3_211, jb_4_211, jb_5_211, jb_6_211, jb_7_211, jb_8_211, jb_9_211, jb_10_211, jb_11_211, jb_12_211, hF2.len, s2]
        rw [w210_77]
        simp (maxDischargeDepth := 12) only [w210_0, w210_1, w210_4, w210_5, w210_6, w210_7, w210_10, w210_13, w210_16, w210_17, w210_18, w210_21, w210_22, w210_23, w210_24, w210_27, w210_28, w210_29, w210_32, w210_33, w210_34, w210_37, w210_38, w210_40, w210_43, w210_46, w210_47, w210_50, w210_51, w210_52, w210_53, w210_56, w210_59, w210_60, w210_61, w210_64, w210_65, w210_66, w210_69, w210_70, w210_73, w210_74, w210_78, w210_81, w210_84, w210_85, w210_88, w210_90, w210_93, w210_94, w210_97, w210_98, w210_101, w210_105, w210_108, w210_111, w210_112, w210_115, w210_118, w210_119, w210_120, w210_121, w210_124, w210_127, w210_128, w210_131, w210_134, w210_135, w210_138, w210_140, w210_141, w210_144, w210_145, w210_148, w210_149, w210_150, w210_153, w210_154, w210_156, w210_157, w210_160, w210_164, w210_167, w210_170, w210_171, w210_172, w210_175, w210_176, w210_177, w210_180, w210_181, w210_182, w210_185, w210_186, w210_189, w210_192, w210_193, w210_195, w210_197, w210_200, w210_201, w210_204, w210_205, w210_206, w210_207, w210_210, w210_213, w210_214, w210_216, w210_217, w210_220, w210_221, w210_222, w210_225, w210_226, w210_229, w210_230, w210_231, w210_234, w210_236, w210_237, w210_238, w210_239, w210_240, w210_241, w210_242, w210_243, w210_244, w210_247, w210_250, w210_251, w210_252, w210_255, w210_256, w210_257, w210_260, w210_261, w210_262, w210_265, w210_266, w210_269, w210_270, w210_271, oK_some, cont_int, cont_intS, cont_none, cont_noneS, cont_long, cont_longS, true_and, and_true, false_and, and_false, true_implies, false_implies, not_true_eq_false, not_false_eq_true, eq_self, or_true, true_or, Option.isSome_some, hpf_length, hpa_length, bI_eq0, fi_hpa, fl_hpa, ar_hpf, fi_hpf_ne, fl_hpf_ne, ar_hpa_ne, hpa_hpa, hpf_hpf, nI_1, two_ne, fokZ, implies_true, Nat.reduceEqDiff, rc_68, g_68_2, sf_68_2, fe_68_2, g_68_9, sf_68_9, fe_68_9, g_68_13, sf_68_13, fe_68_13, g_68_16, ga_72, gn_72, sa_72, ae_72, g_68_3, sf_68_3, fe_68_3, g_68_5, sf_68_5, fe_68_5, g_68_6, sf_68_6, fe_68_6, g_68_4, sf_68_4, fe_68_4, g_68_15, ga_71, gn_71, sa_71, ae_71, g_68_17, ga_73, gn_73, sa_73, ae_73, g_68_14, sf_68_14, fe_68_14, g_68_20, sf_68_20, fe_68_20, g_68_21, sf_68_21, fe_68_21, kl_0, kl_1, kl_2, kl_3, kl_4, kl_5, kl_6, kl_7, kl_8, kl_9, kl_10, kl_11, kl_12, jb_0_10, jb_1_10, jb_2_10, jb_3_10, jb_4_10, jb_5_10, jb_6_10, jb_7_10, jb_8_10, jb_9_10, jb_0_211, jb_1_211, jb_2_211, jb_3_211, jb_4_211, jb_5_211, jb_6_211, jb_7_211, jb_8_211, jb_9_211, jb_10_211, jb_11_211, jb_12_211, s2, y2, show ((1 : Int32) = 0) = False from eq_false (by decide)]
        exact her _ _ rfl H2 (hF1.l.trans hF2) hL2
    · rw [if_neg h3] at hok
      rw [w210_77]
      simp (maxDischargeDepth := 12) only [w210_0, w210_1, w210_4, w210_5, w210_6, w210_7, w210_10, w210_13, w210_16, w210_17, w210_18, w210_21, w210_22, w210_23, w210_24, w210_27, w210_28, w210_29, w210_32, w210_33, w210_34, w210_37, w210_38, w210_40, w210_43, w210_46, w210_47, w210_50, w210_51, w210_52, w210_53, w210_56, w210_59, w210_60, w210_61, w210_64, w210_65, w210_66, w210_69, w210_70, w210_73, w210_74, w210_78, w210_81, w210_84, w210_85, w210_88, w210_90, w210_93, w210_94, w210_97, w210_98, w210_101, w210_105, w210_108, w210_111, w210_112, w210_115, w210_118, w210_119, w210_120, w210_121, w210_124, w210_127, w210_128, w210_131, w210_134, w210_135, w210_138, w210_140, w210_141, w210_144, w210_145, w210_148, w210_149, w210_150, w210_153, w210_154, w210_156, w210_157, w210_160, w210_164, w210_167, w210_170, w210_171, w210_172, w210_175, w210_176, w210_177, w210_180, w210_181, w210_182, w210_185, w210_186, w210_189, w210_192, w210_193, w210_195, w210_197, w210_200, w210_201, w210_204, w210_205, w210_206, w210_207, w210_210, w210_213, w210_214, w210_216, w210_217, w210_220, w210_221, w210_222, w210_225, w210_226, w210_229, w210_230, w210_231, w210_234, w210_236, w210_237, w210_238, w210_239, w210_240, w210_241, w210_242, w210_243, w210_244, w210_247, w210_250, w210_251, w210_252, w210_255, w210_256, w210_257, w210_260, w210_261, w210_262, w210_265, w210_266, w210_269, w210_270, w210_271, oK_some, cont_int, cont_intS, cont_none, cont_noneS, cont_long, cont_longS, true_and, and_true, false_and, and_false, true_implies, false_implies, not_true_eq_false, not_false_eq_true, eq_self, or_true, true_or, Option.isSome_some, hpf_length, hpa_length, bI_eq0, fi_hpa, fl_hpa, ar_hpf, fi_hpf_ne, fl_hpf_ne, ar_hpa_ne, hpa_hpa, hpf_hpf, nI_1, two_ne, fokZ, implies_true, Nat.reduceEqDiff, rc_68, g_68_2, sf_68_2, fe_68_2, g_68_9, sf_68_9, fe_68_9, g_68_13, sf_68_13, fe_68_13, g_68_16, ga_72, gn_72, sa_72, ae_72, g_68_3, sf_68_3, fe_68_3, g_68_5, sf_68_5, fe_68_5, g_68_6, sf_68_6, fe_68_6, g_68_4, sf_68_4, fe_68_4, g_68_15, ga_71, gn_71, sa_71, ae_71, g_68_17, ga_73, gn_73, sa_73, ae_73, g_68_14, sf_68_14, fe_68_14, g_68_20, sf_68_20, fe_68_20, g_68_21, sf_68_21, fe_68_21, kl_0, kl_1, kl_2, kl_3, kl_4, kl_5, kl_6, kl_7, kl_8, kl_9, kl_10, kl_11, kl_12, jb_0_10, jb_1_10, jb_2_10, jb_3_10, jb_4_10, jb_5_10, jb_6_10, jb_7_10, jb_8_10, jb_9_10, jb_0_211, jb_1_211, jb_2_211, jb_3_211, jb_4_211, jb_5_211, jb_6_211, jb_7_211, jb_8_211, jb_9_211, jb_10_211, jb_11_211, jb_12_211, s0, x0, e6, h3]
      exact hok _ _ rfl H (Fg.rfl' s0) hP hM
end MLINES
