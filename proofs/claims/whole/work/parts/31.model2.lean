/-! ===== the Model: a day ===== -/
section MODEL2
variable {scr : List Int32} {d n nW nG nU w k : Nat} {H : List AC} {ws : List Int32} {Q : Option Value → List AC → Prop}
def tF1 (R : List Int32) (ws : List Int32) (k : Nat) (g : Nat) (acc : Int32) : Int32 := acc + (if hb (ws.getD 7 0) (nI g) = true ∧ rg R (94 + 4 * g) = nI k ∧ rg R (94 + 4 * g + 3) = ws.getD 9 0 then rg R (94 + 4 * g + 1) else 0)
def wgM (t kind : Int32) : Int32 := if kind = 2 then 2 * t else if kind = 1 then t / 2 else t
def tF2 (R : List Int32) (rum : Int32) (ws : List Int32) (k : Nat) (u : Nat) (acc : Int32) : Int32 := if hb (rum) (nI u) = true ∧ rg R (118 + 3 * u) = nI k ∧ rg R (118 + 3 * u + 2) = ws.getD 9 0 then acc - wgM (rg R (118 + 3 * u + 1)) (rg R (9 + 3 * k)) else acc
def tldM (R : List Int32) (rum : Int32) (ws : List Int32) (nG nU k : Nat) : Int32 := if rg R (9 + 3 * k) = 3 then 0 else forN (tF2 R rum ws k) nU (forN (tF1 R ws k) nG 0)
theorem m_toldTo (hS : Shp H) (hw : garr H w = some ws) (hl : ws.length = 10) (hk : k < 7) (hG : rg (ar H 71) 5 = nI nG) (bG : nG ≤ 6) (hU : rg (ar H 71) 6 = nI nU) (bU : nU ≤ 5) : Wp scr (d + 1) 227 0 [some (.ref 68), some (.ref w), some (.int (nI k)), none, none, none] [] H Q ↔ Q (some (.int (tldM (ar H 71) (fi H 68 22) ws nG nU k))) H := by
  refine Wp_iff ?_
  generalize hQ : (fun (r : Option Value) (H' : List AC) => r = some (.int (tldM (ar H 71) (fi H 68 22) ws nG nU k)) ∧ H' = H) = Q1
  have hG' : (ar H 71).getD 5 0 = nI nG := hG
  have hU' : (ar H 71).getD 6 0 = nI nU := hU
  have rgd : ∀ j, (ar H 71).getD j 0 = rg (ar H 71) j := fun _ => rfl
  simp only [w227_0, w227_1, w227_2, w227_3]
  -- the second loop
  have key2 : ∀ a0 : Int32, a0 = forN (tF1 (ar H 71) ws k) nG 0 → Wp scr (d + 1) 227 95 [some (.ref 68), some (.ref w), some (.int (nI k)), some (.int a0), some (.int 0), none] [] H Q1 := by
    intro a0 ha0
    have key := down (P := fun i => ∀ o5 : Option Value, Wp scr (d + 1) 227 95 [some (.ref 68), some (.ref w), some (.int (nI k)), some (.int (forN (tF2 (ar H 71) (fi H 68 22) ws k) i a0)), some (.int (nI i)), o5] [] H Q1) nU ?_ ?_
    · have := key none
      simpa [nI_0, forN] using this
    · intro o5
      rw [w227_95]
      simp only [w227_0, w227_1, w227_2, w227_3, w227_7, w227_8, w227_11, w227_12, w227_13, w227_16, w227_17, w227_18, w227_20, w227_21, w227_23, w227_26, w227_29, w227_30, w227_33, w227_35, w227_36, w227_38, w227_39, w227_40, w227_41, w227_42, w227_45, w227_46, w227_49, w227_51, w227_52, w227_54, w227_55, w227_56, w227_57, w227_58, w227_59, w227_60, w227_62, w227_63, w227_66, w227_67, w227_70, w227_72, w227_73, w227_75, w227_76, w227_77, w227_78, w227_79, w227_80, w227_83, w227_84, w227_85, w227_86, w227_89, w227_92, w227_93, w227_97, w227_98, w227_101, w227_103, w227_104, w227_107, w227_108, w227_111, w227_113, w227_116, w227_119, w227_120, w227_123, w227_125, w227_126, w227_128, w227_129, w227_130, w227_131, w227_132, w227_135, w227_136, w227_139, w227_141, w227_142, w227_144, w227_145, w227_146, w227_147, w227_148, w227_149, w227_150, w227_152, w227_153, w227_156, w227_159, w227_160, w227_163, w227_165, w227_166, w227_168, w227_169, w227_170, w227_171, w227_172, w227_173, w227_175, w227_176, w227_177, w227_178, w227_181, w227_182, w227_185, w227_186, w227_188, w227_189, w227_192, w227_193, w227_194, w227_197, w227_198, w227_201, w227_203, w227_204, w227_205, w227_208, w227_210, w227_211, w227_212, w227_215, w227_218, w227_219, w227_220, w227_223, w227_224, w227_227, w227_228, w227_231, w227_232, g_68_15 hS, ga_71 hS, oK_some, gn_71 hS, ib_6_211, cl_6, hU', true_and, nI_les, true_implies, not_true_eq_false, false_implies, and_true, rc_68 hS, m_kindOf hS (by omega : k < 60), cont_int]
      rw [← hQ]
      unfold tldM
      rw [← ha0]
      by_cases h3 : rg (ar H 71) (9 + 3 * k) = 3
      · simp [h3]
      · simp [h3]
    · intro i hi hw' o5
      simp only [forN] at hw'
      generalize forN (tF2 (ar H 71) (fi H 68 22) ws k) i a0 = acc at hw' ⊢
      rw [w227_95]
      simp only [w227_0, w227_1, w227_2, w227_3, w227_7, w227_8, w227_11, w227_12, w227_13, w227_16, w227_17, w227_18, w227_20, w227_21, w227_23, w227_26, w227_29, w227_30, w227_33, w227_35, w227_36, w227_38, w227_39, w227_40, w227_41, w227_42, w227_45, w227_46, w227_49, w227_51, w227_52, w227_54, w227_55, w227_56, w227_57, w227_58, w227_59, w227_60, w227_62, w227_63, w227_66, w227_67, w227_70, w227_72, w227_73, w227_75, w227_76, w227_77, w227_78, w227_79, w227_80, w227_83, w227_84, w227_85, w227_86, w227_89, w227_92, w227_93, w227_97, w227_98, w227_101, w227_103, w227_104, w227_107, w227_108, w227_111, w227_113, w227_116, w227_119, w227_120, w227_123, w227_125, w227_126, w227_128, w227_129, w227_130, w227_131, w227_132, w227_135, w227_136, w227_139, w227_141, w227_142, w227_144, w227_145, w227_146, w227_147, w227_148, w227_149, w227_150, w227_152, w227_153, w227_156, w227_159, w227_160, w227_163, w227_165, w227_166, w227_168, w227_169, w227_170, w227_171, w227_172, w227_173, w227_175, w227_176, w227_177, w227_178, w227_181, w227_182, w227_185, w227_186, w227_188, w227_189, w227_192, w227_193, w227_194, w227_197, w227_198, w227_201, w227_203, w227_204, w227_205, w227_208, w227_210, w227_211, w227_212, w227_215, w227_218, w227_219, w227_220, w227_223, w227_224, w227_227, w227_228, w227_231, w227_232, g_68_15 hS, g_68_22 hS, ga_71 hS, oK_some, gn_71 hS, hw, hl, ib_6_211, cl_6, ib_9_10, cl_9, hU', true_and, nI_lef hi (by omega : nU < 2147483648), true_implies, not_false_eq_true, false_implies, m_hasBit, cont_intS, bI_eq0, ixm 118 3 i (v := 118) (w := 3) rfl rfl, ixa (118 + 3 * i) 1 (v := 1) rfl, ixa (118 + 3 * i) 2 (v := 2) rfl, inb_nI (i := 118 + 3 * i) (by omega), inb_nI (i := 118 + 3 * i + 1) (by omega), inb_nI (i := 118 + 3 * i + 2) (by omega), decide_eq_true (by omega : 118 + 3 * i < 211), decide_eq_true (by omega : 118 + 3 * i + 1 < 211), decide_eq_true (by omega : 118 + 3 * i + 2 < 211), nI_clamp (n := 118 + 3 * i) (by omega), nI_clamp (n := 118 + 3 * i + 1) (by omega), nI_clamp (n := 118 + 3 * i + 2) (by omega), nI_1, rc_68 hS, m_kindOf hS (by omega : k < 60), cont_int, two_ne, rgd]
      unfold tF2 at hw'
      by_cases h0 : hb (fi H 68 22) (nI i) = true
      · by_cases h1 : rg (ar H 71) (118 + 3 * i) = nI k
        · by_cases h2 : rg (ar H 71) (118 + 3 * i + 2) = ws.getD 9 0
          · rw [if_pos ⟨h0, h1, h2⟩] at hw'
            simp only [eq_true h0, eq_true h1, eq_true h2, h0, Bool.true_eq_false, not_true_eq_false, false_implies, not_false_eq_true, true_implies, true_and, and_true]
            have hw' := hw' (some (.int (rg (ar H 71) (118 + 3 * i + 1))))
            unfold wgM at hw'
            by_cases k2 : rg (ar H 71) (9 + 3 * k) = 2
            · rw [if_pos k2] at hw'
              simp only [eq_true k2, not_true_eq_false, false_implies, not_false_eq_true, true_implies, true_and, and_true]
              exact hw'
            · by_cases k1 : rg (ar H 71) (9 + 3 * k) = 1
              · rw [if_neg k2, if_pos k1] at hw'
                simp only [k2, eq_true k1, not_true_eq_false, false_implies, not_false_eq_true, true_implies, true_and, and_true]
                exact hw'
              · rw [if_neg k2, if_neg k1] at hw'
                simp only [k2, k1, not_true_eq_false, false_implies, not_false_eq_true, true_implies, true_and, and_true]
                exact hw'
          · rw [if_neg (fun q => h2 q.2.2)] at hw'
            simp only [h0, eq_true h1, h2, Bool.true_eq_false, not_true_eq_false, false_implies, not_false_eq_true, true_implies, true_and, and_true]
            exact hw' _
        · rw [if_neg (fun q => h1 q.2.1)] at hw'
          simp only [h0, h1, Bool.true_eq_false, not_true_eq_false, false_implies, not_false_eq_true, true_implies, true_and, and_true]
          exact hw' _
      · rw [if_neg (fun q => h0 q.1)] at hw'
        have h0' : hb (fi H 68 22) (nI i) = false := by simpa using h0
        simp only [h0', eq_self, not_true_eq_false, false_implies, not_false_eq_true, true_implies, true_and, and_true]
        exact hw' _
  have key := down (P := fun i => Wp scr (d + 1) 227 5 [some (.ref 68), some (.ref w), some (.int (nI k)), some (.int (forN (tF1 (ar H 71) ws k) i 0)), some (.int (nI i)), none] [] H Q1) nG ?_ ?_
  · simpa [nI_0, forN] using key
  · rw [w227_5]
    simp only [w227_0, w227_1, w227_2, w227_3, w227_7, w227_8, w227_11, w227_12, w227_13, w227_16, w227_17, w227_18, w227_20, w227_21, w227_23, w227_26, w227_29, w227_30, w227_33, w227_35, w227_36, w227_38, w227_39, w227_40, w227_41, w227_42, w227_45, w227_46, w227_49, w227_51, w227_52, w227_54, w227_55, w227_56, w227_57, w227_58, w227_59, w227_60, w227_62, w227_63, w227_66, w227_67, w227_70, w227_72, w227_73, w227_75, w227_76, w227_77, w227_78, w227_79, w227_80, w227_83, w227_84, w227_85, w227_86, w227_89, w227_92, w227_93, w227_97, w227_98, w227_101, w227_103, w227_104, w227_107, w227_108, w227_111, w227_113, w227_116, w227_119, w227_120, w227_123, w227_125, w227_126, w227_128, w227_129, w227_130, w227_131, w227_132, w227_135, w227_136, w227_139, w227_141, w227_142, w227_144, w227_145, w227_146, w227_147, w227_148, w227_149, w227_150, w227_152, w227_153, w227_156, w227_159, w227_160, w227_163, w227_165, w227_166, w227_168, w227_169, w227_170, w227_171, w227_172, w227_173, w227_175, w227_176, w227_177, w227_178, w227_181, w227_182, w227_185, w227_186, w227_188, w227_189, w227_192, w227_193, w227_194, w227_197, w227_198, w227_201, w227_203, w227_204, w227_205, w227_208, w227_210, w227_211, w227_212, w227_215, w227_218, w227_219, w227_220, w227_223, w227_224, w227_227, w227_228, w227_231, w227_232, g_68_15 hS, ga_71 hS, oK_some, gn_71 hS, ib_5_211, cl_5, hG', true_and, nI_les, true_implies, not_true_eq_false, false_implies, and_true]
    exact key2 _ rfl
  · intro i hi hw'
    simp only [forN] at hw'
    generalize forN (tF1 (ar H 71) ws k) i 0 = acc at hw' ⊢
    rw [w227_5]
    simp only [w227_0, w227_1, w227_2, w227_3, w227_7, w227_8, w227_11, w227_12, w227_13, w227_16, w227_17, w227_18, w227_20, w227_21, w227_23, w227_26, w227_29, w227_30, w227_33, w227_35, w227_36, w227_38, w227_39, w227_40, w227_41, w227_42, w227_45, w227_46, w227_49, w227_51, w227_52, w227_54, w227_55, w227_56, w227_57, w227_58, w227_59, w227_60, w227_62, w227_63, w227_66, w227_67, w227_70, w227_72, w227_73, w227_75, w227_76, w227_77, w227_78, w227_79, w227_80, w227_83, w227_84, w227_85, w227_86, w227_89, w227_92, w227_93, w227_97, w227_98, w227_101, w227_103, w227_104, w227_107, w227_108, w227_111, w227_113, w227_116, w227_119, w227_120, w227_123, w227_125, w227_126, w227_128, w227_129, w227_130, w227_131, w227_132, w227_135, w227_136, w227_139, w227_141, w227_142, w227_144, w227_145, w227_146, w227_147, w227_148, w227_149, w227_150, w227_152, w227_153, w227_156, w227_159, w227_160, w227_163, w227_165, w227_166, w227_168, w227_169, w227_170, w227_171, w227_172, w227_173, w227_175, w227_176, w227_177, w227_178, w227_181, w227_182, w227_185, w227_186, w227_188, w227_189, w227_192, w227_193, w227_194, w227_197, w227_198, w227_201, w227_203, w227_204, w227_205, w227_208, w227_210, w227_211, w227_212, w227_215, w227_218, w227_219, w227_220, w227_223, w227_224, w227_227, w227_228, w227_231, w227_232, g_68_15 hS, ga_71 hS, oK_some, gn_71 hS, hw, hl, ib_5_211, cl_5, ib_7_10, cl_7, ib_9_10, cl_9, hG', true_and, nI_lef hi (by omega : nG < 2147483648), true_implies, not_false_eq_true, false_implies, m_hasBit, cont_intS, bI_eq0, ixm 94 4 i (v := 94) (w := 4) rfl rfl, ixa (94 + 4 * i) 1 (v := 1) rfl, ixa (94 + 4 * i) 3 (v := 3) rfl, inb_nI (i := 94 + 4 * i) (by omega), inb_nI (i := 94 + 4 * i + 1) (by omega), inb_nI (i := 94 + 4 * i + 3) (by omega), decide_eq_true (by omega : 94 + 4 * i < 211), decide_eq_true (by omega : 94 + 4 * i + 1 < 211), decide_eq_true (by omega : 94 + 4 * i + 3 < 211), nI_clamp (n := 94 + 4 * i) (by omega), nI_clamp (n := 94 + 4 * i + 1) (by omega), nI_clamp (n := 94 + 4 * i + 3) (by omega), nI_1, rgd]
    unfold tF1 at hw'
    by_cases h0 : hb (ws.getD 7 0) (nI i) = true
    · by_cases h1 : rg (ar H 71) (94 + 4 * i) = nI k
      · by_cases h2 : rg (ar H 71) (94 + 4 * i + 3) = ws.getD 9 0
        · rw [if_pos ⟨h0, h1, h2⟩] at hw'
          simp only [h0, eq_true h1, eq_true h2, Bool.true_eq_false, not_true_eq_false, false_implies, not_false_eq_true, true_implies, true_and, and_true]
          exact hw'
        · rw [if_neg (fun q => h2 q.2.2)] at hw'
          simp only [h0, eq_true h1, h2, Bool.true_eq_false, not_true_eq_false, false_implies, not_false_eq_true, true_implies, true_and, and_true]
          exact hw'
      · rw [if_neg (fun q => h1 q.2.1)] at hw'
        simp only [h0, h1, Bool.true_eq_false, not_true_eq_false, false_implies, not_false_eq_true, true_implies, true_and, and_true]
        exact hw'
    · rw [if_neg (fun q => h0 q.1)] at hw'
      have h0' : hb (ws.getD 7 0) (nI i) = false := by simpa using h0
      simp only [h0', eq_self, not_true_eq_false, false_implies, not_false_eq_true, true_implies, true_and, and_true]
      exact hw'
/-- what is seen by a row: (of those that doubt, of those that believe more) -/
def sF (R : List Int32) (ws : List Int32) (nW k : Nat) (b : Nat) (p : Int32 × Int32) : Int32 × Int32 :=
  if b = k then p else if dSee R nW (ws.getD 8 0) k b = true then (if ws.getD b 0 < 10 then (p.1 + rg R (30 + 7 * k + b), p.2) else if ws.getD b 0 ≤ ws.getD k 0 then p else (p.1, p.2 + 1)) else p
def senM (R : List Int32) (ws : List Int32) (nW n k : Nat) : Int32 := (forN (sF R ws nW k) n (0, 0)).2 - (if rg R (9 + 3 * k) = 1 then (forN (sF R ws nW k) n (0, 0)).1 / 2 else (forN (sF R ws nW k) n (0, 0)).1)
theorem m_seenBy (hS : Shp H) (hw : garr H w = some ws) (hl : ws.length = 10) (hk : k < 7) (hR : rg (ar H 71) 2 = nI n) (bR : n ≤ 7) (hW : rg (ar H 71) 4 = nI nW) (bW : nW ≤ 5) : Wp scr (d + 3) 228 0 [some (.ref 68), some (.ref w), some (.int (nI k)), none, none, none] [] H Q ↔ Q (some (.int (senM (ar H 71) ws nW n k))) H := by
  refine Wp_iff ?_
  generalize hQ : (fun (r : Option Value) (H' : List AC) => r = some (.int (senM (ar H 71) ws nW n k)) ∧ H' = H) = Q1
  have hR' : (ar H 71).getD 2 0 = nI n := hR
  have rgd : ∀ j, (ar H 71).getD j 0 = rg (ar H 71) j := fun _ => rfl
  simp only [w228_0, w228_1, w228_2, w228_3, w228_5, w228_6]
  have key := down (P := fun i => Wp scr (d + 3) 228 8 [some (.ref 68), some (.ref w), some (.int (nI k)), some (.int (forN (sF (ar H 71) ws nW k) i (0, 0)).1), some (.int (forN (sF (ar H 71) ws nW k) i (0, 0)).2), some (.int (nI i))] [] H Q1) n ?_ ?_
  · simpa [nI_0, forN] using key
  · rw [w228_8]
    simp only [w228_0, w228_1, w228_2, w228_3, w228_5, w228_6, w228_10, w228_11, w228_14, w228_15, w228_16, w228_19, w228_21, w228_22, w228_25, w228_26, w228_27, w228_29, w228_30, w228_31, w228_33, w228_36, w228_39, w228_42, w228_43, w228_45, w228_48, w228_51, w228_52, w228_53, w228_56, w228_58, w228_60, w228_61, w228_62, w228_63, w228_65, w228_66, w228_67, w228_68, w228_69, w228_72, w228_73, w228_75, w228_76, w228_77, w228_78, w228_79, w228_82, w228_85, w228_88, w228_91, w228_93, w228_94, w228_95, w228_98, w228_99, w228_102, w228_103, w228_104, w228_105, w228_108, w228_109, w228_110, g_68_15 hS, ga_71 hS, oK_some, gn_71 hS, ib_2_211, cl_2, hR', true_and, nI_les, true_implies, not_true_eq_false, false_implies, and_true, rc_68 hS, m_kindOf hS (by omega : k < 60), cont_int, two_ne, not_false_eq_true]
    rw [← hQ]
    unfold senM
    by_cases h1 : rg (ar H 71) (9 + 3 * k) = 1
    · simp [h1]
    · simp [h1]
  · intro i hi hw'
    simp only [forN] at hw'
    generalize forN (sF (ar H 71) ws nW k) i (0, 0) = p at hw' ⊢
    obtain ⟨p1, p2⟩ := p
    have e3 : nI (30 + 7 * k) + nI i = nI (30 + 7 * k + i) := nI_add _ _
    have eik : (nI i = nI k) = (i = k) := propext (nI_eq (by omega) (by omega))
    rw [w228_8]
    simp only [w228_0, w228_1, w228_2, w228_3, w228_5, w228_6, w228_10, w228_11, w228_14, w228_15, w228_16, w228_19, w228_21, w228_22, w228_25, w228_26, w228_27, w228_29, w228_30, w228_31, w228_33, w228_36, w228_39, w228_42, w228_43, w228_45, w228_48, w228_51, w228_52, w228_53, w228_56, w228_58, w228_60, w228_61, w228_62, w228_63, w228_65, w228_66, w228_67, w228_68, w228_69, w228_72, w228_73, w228_75, w228_76, w228_77, w228_78, w228_79, w228_82, w228_85, w228_88, w228_91, w228_93, w228_94, w228_95, w228_98, w228_99, w228_102, w228_103, w228_104, w228_105, w228_108, w228_109, w228_110, g_68_15 hS, ga_71 hS, oK_some, gn_71 hS, hw, hl, ib_2_211, cl_2, ib_8_10, cl_8, hR', true_and, nI_lef hi (by omega : n < 2147483648), true_implies, not_false_eq_true, false_implies, rc_68 hS, m_doesSee hS hW bW hk (by omega : i < 7), m_doubts hw hl (by omega : i < 10), cont_int, cont_intS, bI_eq0, eik, ixm 30 7 k (v := 30) (w := 7) rfl rfl, e3, inb_nI (i := 30 + 7 * k + i) (by omega), decide_eq_true (by omega : 30 + 7 * k + i < 211), nI_clamp (n := 30 + 7 * k + i) (by omega), inb_nI (i := i) (by omega), inb_nI (i := k) (by omega), decide_eq_true (by omega : i < 10), decide_eq_true (by omega : k < 10), nI_clamp (n := i) (by omega), nI_clamp (n := k) (by omega), decide_eq_false_iff_not, nI_1, rgd]
    unfold sF at hw'
    by_cases h0 : i = k
    · rw [if_pos h0] at hw'
      simp only [eq_true h0, not_true_eq_false, false_implies, true_implies, and_true]
      exact hw'
    · rw [if_neg h0] at hw'
      simp only [h0, false_implies, not_false_eq_true, true_implies, true_and]
      by_cases h1 : dSee (ar H 71) nW (ws.getD 8 0) k i = true
      · rw [if_pos h1] at hw'
        simp only [h1, Bool.true_eq_false, not_false_eq_true, not_true_eq_false, false_implies, true_implies, true_and, and_true]
        by_cases h2 : ws.getD i 0 < 10
        · rw [if_pos h2] at hw'
          simp only [eq_true h2, not_true_eq_false, false_implies, not_false_eq_true, true_implies, true_and]
          exact hw'
        · rw [if_neg h2] at hw'
          simp only [h2, not_true_eq_false, false_implies, not_false_eq_true, true_implies, and_true]
          by_cases h3 : ws.getD i 0 ≤ ws.getD k 0
          · rw [if_pos h3] at hw'
            simp only [eq_true h3, not_true_eq_false, false_implies, true_implies, and_true]
            exact hw'
          · rw [if_neg h3] at hw'
            simp only [h3, not_false_eq_true, false_implies, true_implies, true_and]
            exact hw'
      · rw [if_neg h1] at hw'
        have h1' : dSee (ar H 71) nW (ws.getD 8 0) k i = false := by simpa using h1
        simp only [h1', eq_self, not_true_eq_false, not_false_eq_true, false_implies, true_implies, true_and, and_true]
        exact hw'
end MODEL2
