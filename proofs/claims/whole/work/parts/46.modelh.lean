/-! ===== the Model: hail by chance ===== -/
theorem nI_orN (a b : Nat) : nI a ||| nI b = nI (a ||| b) := by
  apply Int32.toBitVec_inj.1
  show BitVec.ofNat 32 a ||| BitVec.ofNat 32 b = BitVec.ofNat 32 (a ||| b)
  apply BitVec.eq_of_getLsbD_eq
  intro i hi
  simp [hi]
/-- who doubts, as a number -/
def dbN (n : Nat) (ws : List Int32) : Nat := forN (fun i a => if ws.getD i 0 < 10 then a ||| 2 ^ i else a) n 0
theorem dbN_dbt {n : Nat} {ws : List Int32} (hn : n ≤ 10) : dbt n ws = nI (dbN n ws) := by
  unfold dbt dbN
  induction n with
  | zero => rfl
  | succ n ih =>
    rw [forN_succ, forN_succ, ih (by omega)]
    unfold dbtF
    rw [cAt_nI (by omega)]
    by_cases h : ws.getD n 0 < 10
    · rw [if_pos h, if_pos h, p2 (by omega), nI_orN]
    · rw [if_neg h, if_neg h]
theorem dbN_lt {n : Nat} {ws : List Int32} : dbN n ws < 2 ^ n := by
  unfold dbN
  induction n with
  | zero => rw [forN_zero]; decide
  | succ n ih =>
    rw [forN_succ]
    have h2 : 2 ^ n < 2 ^ (n + 1) := Nat.pow_lt_pow_right (by decide) (by omega)
    split
    · exact Nat.or_lt_two_pow (by omega) h2
    · omega
theorem dbN_bit {n k : Nat} {ws : List Int32} : (dbN n ws).testBit k = (decide (k < n) && decide (ws.getD k 0 < 10)) := by
  unfold dbN
  induction n with
  | zero => rw [forN_zero]; simp
  | succ n ih =>
    rw [forN_succ]
    by_cases h : ws.getD n 0 < 10
    · rw [if_pos h, Nat.testBit_or, ih, Nat.testBit_two_pow]
      by_cases e : n = k
      · subst e
        rw [decide_eq_true h, decide_eq_true (show n < n + 1 by omega)]
        simp
      · have : decide (k < n + 1) = decide (k < n) := decide_eq_decide.mpr (by omega)
        rw [this]
        simp [e]
    · rw [if_neg h, ih]
      by_cases e : n = k
      · subst e
        rw [decide_eq_false h]
        simp
      · have : decide (k < n + 1) = decide (k < n) := decide_eq_decide.mpr (by omega)
        rw [this]
/-- how many bits -/
def pc (x : Nat) : Nat := ((List.range 8).filter (fun g => x.testBit g)).length
theorem ones_pc : ∀ x ∈ List.range 256, ones (nI x) = nI (pc x) := by decide +kernel
theorem pc_le : ∀ n ∈ List.range 9, ∀ x ∈ List.range (2 ^ n), pc x ≤ n := by decide +kernel
theorem ones_dbt {n : Nat} {ws : List Int32} (hn : n ≤ 7) : ones (dbt n ws) = nI (pc (dbN n ws)) ∧ pc (dbN n ws) ≤ n := by
  have h := dbN_lt (n := n) (ws := ws)
  have h2 : 2 ^ n ≤ 2 ^ 8 := p2_lt (by omega)
  rw [dbN_dbt (by omega)]
  exact ⟨ones_pc _ (List.mem_range.mpr (by omega)), pc_le n (List.mem_range.mpr (by omega)) _ (List.mem_range.mpr h)⟩
theorem hb_nI : ∀ x ∈ List.range 128, ∀ g ∈ List.range 7, hb (nI x) (nI g) = x.testBit g := by decide +kernel
/-- what hail does to the rows that believe -/
def hlK (k : Nat) (ys : List Int32) : List Int32 := ys.set k (ys.getD k 0 - (if ys.getD k 0 < 10 then 0 else 1))
def hlL (n : Nat) (b : Bool) (ws : List Int32) : List Int32 := if b = true then forN hlK n ws else ws
theorem hlK_len {n : Nat} {ws : List Int32} : (forN hlK n ws).length = ws.length := forN_len (fun k zs => by unfold hlK; simp) n ws
theorem hlL_len {n : Nat} {b : Bool} {ws : List Int32} : (hlL n b ws).length = ws.length := by
  unfold hlL; split
  · exact hlK_len
  · rfl
def hlD (R : List Int32) (rum : Int32) (n nW nG nU : Nat) (set m : Nat) (ws : List Int32) : List Int32 := forN (fun d ys => hlL n (set.testBit d) (dayM R rum n nW nG nU ys)) m ws
def hlW (hl set m : Nat) : Nat := forN (fun d w => w * (if set.testBit d = true then hl else 100 - hl)) m 1
theorem hlW_le {hl set : Nat} (h : hl ≤ 100) : ∀ m, hlW hl set m ≤ 100 ^ m
  | 0 => Nat.le_refl _
  | m + 1 => by
    unfold hlW
    rw [forN_succ, Nat.pow_succ]
    refine Nat.mul_le_mul (hlW_le h m) ?_
    split <;> omega
def hlS (f : Nat → Nat) (k : Nat) : Nat := forN (fun s acc => acc + f s) k 0
theorem hlS_le {f : Nat → Nat} {B : Nat} (h : ∀ s, f s ≤ B) : ∀ k, hlS f k ≤ k * B
  | 0 => by unfold hlS; rw [forN_zero]; omega
  | k + 1 => by
    have ih := hlS_le h k
    unfold hlS at ih ⊢
    rw [forN_succ, Nat.succ_mul]
    have := h k
    omega
theorem hlS_congr {f g : Nat → Nat} (k : Nat) (h : ∀ s, s < k → f s = g s) : hlS f k = hlS g k := forN_congr k 0 (fun i hi x => by rw [h i hi])
def hBe (D : Nat → List Int32) (n hl m set : Nat) : Nat := hlW hl set m * (n - pc (dbN n (D set)))
def hAl (D : Nat → List Int32) (n hl m set : Nat) : Nat := if dbN n (D set) = 0 then hlW hl set m else 0
def hDo (D : Nat → List Int32) (k hl m set : Nat) : Nat := if (D set).getD k 0 < 10 then hlW hl set m else 0
/-- a fraction in lowest terms: its upper whole or its lower -/
def hlR (up dn : Nat) (lower : Bool) : Int64 := lN ((if lower = true then dn else up) / Nat.gcd dn up)
theorem lcmp0 {y : Nat} (hy : y < 2 ^ 63) : (lg_cmp (lN y) 0 = 0) = (y = 0) := by
  have e : (0 : Int64) = lN 0 := rfl
  apply propext
  unfold lg_cmp
  rw [e]
  by_cases h : y = 0
  · subst h
    have h1 : ¬ lN 0 > lN 0 := fun q => by
      have := (pk_lLT (a := 0) (b := 0) (by decide) (by decide)).mp q
      omega
    rw [if_neg h1, if_pos rfl]
    simp
  · have h1 : lN y > lN 0 := (pk_lLT (a := 0) (b := y) (by decide) hy).mpr (by omega)
    rw [if_pos h1]
    simp [h]
theorem lN_ne0 {y : Nat} (h0 : 0 < y) (hy : y < 2 ^ 63) : (lN y = 0) = False := eq_false (fun q => by
  have := (pk_lEQ (a := y) (b := 0) hy (by decide)).mp q
  omega)
section MODELH
variable {scr : List Int32} {d n nS nW nG nU nN w : Nat} {H : List AC} {R st : List Int32} {Q : Option Value → List AC → Prop}
theorem m_lowest {a b : Nat} {lw : Bool} (ha : 0 < a) (ha2 : a < 2 ^ 63) (hb : b < 2 ^ 63) : Wp scr d 192 0 [some (.long (lN b)), none, some (.long (lN a)), none, some (.int (bI lw)), none, none, none, none, none, none] [] H Q ↔ Q (some (.long (hlR b a lw))) H := by
  refine Wp_iff ?_
  simp only [w192_0, w192_1, w192_3, w192_4]
  have key : ∀ y x : Nat, ∀ o9 : Option Value, 0 < x → x < 2 ^ 63 → y < 2 ^ 63 → Nat.gcd x y = Nat.gcd a b → Wp scr d 192 6 [some (.long (lN b)), none, some (.long (lN a)), none, some (.int (bI lw)), some (.long (lN x)), none, some (.long (lN y)), none, o9, none] [] H (fun r H' => r = some (.long (hlR b a lw)) ∧ H' = H) := by
    intro y
    induction y using Nat.strongRecOn with
    | ind y ih =>
      intro x o9 hx hx2 hy hg
      rw [w192_6]
      simp (maxDischargeDepth := 12) only [w192_0, w192_1, w192_3, w192_4, w192_8, w192_9, w192_10, w192_13, w192_15, w192_17, w192_18, w192_20, w192_22, w192_24, w192_26, w192_28, w192_31, w192_33, w192_36, w192_37, w192_40, w192_41, w192_43, w192_44, oK_some, cont_int, cont_intS, cont_none, cont_noneS, cont_long, cont_longS, true_and, and_true, false_and, and_false, true_implies, false_implies, not_true_eq_false, not_false_eq_true, eq_self, or_true, true_or, Option.isSome_some, hpf_length, hpa_length, bI_eq0, fi_hpa, fl_hpa, ar_hpf, fi_hpf_ne, fl_hpf_ne, ar_hpa_ne, hpa_hpa, hpf_hpf, nI_1, two_ne, fokZ, implies_true, Nat.reduceEqDiff, lcmp0 hy]
      by_cases h : y = 0
      · subst h
        rw [Nat.gcd_zero_right] at hg
        simp only [oK_some, cont_int, cont_intS, cont_none, cont_noneS, cont_long, cont_longS, true_and, and_true, false_and, and_false, true_implies, false_implies, not_true_eq_false, not_false_eq_true, eq_self, or_true, true_or, Option.isSome_some, hpf_length, hpa_length, bI_eq0, fi_hpa, fl_hpa, ar_hpf, fi_hpf_ne, fl_hpf_ne, ar_hpa_ne, hpa_hpa, hpf_hpf, nI_1, two_ne, fokZ, implies_true, Nat.reduceEqDiff, lN_ne0 hx hx2, pk_lDiv ha2 hx hx2, pk_lDiv hb hx hx2]
        unfold hlR
        rw [← hg]
        cases lw
        · simp
        · simp
      · have hy0 : 0 < y := by omega
        have hm : x % y < y := Nat.mod_lt _ hy0
        simp only [h, oK_some, cont_int, cont_intS, cont_none, cont_noneS, cont_long, cont_longS, true_and, and_true, false_and, and_false, true_implies, false_implies, not_true_eq_false, not_false_eq_true, eq_self, or_true, true_or, Option.isSome_some, hpf_length, hpa_length, bI_eq0, fi_hpa, fl_hpa, ar_hpf, fi_hpf_ne, fl_hpf_ne, ar_hpa_ne, hpa_hpa, hpf_hpf, nI_1, two_ne, fokZ, implies_true, Nat.reduceEqDiff, lN_ne0 hy0 hy, pk_lRem hx2 hy0 hy]
        refine ih (x % y) hm y _ hy0 hy (by omega) ?_
        rw [← hg, Nat.gcd_comm x y, Nat.gcd_rec y x, Nat.gcd_comm]
  exact key b a none ha ha2 hb rfl
theorem lN_l {x : Nat} (h : x < 2 ^ 31) : (nI x).toInt64 = lN x := nI_l h
theorem m_tryHail {m dd hl : Nat} (hI : MIv H R st n nS nW nG nU nN) (hm : m ≤ 6) (hd : dd < 7) (hH : rg R 1 = nI hl) (hl1 : hl ≤ 100) (hQ : ∀ H', Fg [76, 77] [(68, 22), (68, 35), (68, 36), (68, 37), (68, 38)] H H' → fl H' 68 35 = lN (100 ^ m) → fl H' 68 36 = lN (hlS (hBe (fun set => hlD R (allU nU) n nW nG nU set m st) n hl m) (2 ^ m)) → fl H' 68 37 = lN (hlS (hAl (fun set => hlD R (allU nU) n nW nG nU set m st) n hl m) (2 ^ m)) → fl H' 68 38 = lN (hlS (hDo (fun set => hlD R (allU nU) n nW nG nU set m st) dd hl m) (2 ^ m)) → Q none H') : Wp scr (d + 5) 286 0 [some (.ref 68), some (.int (nI m)), some (.int (nI dd)), none, none, none, none, none] [] H Q := by
  have hS := hI.shp
  have rgR : ∀ j, R.getD j 0 = rg R j := fun _ => rfl
  obtain ⟨c2, c3, c4, c5, c6, c7, b2, b3, b4, b5, b6, b7⟩ := hI.mn
  have hpw : 2 ^ m ≤ 2 ^ 6 := p2_lt hm
  have l1 : (1 : Int64) = lN 1 := rfl
  have l0 : (0 : Int64) = lN 0 := rfl
  have l100 : (100 : Int64) = lN 100 := rfl
  generalize hDd : (fun set => hlD R (allU nU) n nW nG nU set m st) = D at hQ
  have hDi : ∀ set, D set = hlD R (allU nU) n nW nG nU set m st := fun set => by rw [← hDd]
  simp (maxDischargeDepth := 12) only [w286_0, w286_1, w286_2, w286_5, w286_6, w286_8, w286_9, w286_12, w286_13, w286_14, w286_17, w286_20, w286_21, w286_24, w286_27, w286_30, w286_31, w286_32, w286_35, w286_36, w286_37, w286_40, w286_41, w286_42, w286_45, w286_46, w286_48, w286_49, w286_50, w286_51, w286_54, w286_55, w286_58, w286_59, w286_61, w286_62, w286_66, w286_67, w286_70, w286_71, w286_72, w286_75, w286_78, w286_80, w286_81, w286_83, w286_86, w286_89, w286_90, w286_93, w286_94, w286_95, w286_96, w286_99, w286_101, w286_102, w286_105, w286_106, w286_107, w286_108, w286_109, w286_110, w286_112, w286_113, w286_117, w286_118, w286_121, w286_122, w286_123, w286_126, w286_127, w286_129, w286_132, w286_135, w286_136, w286_139, w286_141, w286_142, w286_143, w286_144, w286_147, w286_149, w286_152, w286_155, w286_156, w286_159, w286_160, w286_161, w286_162, w286_165, w286_168, w286_171, w286_174, w286_175, w286_176, w286_179, w286_181, w286_182, w286_185, w286_186, w286_187, w286_188, w286_189, w286_192, w286_195, w286_198, w286_199, w286_200, w286_201, w286_202, w286_205, w286_206, w286_207, w286_210, w286_211, w286_212, w286_215, w286_218, w286_221, w286_223, w286_226, w286_227, w286_228, w286_231, w286_232, w286_233, w286_236, w286_237, w286_240, w286_241, w286_244, w286_247, w286_249, w286_252, w286_253, w286_254, w286_257, w286_260, w286_263, oK_some, cont_int, cont_intS, cont_none, cont_noneS, cont_long, cont_longS, true_and, and_true, false_and, and_false, true_implies, false_implies, not_true_eq_false, not_false_eq_true, eq_self, or_true, true_or, Option.isSome_some, hpf_length, hpa_length, bI_eq0, fi_hpa, fl_hpa, ar_hpf, fi_hpf_ne, fl_hpf_ne, ar_hpa_ne, hpa_hpa, hpf_hpf, nI_1, two_ne, fokZ, implies_true, Nat.reduceEqDiff, g_68_35, sf_68_35, fe_68_35, g_68_36, sf_68_36, fe_68_36, g_68_37, sf_68_37, fe_68_37, g_68_38, sf_68_38, fe_68_38, rc_68, g_68_24, ga_77, gn_77, sa_77, ae_77, g_68_15, ga_71, gn_71, sa_71, ae_71, kl_0, kl_1, kl_2, kl_3, kl_4, kl_5, kl_6, kl_7, kl_8, kl_9, kl_10, kl_11, kl_12, jb_0_10, jb_1_10, jb_2_10, jb_3_10, jb_4_10, jb_5_10, jb_6_10, jb_7_10, jb_8_10, jb_9_10, jb_0_211, jb_1_211, jb_2_211, jb_3_211, jb_4_211, jb_5_211, jb_6_211, jb_7_211, jb_8_211, jb_9_211, jb_10_211, jb_11_211, jb_12_211, hS, l1]
  have key := down (P := fun i => ∀ H2, Fg [76, 77] [(68, 22), (68, 35), (68, 36), (68, 37), (68, 38)] H H2 → fl H2 68 35 = lN (100 ^ i) → Wp scr (d + 5) 286 7 [some (.ref 68), some (.int (nI m)), some (.int (nI dd)), some (.int (nI i)), none, none, none, none] [] H2 Q) m ?_ ?_
  · exact key _ (fg_hpfl (a := 68) (f := 35) (ci := 12) hS rfl (by decide)) (by rw [fe_68_35 hS])
  · intro H2 hF2 w2
    have hs2 := hF2.shp
    rw [w286_7]
    simp (maxDischargeDepth := 12) only [w286_0, w286_1, w286_2, w286_5, w286_6, w286_8, w286_9, w286_12, w286_13, w286_14, w286_17, w286_20, w286_21, w286_24, w286_27, w286_30, w286_31, w286_32, w286_35, w286_36, w286_37, w286_40, w286_41, w286_42, w286_45, w286_46, w286_48, w286_49, w286_50, w286_51, w286_54, w286_55, w286_58, w286_59, w286_61, w286_62, w286_66, w286_67, w286_70, w286_71, w286_72, w286_75, w286_78, w286_80, w286_81, w286_83, w286_86, w286_89, w286_90, w286_93, w286_94, w286_95, w286_96, w286_99, w286_101, w286_102, w286_105, w286_106, w286_107, w286_108, w286_109, w286_110, w286_112, w286_113, w286_117, w286_118, w286_121, w286_122, w286_123, w286_126, w286_127, w286_129, w286_132, w286_135, w286_136, w286_139, w286_141, w286_142, w286_143, w286_144, w286_147, w286_149, w286_152, w286_155, w286_156, w286_159, w286_160, w286_161, w286_162, w286_165, w286_168, w286_171, w286_174, w286_175, w286_176, w286_179, w286_181, w286_182, w286_185, w286_186, w286_187, w286_188, w286_189, w286_192, w286_195, w286_198, w286_199, w286_200, w286_201, w286_202, w286_205, w286_206, w286_207, w286_210, w286_211, w286_212, w286_215, w286_218, w286_221, w286_223, w286_226, w286_227, w286_228, w286_231, w286_232, w286_233, w286_236, w286_237, w286_240, w286_241, w286_244, w286_247, w286_249, w286_252, w286_253, w286_254, w286_257, w286_260, w286_263, oK_some, cont_int, cont_intS, cont_none, cont_noneS, cont_long, cont_longS, true_and, and_true, false_and, and_false, true_implies, false_implies, not_true_eq_false, not_false_eq_true, eq_self, or_true, true_or, Option.isSome_some, hpf_length, hpa_length, bI_eq0, fi_hpa, fl_hpa, ar_hpf, fi_hpf_ne, fl_hpf_ne, ar_hpa_ne, hpa_hpa, hpf_hpf, nI_1, two_ne, fokZ, implies_true, Nat.reduceEqDiff, g_68_35, sf_68_35, fe_68_35, g_68_36, sf_68_36, fe_68_36, g_68_37, sf_68_37, fe_68_37, g_68_38, sf_68_38, fe_68_38, rc_68, g_68_24, ga_77, gn_77, sa_77, ae_77, g_68_15, ga_71, gn_71, sa_71, ae_71, kl_0, kl_1, kl_2, kl_3, kl_4, kl_5, kl_6, kl_7, kl_8, kl_9, kl_10, kl_11, kl_12, jb_0_10, jb_1_10, jb_2_10, jb_3_10, jb_4_10, jb_5_10, jb_6_10, jb_7_10, jb_8_10, jb_9_10, jb_0_211, jb_1_211, jb_2_211, jb_3_211, jb_4_211, jb_5_211, jb_6_211, jb_7_211, jb_8_211, jb_9_211, jb_10_211, jb_11_211, jb_12_211, hs2, nI_les, l0]
    have s36 := sf_68_36 (v := lN 0) hs2
    have s37 := sf_68_37 (v := lN 0) s36
    generalize hH3 : hpf (hpf (hpf H2 68 36 (.long (lN 0))) 68 37 (.long (lN 0))) 68 38 (.long (lN 0)) = H3
    have hF3 : Fg [76, 77] [(68, 22), (68, 35), (68, 36), (68, 37), (68, 38)] H H3 := by
      rw [← hH3]
      exact ((hF2.trans (fg_hpfl (a := 68) (f := 36) (ci := 12) hs2 rfl (by decide))).trans (fg_hpfl (a := 68) (f := 37) (ci := 12) s36 rfl (by decide))).trans (fg_hpfl (a := 68) (f := 38) (ci := 12) s37 rfl (by decide))
    have f35 : fl H3 68 35 = lN (100 ^ m) := by rw [← hH3, fl_hpf_ne (by decide), fl_hpf_ne (by decide), fl_hpf_ne (by decide), w2]
    have f36 : fl H3 68 36 = lN 0 := by rw [← hH3, fl_hpf_ne (by decide), fl_hpf_ne (by decide), fe_68_36 hs2]
    have f37 : fl H3 68 37 = lN 0 := by rw [← hH3, fl_hpf_ne (by decide), fe_68_37 s36]
    have f38 : fl H3 68 38 = lN 0 := by rw [← hH3, fe_68_38 s37]
    have key2 := down (P := fun set => ∀ H4, ∀ o4 o6 o7 : Option Value, Fg [76, 77] [(68, 22), (68, 35), (68, 36), (68, 37), (68, 38)] H H4 → fl H4 68 35 = lN (100 ^ m) → fl H4 68 36 = lN (hlS (hBe D n hl m) set) → fl H4 68 37 = lN (hlS (hAl D n hl m) set) → fl H4 68 38 = lN (hlS (hDo D dd hl m) set) → Wp scr (d + 5) 286 47 [some (.ref 68), some (.int (nI m)), some (.int (nI dd)), some (.int (nI set)), o4, none, o6, o7] [] H4 Q) (2 ^ m) ?_ ?_
    · exact key2 H3 none none none hF3 f35 f36 f37 f38
    · intro H4 o4 o6 o7 hF4 g5 g6 g7 g8
      rw [w286_47]
      simp (maxDischargeDepth := 12) only [w286_0, w286_1, w286_2, w286_5, w286_6, w286_8, w286_9, w286_12, w286_13, w286_14, w286_17, w286_20, w286_21, w286_24, w286_27, w286_30, w286_31, w286_32, w286_35, w286_36, w286_37, w286_40, w286_41, w286_42, w286_45, w286_46, w286_48, w286_49, w286_50, w286_51, w286_54, w286_55, w286_58, w286_59, w286_61, w286_62, w286_66, w286_67, w286_70, w286_71, w286_72, w286_75, w286_78, w286_80, w286_81, w286_83, w286_86, w286_89, w286_90, w286_93, w286_94, w286_95, w286_96, w286_99, w286_101, w286_102, w286_105, w286_106, w286_107, w286_108, w286_109, w286_110, w286_112, w286_113, w286_117, w286_118, w286_121, w286_122, w286_123, w286_126, w286_127, w286_129, w286_132, w286_135, w286_136, w286_139, w286_141, w286_142, w286_143, w286_144, w286_147, w286_149, w286_152, w286_155, w286_156, w286_159, w286_160, w286_161, w286_162, w286_165, w286_168, w286_171, w286_174, w286_175, w286_176, w286_179, w286_181, w286_182, w286_185, w286_186, w286_187, w286_188, w286_189, w286_192, w286_195, w286_198, w286_199, w286_200, w286_201, w286_202, w286_205, w286_206, w286_207, w286_210, w286_211, w286_212, w286_215, w286_218, w286_221, w286_223, w286_226, w286_227, w286_228, w286_231, w286_232, w286_233, w286_236, w286_237, w286_240, w286_241, w286_244, w286_247, w286_249, w286_252, w286_253, w286_254, w286_257, w286_260, w286_263, oK_some, cont_int, cont_intS, cont_none, cont_noneS, cont_long, cont_longS, true_and, and_true, false_and, and_false, true_implies, false_implies, not_true_eq_false, not_false_eq_true, eq_self, or_true, true_or, Option.isSome_some, hpf_length, hpa_length, bI_eq0, fi_hpa, fl_hpa, ar_hpf, fi_hpf_ne, fl_hpf_ne, ar_hpa_ne, hpa_hpa, hpf_hpf, nI_1, two_ne, fokZ, implies_true, Nat.reduceEqDiff, g_68_35, sf_68_35, fe_68_35, g_68_36, sf_68_36, fe_68_36, g_68_37, sf_68_37, fe_68_37, g_68_38, sf_68_38, fe_68_38, rc_68, g_68_24, ga_77, gn_77, sa_77, ae_77, g_68_15, ga_71, gn_71, sa_71, ae_71, kl_0, kl_1, kl_2, kl_3, kl_4, kl_5, kl_6, kl_7, kl_8, kl_9, kl_10, kl_11, kl_12, jb_0_10, jb_1_10, jb_2_10, jb_3_10, jb_4_10, jb_5_10, jb_6_10, jb_7_10, jb_8_10, jb_9_10, jb_0_211, jb_1_211, jb_2_211, jb_3_211, jb_4_211, jb_5_211, jb_6_211, jb_7_211, jb_8_211, jb_9_211, jb_10_211, jb_11_211, jb_12_211, p2 (by omega : m ≤ 10), nI_les]
      exact hQ H4 hF4 g5 g6 g7 g8
    · intro set hset hw H4 o4 o6 o7 hF4 g5 g6 g7 g8
      have hI4 := hI.of hF4 (by decide) (by decide) (by decide) (by decide)
      have hs4 := hF4.shp
      rw [w286_47]
      simp (maxDischargeDepth := 12) only [w286_0, w286_1, w286_2, w286_5, w286_6, w286_8, w286_9, w286_12, w286_13, w286_14, w286_17, w286_20, w286_21, w286_24, w286_27, w286_30, w286_31, w286_32, w286_35, w286_36, w286_37, w286_40, w286_41, w286_42, w286_45, w286_46, w286_48, w286_49, w286_50, w286_51, w286_54, w286_55, w286_58, w286_59, w286_61, w286_62, w286_66, w286_67, w286_70, w286_71, w286_72, w286_75, w286_78, w286_80, w286_81, w286_83, w286_86, w286_89, w286_90, w286_93, w286_94, w286_95, w286_96, w286_99, w286_101, w286_102, w286_105, w286_106, w286_107, w286_108, w286_109, w286_110, w286_112, w286_113, w286_117, w286_118, w286_121, w286_122, w286_123, w286_126, w286_127, w286_129, w286_132, w286_135, w286_136, w286_139, w286_141, w286_142, w286_143, w286_144, w286_147, w286_149, w286_152, w286_155, w286_156, w286_159, w286_160, w286_161, w286_162, w286_165, w286_168, w286_171, w286_174, w286_175, w286_176, w286_179, w286_181, w286_182, w286_185, w286_186, w286_187, w286_188, w286_189, w286_192, w286_195, w286_198, w286_199, w286_200, w286_201, w286_202, w286_205, w286_206, w286_207, w286_210, w286_211, w286_212, w286_215, w286_218, w286_221, w286_223, w286_226, w286_227, w286_228, w286_231, w286_232, w286_233, w286_236, w286_237, w286_240, w286_241, w286_244, w286_247, w286_249, w286_252, w286_253, w286_254, w286_257, w286_260, w286_263, oK_some, cont_int, cont_intS, cont_none, cont_noneS, cont_long, cont_longS, true_and, and_true, false_and, and_false, true_implies, false_implies, not_true_eq_false, not_false_eq_true, eq_self, or_true, true_or, Option.isSome_some, hpf_length, hpa_length, bI_eq0, fi_hpa, fl_hpa, ar_hpf, fi_hpf_ne, fl_hpf_ne, ar_hpa_ne, hpa_hpa, hpf_hpf, nI_1, two_ne, fokZ, implies_true, Nat.reduceEqDiff, g_68_35, sf_68_35, fe_68_35, g_68_36, sf_68_36, fe_68_36, g_68_37, sf_68_37, fe_68_37, g_68_38, sf_68_38, fe_68_38, rc_68, g_68_24, ga_77, gn_77, sa_77, ae_77, g_68_15, ga_71, gn_71, sa_71, ae_71, kl_0, kl_1, kl_2, kl_3, kl_4, kl_5, kl_6, kl_7, kl_8, kl_9, kl_10, kl_11, kl_12, jb_0_10, jb_1_10, jb_2_10, jb_3_10, jb_4_10, jb_5_10, jb_6_10, jb_7_10, jb_8_10, jb_9_10, jb_0_211, jb_1_211, jb_2_211, jb_3_211, jb_4_211, jb_5_211, jb_6_211, jb_7_211, jb_8_211, jb_9_211, jb_10_211, jb_11_211, jb_12_211, hs4, p2 (by omega : m ≤ 10), nI_lef hset (by omega : 2 ^ m < 2147483648)]
      refine m_begin' hI4 (fun H5 hF5 a5 r5 => ?_)
      have hF6 := hF4.trans (hF5.mono (T := [76, 77]) (G := [(68, 22), (68, 35), (68, 36), (68, 37), (68, 38)]) (by decide) (by decide))
      simp (maxDischargeDepth := 12) only [w286_0, w286_1, w286_2, w286_5, w286_6, w286_8, w286_9, w286_12, w286_13, w286_14, w286_17, w286_20, w286_21, w286_24, w286_27, w286_30, w286_31, w286_32, w286_35, w286_36, w286_37, w286_40, w286_41, w286_42, w286_45, w286_46, w286_48, w286_49, w286_50, w286_51, w286_54, w286_55, w286_58, w286_59, w286_61, w286_62, w286_66, w286_67, w286_70, w286_71, w286_72, w286_75, w286_78, w286_80, w286_81, w286_83, w286_86, w286_89, w286_90, w286_93, w286_94, w286_95, w286_96, w286_99, w286_101, w286_102, w286_105, w286_106, w286_107, w286_108, w286_109, w286_110, w286_112, w286_113, w286_117, w286_118, w286_121, w286_122, w286_123, w286_126, w286_127, w286_129, w286_132, w286_135, w286_136, w286_139, w286_141, w286_142, w286_143, w286_144, w286_147, w286_149, w286_152, w286_155, w286_156, w286_159, w286_160, w286_161, w286_162, w286_165, w286_168, w286_171, w286_174, w286_175, w286_176, w286_179, w286_181, w286_182, w286_185, w286_186, w286_187, w286_188, w286_189, w286_192, w286_195, w286_198, w286_199, w286_200, w286_201, w286_202, w286_205, w286_206, w286_207, w286_210, w286_211, w286_212, w286_215, w286_218, w286_221, w286_223, w286_226, w286_227, w286_228, w286_231, w286_232, w286_233, w286_236, w286_237, w286_240, w286_241, w286_244, w286_247, w286_249, w286_252, w286_253, w286_254, w286_257, w286_260, w286_263, oK_some, cont_int, cont_intS, cont_none, cont_noneS, cont_long, cont_longS, true_and, and_true, false_and, and_false, true_implies, false_implies, not_true_eq_false, not_false_eq_true, eq_self, or_true, true_or, Option.isSome_some, hpf_length, hpa_length, bI_eq0, fi_hpa, fl_hpa, ar_hpf, fi_hpf_ne, fl_hpf_ne, ar_hpa_ne, hpa_hpa, hpf_hpf, nI_1, two_ne, fokZ, implies_true, Nat.reduceEqDiff, g_68_35, sf_68_35, fe_68_35, g_68_36, sf_68_36, fe_68_36, g_68_37, sf_68_37, fe_68_37, g_68_38, sf_68_38, fe_68_38, rc_68, g_68_24, ga_77, gn_77, sa_77, ae_77, g_68_15, ga_71, gn_71, sa_71, ae_71, kl_0, kl_1, kl_2, kl_3, kl_4, kl_5, kl_6, kl_7, kl_8, kl_9, kl_10, kl_11, kl_12, jb_0_10, jb_1_10, jb_2_10, jb_3_10, jb_4_10, jb_5_10, jb_6_10, jb_7_10, jb_8_10, jb_9_10, jb_0_211, jb_1_211, jb_2_211, jb_3_211, jb_4_211, jb_5_211, jb_6_211, jb_7_211, jb_8_211, jb_9_211, jb_10_211, jb_11_211, jb_12_211, hF5.len, l1]
      have q5 : fl H5 68 35 = lN (100 ^ m) := by rw [hF5.lng (by decide) (by decide), g5]
      have q6 : fl H5 68 36 = lN (hlS (hBe D n hl m) set) := by rw [hF5.lng (by decide) (by decide), g6]
      have q7 : fl H5 68 37 = lN (hlS (hAl D n hl m) set) := by rw [hF5.lng (by decide) (by decide), g7]
      have q8 : fl H5 68 38 = lN (hlS (hDo D dd hl m) set) := by rw [hF5.lng (by decide) (by decide), g8]
      have hset' : set < 128 := by omega
      have key3 := down (P := fun i => ∀ H7, ∀ o7 : Option Value, Fg [76, 77] [(68, 22), (68, 35), (68, 36), (68, 37), (68, 38)] H H7 → fi H7 68 22 = allU nU → fl H7 68 35 = lN (100 ^ m) → fl H7 68 36 = lN (hlS (hBe D n hl m) set) → fl H7 68 37 = lN (hlS (hAl D n hl m) set) → fl H7 68 38 = lN (hlS (hDo D dd hl m) set) → ar H7 77 = hlD R (allU nU) n nW nG nU set i st → Wp scr (d + 5) 286 64 [some (.ref 68), some (.int (nI m)), some (.int (nI dd)), some (.int (nI set)), some (.long (lN (hlW hl set i))), none, some (.int (nI i)), o7] [] H7 Q) m ?_ ?_
      · exact key3 H5 o7 hF6 r5 q5 q6 q7 q8 a5
      · intro H7 o7 hF7 r7 t5 t6 t7 t8 a7
        have hI7 := hI.of hF7 (by decide) (by decide) (by decide) (by decide)
        have hs7 := hF7.shp
        rw [← hDi] at a7
        obtain ⟨od1, od2⟩ := ones_dbt (n := n) (ws := D set) b2
        have lDd : (D set).length = 10 := by rw [← a7]; exact gn_77 hs7
        have ed : dbt n (D set) = nI (dbN n (D set)) := dbN_dbt (by omega)
        have eb := dbN_lt (n := n) (ws := D set)
        have eb2 : 2 ^ n ≤ 2 ^ 7 := p2_lt b2
        have ez : (nI (dbN n (D set)) = 0) = (dbN n (D set) = 0) := propext (nI_eq (b := 0) (by omega) (by decide))
        rw [ed] at od1
        have st36 := fun v => sf_68_36 (v := v) hs7
        have st37 := fun v v' => sf_68_37 (v := v) (st36 v')
        have hJ : ∀ v, MIv (hpf H7 68 36 (.long v)) R st n nS nW nG nU nN := fun v => hI7.of (S := []) (F := [(68, 36)]) (fg_hpfl (a := 68) (f := 36) (ci := 12) hs7 rfl (by decide)) (by decide) (by decide) (by decide) (by decide)
        have hJT : ∀ v Q', Wp scr (d + 4) 230 0 [some (.ref 68), some (.ref 77), none, none] [] (hpf H7 68 36 (.long v)) Q' ↔ Q' (some (.int (dbt n (ar (hpf H7 68 36 (.long v)) 77)))) (hpf H7 68 36 (.long v)) := fun v Q' => m_dbtT (hJ v)
        have hJD : ∀ v v' Q', Wp scr (d + 4) 224 0 [some (.ref 77), some (.int (nI dd))] [] (hpf (hpf H7 68 36 (.long v')) 68 37 (.long v)) Q' ↔ Q' (some (.int (bI (decide ((ar (hpf (hpf H7 68 36 (.long v')) 68 37 (.long v)) 77).getD dd 0 < 10))))) (hpf (hpf H7 68 36 (.long v')) 68 37 (.long v)) := fun v v' Q' => m_doubts (ga_77 (st37 v v')) (gn_77 (st37 v v')) (by omega : dd < 10)
        rw [w286_64]
        simp (maxDischargeDepth := 12) only [w286_0, w286_1, w286_2, w286_5, w286_6, w286_8, w286_9, w286_12, w286_13, w286_14, w286_17, w286_20, w286_21, w286_24, w286_27, w286_30, w286_31, w286_32, w286_35, w286_36, w286_37, w286_40, w286_41, w286_42, w286_45, w286_46, w286_48, w286_49, w286_50, w286_51, w286_54, w286_55, w286_58, w286_59, w286_61, w286_62, w286_66, w286_67, w286_70, w286_71, w286_72, w286_75, w286_78, w286_80, w286_81, w286_83, w286_86, w286_89, w286_90, w286_93, w286_94, w286_95, w286_96, w286_99, w286_101, w286_102, w286_105, w286_106, w286_107, w286_108, w286_109, w286_110, w286_112, w286_113, w286_117, w286_118, w286_121, w286_122, w286_123, w286_126, w286_127, w286_129, w286_132, w286_135, w286_136, w286_139, w286_141, w286_142, w286_143, w286_144, w286_147, w286_149, w286_152, w286_155, w286_156, w286_159, w286_160, w286_161, w286_162, w286_165, w286_168, w286_171, w286_174, w286_175, w286_176, w286_179, w286_181, w286_182, w286_185, w286_186, w286_187, w286_188, w286_189, w286_192, w286_195, w286_198, w286_199, w286_200, w286_201, w286_202, w286_205, w286_206, w286_207, w286_210, w286_211, w286_212, w286_215, w286_218, w286_221, w286_223, w286_226, w286_227, w286_228, w286_231, w286_232, w286_233, w286_236, w286_237, w286_240, w286_241, w286_244, w286_247, w286_249, w286_252, w286_253, w286_254, w286_257, w286_260, w286_263, oK_some, cont_int, cont_intS, cont_none, cont_noneS, cont_long, cont_longS, true_and, and_true, false_and, and_false, true_implies, false_implies, not_true_eq_false, not_false_eq_true, eq_self, or_true, true_or, Option.isSome_some, hpf_length, hpa_length, bI_eq0, fi_hpa, fl_hpa, ar_hpf, fi_hpf_ne, fl_hpf_ne, ar_hpa_ne, hpa_hpa, hpf_hpf, nI_1, two_ne, fokZ, implies_true, Nat.reduceEqDiff, g_68_35, sf_68_35, fe_68_35, g_68_36, sf_68_36, fe_68_36, g_68_37, sf_68_37, fe_68_37, g_68_38, sf_68_38, fe_68_38, rc_68, g_68_24, ga_77, gn_77, sa_77, ae_77, g_68_15, ga_71, gn_71, sa_71, ae_71, kl_0, kl_1, kl_2, kl_3, kl_4, kl_5, kl_6, kl_7, kl_8, kl_9, kl_10, kl_11, kl_12, jb_0_10, jb_1_10, jb_2_10, jb_3_10, jb_4_10, jb_5_10, jb_6_10, jb_7_10, jb_8_10, jb_9_10, jb_0_211, jb_1_211, jb_2_211, jb_3_211, jb_4_211, jb_5_211, jb_6_211, jb_7_211, jb_8_211, jb_9_211, jb_10_211, jb_11_211, jb_12_211, hs7, nI_les, hI7.2.1, hI7.lr, rgR, c2, m_dbtT hI7, hJT, m_ones, hJD, a7, od1, pk_sub od2, lN_l (by omega : n - pc (dbN n (D set)) < 2 ^ 31), lN_mul, t6, lN_add, t7, t8, ed, ez, decide_eq_false_iff_not, l0, Nat.add_zero]
        have fin : ∀ x y : Nat, x = hAl D n hl m set → y = hDo D dd hl m set → Wp scr (d + 5) 286 47 [some (.ref 68), some (.int (nI m)), some (.int (nI dd)), some (.int (nI (set + 1))), some (.long (lN (hlW hl set m))), none, some (.int (nI m)), o7] [] (hpf (hpf (hpf H7 68 36 (.long (lN (hlS (hBe D n hl m) set + hlW hl set m * (n - pc (dbN n (D set))))))) 68 37 (.long (lN (hlS (hAl D n hl m) set + x)))) 68 38 (.long (lN (hlS (hDo D dd hl m) set + y)))) Q := by
          intro x y hx hy
          refine hw _ _ _ _ (((hF7.trans (fg_hpfl (a := 68) (f := 36) (ci := 12) hs7 rfl (by decide))).trans (fg_hpfl (a := 68) (f := 37) (ci := 12) (st36 _) rfl (by decide))).trans (fg_hpfl (a := 68) (f := 38) (ci := 12) (st37 _ _) rfl (by decide))) ?_ ?_ ?_ ?_
          · rw [fl_hpf_ne (by decide), fl_hpf_ne (by decide), fl_hpf_ne (by decide), t5]
          · rw [fl_hpf_ne (by decide), fl_hpf_ne (by decide), fe_68_36 hs7]; rfl
          · rw [fl_hpf_ne (by decide), fe_68_37 (st36 _), hx]; rfl
          · rw [fe_68_38 (st37 _ _), hy]; rfl
        by_cases hz : dbN n (D set) = 0
        · by_cases hd2 : (D set).getD dd 0 < 10
          · simp only [hz, hd2, oK_some, cont_int, cont_intS, cont_none, cont_noneS, cont_long, cont_longS, true_and, and_true, false_and, and_false, true_implies, false_implies, not_true_eq_false, not_false_eq_true, eq_self, or_true, true_or, Option.isSome_some, hpf_length, hpa_length, bI_eq0, fi_hpa, fl_hpa, ar_hpf, fi_hpf_ne, fl_hpf_ne, ar_hpa_ne, hpa_hpa, hpf_hpf, nI_1, two_ne, fokZ, implies_true, Nat.reduceEqDiff]
            have := fin (hlW hl set m) (hlW hl set m) (by unfold hAl; rw [if_pos hz]) (by unfold hDo; rw [if_pos hd2])
            rw [hz] at this
            exact this
          · simp only [hz, hd2, oK_some, cont_int, cont_intS, cont_none, cont_noneS, cont_long, cont_longS, true_and, and_true, false_and, and_false, true_implies, false_implies, not_true_eq_false, not_false_eq_true, eq_self, or_true, true_or, Option.isSome_some, hpf_length, hpa_length, bI_eq0, fi_hpa, fl_hpa, ar_hpf, fi_hpf_ne, fl_hpf_ne, ar_hpa_ne, hpa_hpa, hpf_hpf, nI_1, two_ne, fokZ, implies_true, Nat.reduceEqDiff]
            have := fin (hlW hl set m) 0 (by unfold hAl; rw [if_pos hz]) (by unfold hDo; rw [if_neg hd2])
            rw [hz] at this
            exact this
        · by_cases hd2 : (D set).getD dd 0 < 10
          · simp only [hz, hd2, oK_some, cont_int, cont_intS, cont_none, cont_noneS, cont_long, cont_longS, true_and, and_true, false_and, and_false, true_implies, false_implies, not_true_eq_false, not_false_eq_true, eq_self, or_true, true_or, Option.isSome_some, hpf_length, hpa_length, bI_eq0, fi_hpa, fl_hpa, ar_hpf, fi_hpf_ne, fl_hpf_ne, ar_hpa_ne, hpa_hpa, hpf_hpf, nI_1, two_ne, fokZ, implies_true, Nat.reduceEqDiff]
            exact fin 0 (hlW hl set m) (by unfold hAl; rw [if_neg hz]) (by unfold hDo; rw [if_pos hd2])
          · simp only [hz, hd2, oK_some, cont_int, cont_intS, cont_none, cont_noneS, cont_long, cont_longS, true_and, and_true, false_and, and_false, true_implies, false_implies, not_true_eq_false, not_false_eq_true, eq_self, or_true, true_or, Option.isSome_some, hpf_length, hpa_length, bI_eq0, fi_hpa, fl_hpa, ar_hpf, fi_hpf_ne, fl_hpf_ne, ar_hpa_ne, hpa_hpa, hpf_hpf, nI_1, two_ne, fokZ, implies_true, Nat.reduceEqDiff]
            exact fin 0 0 (by unfold hAl; rw [if_neg hz]) (by unfold hDo; rw [if_neg hd2])
      · intro i hi hw2 H7 o7 hF7 r7 t5 t6 t7 t8 a7
        have hI7 := hI.of hF7 (by decide) (by decide) (by decide) (by decide)
        have hs7 := hF7.shp
        rw [w286_64]
        simp (maxDischargeDepth := 12) only [w286_0, w286_1, w286_2, w286_5, w286_6, w286_8, w286_9, w286_12, w286_13, w286_14, w286_17, w286_20, w286_21, w286_24, w286_27, w286_30, w286_31, w286_32, w286_35, w286_36, w286_37, w286_40, w286_41, w286_42, w286_45, w286_46, w286_48, w286_49, w286_50, w286_51, w286_54, w286_55, w286_58, w286_59, w286_61, w286_62, w286_66, w286_67, w286_70, w286_71, w286_72, w286_75, w286_78, w286_80, w286_81, w286_83, w286_86, w286_89, w286_90, w286_93, w286_94, w286_95, w286_96, w286_99, w286_101, w286_102, w286_105, w286_106, w286_107, w286_108, w286_109, w286_110, w286_112, w286_113, w286_117, w286_118, w286_121, w286_122, w286_123, w286_126, w286_127, w286_129, w286_132, w286_135, w286_136, w286_139, w286_141, w286_142, w286_143, w286_144, w286_147, w286_149, w286_152, w286_155, w286_156, w286_159, w286_160, w286_161, w286_162, w286_165, w286_168, w286_171, w286_174, w286_175, w286_176, w286_179, w286_181, w286_182, w286_185, w286_186, w286_187, w286_188, w286_189, w286_192, w286_195, w286_198, w286_199, w286_200, w286_201, w286_202, w286_205, w286_206, w286_207, w286_210, w286_211, w286_212, w286_215, w286_218, w286_221, w286_223, w286_226, w286_227, w286_228, w286_231, w286_232, w286_233, w286_236, w286_237, w286_240, w286_241, w286_244, w286_247, w286_249, w286_252, w286_253, w286_254, w286_257, w286_260, w286_263, oK_some, cont_int, cont_intS, cont_none, cont_noneS, cont_long, cont_longS, true_and, and_true, false_and, and_false, true_implies, false_implies, not_true_eq_false, not_false_eq_true, eq_self, or_true, true_or, Option.isSome_some, hpf_length, hpa_length, bI_eq0, fi_hpa, fl_hpa, ar_hpf, fi_hpf_ne, fl_hpf_ne, ar_hpa_ne, hpa_hpa, hpf_hpf, nI_1, two_ne, fokZ, implies_true, Nat.reduceEqDiff, g_68_35, sf_68_35, fe_68_35, g_68_36, sf_68_36, fe_68_36, g_68_37, sf_68_37, fe_68_37, g_68_38, sf_68_38, fe_68_38, rc_68, g_68_24, ga_77, gn_77, sa_77, ae_77, g_68_15, ga_71, gn_71, sa_71, ae_71, kl_0, kl_1, kl_2, kl_3, kl_4, kl_5, kl_6, kl_7, kl_8, kl_9, kl_10, kl_11, kl_12, jb_0_10, jb_1_10, jb_2_10, jb_3_10, jb_4_10, jb_5_10, jb_6_10, jb_7_10, jb_8_10, jb_9_10, jb_0_211, jb_1_211, jb_2_211, jb_3_211, jb_4_211, jb_5_211, jb_6_211, jb_7_211, jb_8_211, jb_9_211, jb_10_211, jb_11_211, jb_12_211, hs7, nI_lef hi (by omega : m < 2147483648)]
        refine m_dayT hI7 (fun H8 hF8 a8 => ?_)
        have hI8 := hI7.of hF8 (by decide) (by decide) (by decide) (by decide)
        have hs8 := hF8.shp
        rw [r7, a7] at a8
        have ehb : hb (nI set) (nI i) = set.testBit i := hb_nI set (List.mem_range.mpr hset') i (List.mem_range.mpr (by omega))
        have e100 : (100 : Int32) - nI hl = nI (100 - hl) := pk_sub (a := 100) hl1
        have ews : hlD R (allU nU) n nW nG nU set (i + 1) st = hlL n (set.testBit i) (dayM R (allU nU) n nW nG nU (hlD R (allU nU) n nW nG nU set i st)) := rfl
        have ewt : hlW hl set (i + 1) = hlW hl set i * (if set.testBit i = true then hl else 100 - hl) := rfl
        rw [ews] at hw2
        have hF9 := hF7.trans (hF8.mono (T := [76, 77]) (G := [(68, 22), (68, 35), (68, 36), (68, 37), (68, 38)]) (by decide) (by decide))
        have u2 : fi H8 68 22 = allU nU := by rw [hF8.int (by decide) (by decide), r7]
        have u5 : fl H8 68 35 = lN (100 ^ m) := by rw [hF8.lng (by decide) (by decide), t5]
        have u6 : fl H8 68 36 = lN (hlS (hBe D n hl m) set) := by rw [hF8.lng (by decide) (by decide), t6]
        have u7 : fl H8 68 37 = lN (hlS (hAl D n hl m) set) := by rw [hF8.lng (by decide) (by decide), t7]
        have u8 : fl H8 68 38 = lN (hlS (hDo D dd hl m) set) := by rw [hF8.lng (by decide) (by decide), t8]
        generalize dayM R (allU nU) n nW nG nU (hlD R (allU nU) n nW nG nU set i st) = Y at a8 hw2
        simp (maxDischargeDepth := 12) only [w286_0, w286_1, w286_2, w286_5, w286_6, w286_8, w286_9, w286_12, w286_13, w286_14, w286_17, w286_20, w286_21, w286_24, w286_27, w286_30, w286_31, w286_32, w286_35, w286_36, w286_37, w286_40, w286_41, w286_42, w286_45, w286_46, w286_48, w286_49, w286_50, w286_51, w286_54, w286_55, w286_58, w286_59, w286_61, w286_62, w286_66, w286_67, w286_70, w286_71, w286_72, w286_75, w286_78, w286_80, w286_81, w286_83, w286_86, w286_89, w286_90, w286_93, w286_94, w286_95, w286_96, w286_99, w286_101, w286_102, w286_105, w286_106, w286_107, w286_108, w286_109, w286_110, w286_112, w286_113, w286_117, w286_118, w286_121, w286_122, w286_123, w286_126, w286_127, w286_129, w286_132, w286_135, w286_136, w286_139, w286_141, w286_142, w286_143, w286_144, w286_147, w286_149, w286_152, w286_155, w286_156, w286_159, w286_160, w286_161, w286_162, w286_165, w286_168, w286_171, w286_174, w286_175, w286_176, w286_179, w286_181, w286_182, w286_185, w286_186, w286_187, w286_188, w286_189, w286_192, w286_195, w286_198, w286_199, w286_200, w286_201, w286_202, w286_205, w286_206, w286_207, w286_210, w286_211, w286_212, w286_215, w286_218, w286_221, w286_223, w286_226, w286_227, w286_228, w286_231, w286_232, w286_233, w286_236, w286_237, w286_240, w286_241, w286_244, w286_247, w286_249, w286_252, w286_253, w286_254, w286_257, w286_260, w286_263, oK_some, cont_int, cont_intS, cont_none, cont_noneS, cont_long, cont_longS, true_and, and_true, false_and, and_false, true_implies, false_implies, not_true_eq_false, not_false_eq_true, eq_self, or_true, true_or, Option.isSome_some, hpf_length, hpa_length, bI_eq0, fi_hpa, fl_hpa, ar_hpf, fi_hpf_ne, fl_hpf_ne, ar_hpa_ne, hpa_hpa, hpf_hpf, nI_1, two_ne, fokZ, implies_true, Nat.reduceEqDiff, g_68_35, sf_68_35, fe_68_35, g_68_36, sf_68_36, fe_68_36, g_68_37, sf_68_37, fe_68_37, g_68_38, sf_68_38, fe_68_38, rc_68, g_68_24, ga_77, gn_77, sa_77, ae_77, g_68_15, ga_71, gn_71, sa_71, ae_71, kl_0, kl_1, kl_2, kl_3, kl_4, kl_5, kl_6, kl_7, kl_8, kl_9, kl_10, kl_11, kl_12, jb_0_10, jb_1_10, jb_2_10, jb_3_10, jb_4_10, jb_5_10, jb_6_10, jb_7_10, jb_8_10, jb_9_10, jb_0_211, jb_1_211, jb_2_211, jb_3_211, jb_4_211, jb_5_211, jb_6_211, jb_7_211, jb_8_211, jb_9_211, jb_10_211, jb_11_211, jb_12_211, hF8.len, hs8, hI8.2.1, hI8.lr, rgR, hH, m_hasBit, ehb, e100, lN_l (by omega : hl < 2 ^ 31), lN_l (by omega : 100 - hl < 2 ^ 31), lN_mul]
        cases hbt : set.testBit i
        · rw [hbt] at hw2 ewt
          simp only [Bool.false_eq_true, if_false] at ewt
          simp only [oK_some, cont_int, cont_intS, cont_none, cont_noneS, cont_long, cont_longS, true_and, and_true, false_and, and_false, true_implies, false_implies, not_true_eq_false, not_false_eq_true, eq_self, or_true, true_or, Option.isSome_some, hpf_length, hpa_length, bI_eq0, fi_hpa, fl_hpa, ar_hpf, fi_hpf_ne, fl_hpf_ne, ar_hpa_ne, hpa_hpa, hpf_hpf, nI_1, two_ne, fokZ, implies_true, Nat.reduceEqDiff]
          rw [w286_115]
          simp (maxDischargeDepth := 12) only [w286_0, w286_1, w286_2, w286_5, w286_6, w286_8, w286_9, w286_12, w286_13, w286_14, w286_17, w286_20, w286_21, w286_24, w286_27, w286_30, w286_31, w286_32, w286_35, w286_36, w286_37, w286_40, w286_41, w286_42, w286_45, w286_46, w286_48, w286_49, w286_50, w286_51, w286_54, w286_55, w286_58, w286_59, w286_61, w286_62, w286_66, w286_67, w286_70, w286_71, w286_72, w286_75, w286_78, w286_80, w286_81, w286_83, w286_86, w286_89, w286_90, w286_93, w286_94, w286_95, w286_96, w286_99, w286_101, w286_102, w286_105, w286_106, w286_107, w286_108, w286_109, w286_110, w286_112, w286_113, w286_117, w286_118, w286_121, w286_122, w286_123, w286_126, w286_127, w286_129, w286_132, w286_135, w286_136, w286_139, w286_141, w286_142, w286_143, w286_144, w286_147, w286_149, w286_152, w286_155, w286_156, w286_159, w286_160, w286_161, w286_162, w286_165, w286_168, w286_171, w286_174, w286_175, w286_176, w286_179, w286_181, w286_182, w286_185, w286_186, w286_187, w286_188, w286_189, w286_192, w286_195, w286_198, w286_199, w286_200, w286_201, w286_202, w286_205, w286_206, w286_207, w286_210, w286_211, w286_212, w286_215, w286_218, w286_221, w286_223, w286_226, w286_227, w286_228, w286_231, w286_232, w286_233, w286_236, w286_237, w286_240, w286_241, w286_244, w286_247, w286_249, w286_252, w286_253, w286_254, w286_257, w286_260, w286_263, oK_some, cont_int, cont_intS, cont_none, cont_noneS, cont_long, cont_longS, true_and, and_true, false_and, and_false, true_implies, false_implies, not_true_eq_false, not_false_eq_true, eq_self, or_true, true_or, Option.isSome_some, hpf_length, hpa_length, bI_eq0, fi_hpa, fl_hpa, ar_hpf, fi_hpf_ne, fl_hpf_ne, ar_hpa_ne, hpa_hpa, hpf_hpf, nI_1, two_ne, fokZ, implies_true, Nat.reduceEqDiff, g_68_35, sf_68_35, fe_68_35, g_68_36, sf_68_36, fe_68_36, g_68_37, sf_68_37, fe_68_37, g_68_38, sf_68_38, fe_68_38, rc_68, g_68_24, ga_77, gn_77, sa_77, ae_77, g_68_15, ga_71, gn_71, sa_71, ae_71, kl_0, kl_1, kl_2, kl_3, kl_4, kl_5, kl_6, kl_7, kl_8, kl_9, kl_10, kl_11, kl_12, jb_0_10, jb_1_10, jb_2_10, jb_3_10, jb_4_10, jb_5_10, jb_6_10, jb_7_10, jb_8_10, jb_9_10, jb_0_211, jb_1_211, jb_2_211, jb_3_211, jb_4_211, jb_5_211, jb_6_211, jb_7_211, jb_8_211, jb_9_211, jb_10_211, jb_11_211, jb_12_211, hs8, hI8.2.1, hI8.lr, rgR, c2, m_hasBit, ehb, hbt]
          have fin := fun o => hw2 H8 o hF9 u2 u5 u6 u7 u8 (by rw [a8]; rfl)
          rw [ewt] at fin
          exact ⟨fun _ => fin _, fun _ => fin _⟩
        · rw [hbt] at hw2 ewt
          simp only [if_true] at ewt
          simp only [oK_some, cont_int, cont_intS, cont_none, cont_noneS, cont_long, cont_longS, true_and, and_true, false_and, and_false, true_implies, false_implies, not_true_eq_false, not_false_eq_true, eq_self, or_true, true_or, Option.isSome_some, hpf_length, hpa_length, bI_eq0, fi_hpa, fl_hpa, ar_hpf, fi_hpf_ne, fl_hpf_ne, ar_hpa_ne, hpa_hpa, hpf_hpf, nI_1, two_ne, fokZ, implies_true, Nat.reduceEqDiff, Bool.true_eq_false]
          have key4 := down (P := fun k => ∀ H10, Fg [76, 77] [(68, 22), (68, 35), (68, 36), (68, 37), (68, 38)] H H10 → fi H10 68 22 = allU nU → fl H10 68 35 = lN (100 ^ m) → fl H10 68 36 = lN (hlS (hBe D n hl m) set) → fl H10 68 37 = lN (hlS (hAl D n hl m) set) → fl H10 68 38 = lN (hlS (hDo D dd hl m) set) → ar H10 77 = forN hlK k Y → Wp scr (d + 5) 286 115 [some (.ref 68), some (.int (nI m)), some (.int (nI dd)), some (.int (nI set)), some (.long (lN (hlW hl set i * hl))), none, some (.int (nI i)), some (.int (nI k))] [] H10 Q) n ?_ ?_
          · exact key4 H8 hF9 u2 u5 u6 u7 u8 a8
          · intro H10 hF10 v2 v5 v6 v7 v8 a10
            have hI10 := hI.of hF10 (by decide) (by decide) (by decide) (by decide)
            have hs10 := hF10.shp
            rw [w286_115]
            simp (maxDischargeDepth := 12) only [w286_0, w286_1, w286_2, w286_5, w286_6, w286_8, w286_9, w286_12, w286_13, w286_14, w286_17, w286_20, w286_21, w286_24, w286_27, w286_30, w286_31, w286_32, w286_35, w286_36, w286_37, w286_40, w286_41, w286_42, w286_45, w286_46, w286_48, w286_49, w286_50, w286_51, w286_54, w286_55, w286_58, w286_59, w286_61, w286_62, w286_66, w286_67, w286_70, w286_71, w286_72, w286_75, w286_78, w286_80, w286_81, w286_83, w286_86, w286_89, w286_90, w286_93, w286_94, w286_95, w286_96, w286_99, w286_101, w286_102, w286_105, w286_106, w286_107, w286_108, w286_109, w286_110, w286_112, w286_113, w286_117, w286_118, w286_121, w286_122, w286_123, w286_126, w286_127, w286_129, w286_132, w286_135, w286_136, w286_139, w286_141, w286_142, w286_143, w286_144, w286_147, w286_149, w286_152, w286_155, w286_156, w286_159, w286_160, w286_161, w286_162, w286_165, w286_168, w286_171, w286_174, w286_175, w286_176, w286_179, w286_181, w286_182, w286_185, w286_186, w286_187, w286_188, w286_189, w286_192, w286_195, w286_198, w286_199, w286_200, w286_201, w286_202, w286_205, w286_206, w286_207, w286_210, w286_211, w286_212, w286_215, w286_218, w286_221, w286_223, w286_226, w286_227, w286_228, w286_231, w286_232, w286_233, w286_236, w286_237, w286_240, w286_241, w286_244, w286_247, w286_249, w286_252, w286_253, w286_254, w286_257, w286_260, w286_263, oK_some, cont_int, cont_intS, cont_none, cont_noneS, cont_long, cont_longS, true_and, and_true, false_and, and_false, true_implies, false_implies, not_true_eq_false, not_false_eq_true, eq_self, or_true, true_or, Option.isSome_some, hpf_length, hpa_length, bI_eq0, fi_hpa, fl_hpa, ar_hpf, fi_hpf_ne, fl_hpf_ne, ar_hpa_ne, hpa_hpa, hpf_hpf, nI_1, two_ne, fokZ, implies_true, Nat.reduceEqDiff, g_68_35, sf_68_35, fe_68_35, g_68_36, sf_68_36, fe_68_36, g_68_37, sf_68_37, fe_68_37, g_68_38, sf_68_38, fe_68_38, rc_68, g_68_24, ga_77, gn_77, sa_77, ae_77, g_68_15, ga_71, gn_71, sa_71, ae_71, kl_0, kl_1, kl_2, kl_3, kl_4, kl_5, kl_6, kl_7, kl_8, kl_9, kl_10, kl_11, kl_12, jb_0_10, jb_1_10, jb_2_10, jb_3_10, jb_4_10, jb_5_10, jb_6_10, jb_7_10, jb_8_10, jb_9_10, jb_0_211, jb_1_211, jb_2_211, jb_3_211, jb_4_211, jb_5_211, jb_6_211, jb_7_211, jb_8_211, jb_9_211, jb_10_211, jb_11_211, jb_12_211, hs10, hI10.2.1, hI10.lr, rgR, c2, nI_les]
            rw [← ewt]
            exact hw2 H10 _ hF10 v2 v5 v6 v7 v8 (by rw [a10]; rfl)
          · intro k hk hw3 H10 hF10 v2 v5 v6 v7 v8 a10
            have hI10 := hI.of hF10 (by decide) (by decide) (by decide) (by decide)
            have hs10 := hF10.shp
            have l77 : (ar H10 77).length = 10 := gn_77 hs10
            rw [forN_succ, ← a10] at hw3
            rw [w286_115]
            simp (maxDischargeDepth := 12) only [w286_0, w286_1, w286_2, w286_5, w286_6, w286_8, w286_9, w286_12, w286_13, w286_14, w286_17, w286_20, w286_21, w286_24, w286_27, w286_30, w286_31, w286_32, w286_35, w286_36, w286_37, w286_40, w286_41, w286_42, w286_45, w286_46, w286_48, w286_49, w286_50, w286_51, w286_54, w286_55, w286_58, w286_59, w286_61, w286_62, w286_66, w286_67, w286_70, w286_71, w286_72, w286_75, w286_78, w286_80, w286_81, w286_83, w286_86, w286_89, w286_90, w286_93, w286_94, w286_95, w286_96, w286_99, w286_101, w286_102, w286_105, w286_106, w286_107, w286_108, w286_109, w286_110, w286_112, w286_113, w286_117, w286_118, w286_121, w286_122, w286_123, w286_126, w286_127, w286_129, w286_132, w286_135, w286_136, w286_139, w286_141, w286_142, w286_143, w286_144, w286_147, w286_149, w286_152, w286_155, w286_156, w286_159, w286_160, w286_161, w286_162, w286_165, w286_168, w286_171, w286_174, w286_175, w286_176, w286_179, w286_181, w286_182, w286_185, w286_186, w286_187, w286_188, w286_189, w286_192, w286_195, w286_198, w286_199, w286_200, w286_201, w286_202, w286_205, w286_206, w286_207, w286_210, w286_211, w286_212, w286_215, w286_218, w286_221, w286_223, w286_226, w286_227, w286_228, w286_231, w286_232, w286_233, w286_236, w286_237, w286_240, w286_241, w286_244, w286_247, w286_249, w286_252, w286_253, w286_254, w286_257, w286_260, w286_263, oK_some, cont_int, cont_intS, cont_none, cont_noneS, cont_long, cont_longS, true_and, and_true, false_and, and_false, true_implies, false_implies, not_true_eq_false, not_false_eq_true, eq_self, or_true, true_or, Option.isSome_some, hpf_length, hpa_length, bI_eq0, fi_hpa, fl_hpa, ar_hpf, fi_hpf_ne, fl_hpf_ne, ar_hpa_ne, hpa_hpa, hpf_hpf, nI_1, two_ne, fokZ, implies_true, Nat.reduceEqDiff, g_68_35, sf_68_35, fe_68_35, g_68_36, sf_68_36, fe_68_36, g_68_37, sf_68_37, fe_68_37, g_68_38, sf_68_38, fe_68_38, rc_68, g_68_24, ga_77, gn_77, sa_77, ae_77, g_68_15, ga_71, gn_71, sa_71, ae_71, kl_0, kl_1, kl_2, kl_3, kl_4, kl_5, kl_6, kl_7, kl_8, kl_9, kl_10, kl_11, kl_12, jb_0_10, jb_1_10, jb_2_10, jb_3_10, jb_4_10, jb_5_10, jb_6_10, jb_7_10, jb_8_10, jb_9_10, jb_0_211, jb_1_211, jb_2_211, jb_3_211, jb_4_211, jb_5_211, jb_6_211, jb_7_211, jb_8_211, jb_9_211, jb_10_211, jb_11_211, jb_12_211, hs10, hI10.2.1, hI10.lr, rgR, c2, nI_lef hk (by omega : n < 2147483648), m_hasBit, ehb, hbt, Bool.true_eq_false, l77, inb_nI (i := k) (by omega), decide_eq_true (by omega : k < 10), nI_clamp (n := k) (by omega), m_doubts (ga_77 hs10) (gn_77 hs10) (by omega : k < 10), decide_eq_false_iff_not]
            have fin : ∀ v : Int32, v = (if (ar H10 77).getD k 0 < 10 then 0 else 1) → Wp scr (d + 5) 286 115 [some (.ref 68), some (.int (nI m)), some (.int (nI dd)), some (.int (nI set)), some (.long (lN (hlW hl set i * hl))), none, some (.int (nI i)), some (.int (nI (k + 1)))] [] (hpa H10 77 ((ar H10 77).set k ((ar H10 77).getD k 0 - v))) Q := by
              intro v hv
              refine hw3 _ (hF10.trans (fg_hpa hs10 (by rw [List.length_set]) (by decide))) (by rw [fi_hpa, v2]) (by rw [fl_hpa, v5]) (by rw [fl_hpa, v6]) (by rw [fl_hpa, v7]) (by rw [fl_hpa, v8]) ?_
              rw [ae_77 hs10, hv]
              rfl
            by_cases hc : (ar H10 77).getD k 0 < 10
            · simp only [hc, oK_some, cont_int, cont_intS, cont_none, cont_noneS, cont_long, cont_longS, true_and, and_true, false_and, and_false, true_implies, false_implies, not_true_eq_false, not_false_eq_true, eq_self, or_true, true_or, Option.isSome_some, hpf_length, hpa_length, bI_eq0, fi_hpa, fl_hpa, ar_hpf, fi_hpf_ne, fl_hpf_ne, ar_hpa_ne, hpa_hpa, hpf_hpf, nI_1, two_ne, fokZ, implies_true, Nat.reduceEqDiff]
              exact fin 0 (by rw [if_pos hc])
            · simp only [hc, oK_some, cont_int, cont_intS, cont_none, cont_noneS, cont_long, cont_longS, true_and, and_true, false_and, and_false, true_implies, false_implies, not_true_eq_false, not_false_eq_true, eq_self, or_true, true_or, Option.isSome_some, hpf_length, hpa_length, bI_eq0, fi_hpa, fl_hpa, ar_hpf, fi_hpf_ne, fl_hpf_ne, ar_hpa_ne, hpa_hpa, hpf_hpf, nI_1, two_ne, fokZ, implies_true, Nat.reduceEqDiff]
              exact fin 1 (by rw [if_neg hc])
  · intro i hi hw H2 hF2 w2
    have hs2 := hF2.shp
    rw [w286_7]
    simp (maxDischargeDepth := 12) only [w286_0, w286_1, w286_2, w286_5, w286_6, w286_8, w286_9, w286_12, w286_13, w286_14, w286_17, w286_20, w286_21, w286_24, w286_27, w286_30, w286_31, w286_32, w286_35, w286_36, w286_37, w286_40, w286_41, w286_42, w286_45, w286_46, w286_48, w286_49, w286_50, w286_51, w286_54, w286_55, w286_58, w286_59, w286_61, w286_62, w286_66, w286_67, w286_70, w286_71, w286_72, w286_75, w286_78, w286_80, w286_81, w286_83, w286_86, w286_89, w286_90, w286_93, w286_94, w286_95, w286_96, w286_99, w286_101, w286_102, w286_105, w286_106, w286_107, w286_108, w286_109, w286_110, w286_112, w286_113, w286_117, w286_118, w286_121, w286_122, w286_123, w286_126, w286_127, w286_129, w286_132, w286_135, w286_136, w286_139, w286_141, w286_142, w286_143, w286_144, w286_147, w286_149, w286_152, w286_155, w286_156, w286_159, w286_160, w286_161, w286_162, w286_165, w286_168, w286_171, w286_174, w286_175, w286_176, w286_179, w286_181, w286_182, w286_185, w286_186, w286_187, w286_188, w286_189, w286_192, w286_195, w286_198, w286_199, w286_200, w286_201, w286_202, w286_205, w286_206, w286_207, w286_210, w286_211, w286_212, w286_215, w286_218, w286_221, w286_223, w286_226, w286_227, w286_228, w286_231, w286_232, w286_233, w286_236, w286_237, w286_240, w286_241, w286_244, w286_247, w286_249, w286_252, w286_253, w286_254, w286_257, w286_260, w286_263, oK_some, cont_int, cont_intS, cont_none, cont_noneS, cont_long, cont_longS, true_and, and_true, false_and, and_false, true_implies, false_implies, not_true_eq_false, not_false_eq_true, eq_self, or_true, true_or, Option.isSome_some, hpf_length, hpa_length, bI_eq0, fi_hpa, fl_hpa, ar_hpf, fi_hpf_ne, fl_hpf_ne, ar_hpa_ne, hpa_hpa, hpf_hpf, nI_1, two_ne, fokZ, implies_true, Nat.reduceEqDiff, g_68_35, sf_68_35, fe_68_35, g_68_36, sf_68_36, fe_68_36, g_68_37, sf_68_37, fe_68_37, g_68_38, sf_68_38, fe_68_38, rc_68, g_68_24, ga_77, gn_77, sa_77, ae_77, g_68_15, ga_71, gn_71, sa_71, ae_71, kl_0, kl_1, kl_2, kl_3, kl_4, kl_5, kl_6, kl_7, kl_8, kl_9, kl_10, kl_11, kl_12, jb_0_10, jb_1_10, jb_2_10, jb_3_10, jb_4_10, jb_5_10, jb_6_10, jb_7_10, jb_8_10, jb_9_10, jb_0_211, jb_1_211, jb_2_211, jb_3_211, jb_4_211, jb_5_211, jb_6_211, jb_7_211, jb_8_211, jb_9_211, jb_10_211, jb_11_211, jb_12_211, hs2, nI_lef hi (by omega : m < 2147483648), w2, l100, lN_mul]
    refine hw _ (hF2.trans (fg_hpfl (a := 68) (f := 35) (ci := 12) hs2 rfl (by decide))) ?_
    rw [fe_68_35 hs2, Nat.pow_succ]
end MODELH
