/-! ===== the Model: the two parties ===== -/
/-- free signs: how many, by the mask of those that are taken or shown -/
def fcn (nG x : Nat) : Nat := ((List.range nG).filter (fun g => !x.testBit g)).length
def frI (nG : Nat) (x : Int32) : Int32 := allU nG &&& (x ^^^ (-1))
theorem fr_zero : ∀ nG ∈ List.range 7, ∀ x ∈ List.range 64, decide (frI nG (nI x) = 0) = decide (fcn nG x = 0) := by decide +kernel
theorem fr_bit : ∀ nG ∈ List.range 7, ∀ x ∈ List.range 64, ∀ g ∈ List.range nG, hb (frI nG (nI x)) (nI g) = !x.testBit g := by decide +kernel
theorem fc_or : ∀ nG ∈ List.range 7, ∀ x ∈ List.range 64, ∀ g ∈ List.range nG, x.testBit g = false → fcn nG (x ||| 2 ^ g) + 1 = fcn nG x := by decide +kernel
theorem or64 {a b : Nat} (ha : a < 64) (hb : b < 64) : a ||| b < 64 := Nat.or_lt_two_pow (n := 6) ha hb
theorem nI_or6 : ∀ a ∈ List.range 64, ∀ b ∈ List.range 64, nI a ||| nI b = nI (a ||| b) := by decide +kernel
theorem nI_or {a b : Nat} (ha : a < 64) (hb : b < 64) : nI a ||| nI b = nI (a ||| b) := nI_or6 a (List.mem_range.mpr ha) b (List.mem_range.mpr hb)
theorem fcn_le {nG x : Nat} : fcn nG x ≤ nG := by
  unfold fcn
  have := List.length_filter_le (fun g => !x.testBit g) (List.range nG)
  rwa [List.length_range] at this
def gmx (v b : Int32) : Int32 := if b < v then v else b
def gmn (v b : Int32) : Int32 := if v < b then v else b
/-- the worth of a stand, with fuel: what one and the other have, whose turn, whether one has just passed -/
def vV (Bs : List Int32) (sh nG : Nat) : Nat → Nat → Nat → Nat → Nat → Int32
  | 0, _, _, _, _ => 0
  | f + 1, one, other, t, p => if fcn nG (sh ||| one ||| other) = 0 then Bs.getD one 0 else forN (fun g best => if (sh ||| one ||| other).testBit g = true then best else if t = 0 then gmx (vV Bs sh nG f (one ||| 2 ^ g) other 1 0) best else gmn (vV Bs sh nG f one (other ||| 2 ^ g) 0 0) best) nG (if p = 1 then Bs.getD one 0 else vV Bs sh nG f one other (1 - t) 1)
def gms (nG sh one other p : Nat) : Nat := 2 * fcn nG (sh ||| one ||| other) + (1 - p)
theorem or_one {sh one other g : Nat} : sh ||| (one ||| 2 ^ g) ||| other = sh ||| one ||| other ||| 2 ^ g := by
  rw [← Nat.or_assoc, Nat.or_assoc (sh ||| one), Nat.or_comm (2 ^ g) other, ← Nat.or_assoc]
theorem or_oth {sh one other g : Nat} : sh ||| one ||| (other ||| 2 ^ g) = sh ||| one ||| other ||| 2 ^ g := by
  rw [← Nat.or_assoc]
theorem pow64 {g : Nat} (h : g < 6) : 2 ^ g < 64 := Nat.pow_lt_pow_right (a := 2) (by decide) h
section GAME
variable {Bs : List Int32} {sh nG : Nat}
theorem gms_take (hG : nG < 7) (hs : sh < 64) {one other p g : Nat} (h1 : one < 64) (h2 : other < 64) (hg : g < nG) (hf : (sh ||| one ||| other).testBit g = false) : gms nG sh (one ||| 2 ^ g) other 0 < gms nG sh one other p ∧ gms nG sh one (other ||| 2 ^ g) 0 < gms nG sh one other p := by
  have := fc_or nG (List.mem_range.mpr hG) _ (List.mem_range.mpr (or64 (or64 hs h1) h2)) g (List.mem_range.mpr hg) hf
  unfold gms
  rw [or_one, or_oth]
  omega
theorem vV_stab (hG : nG < 7) (hs : sh < 64) : ∀ f one other t p, one < 64 → other < 64 → p < 2 → gms nG sh one other p < f → vV Bs sh nG f one other t p = vV Bs sh nG (f + 1) one other t p
  | 0, _, _, _, _, _, _, _, h => absurd h (Nat.not_lt_zero _)
  | f + 1, one, other, t, p, h1, h2, hp, h => by
    rw [vV, vV]
    by_cases hz : fcn nG (sh ||| one ||| other) = 0
    · rw [if_pos hz, if_pos hz]
    · rw [if_neg hz, if_neg hz]
      have e0 : (if p = 1 then Bs.getD one 0 else vV Bs sh nG f one other (1 - t) 1) = (if p = 1 then Bs.getD one 0 else vV Bs sh nG (f + 1) one other (1 - t) 1) := by
        by_cases hp1 : p = 1
        · rw [if_pos hp1, if_pos hp1]
        · rw [if_neg hp1, if_neg hp1, vV_stab hG hs f one other (1 - t) 1 h1 h2 (by decide) (by unfold gms at h ⊢; omega)]
      rw [e0]
      refine forN_congr nG _ (fun g hg best => ?_)
      cases hb : (sh ||| one ||| other).testBit g
      · obtain ⟨m1, m2⟩ := gms_take (p := p) hG hs h1 h2 hg hb
        rw [vV_stab hG hs f (one ||| 2 ^ g) other 1 0 (or64 h1 (pow64 (by omega))) h2 (by decide) (by omega), vV_stab hG hs f one (other ||| 2 ^ g) 0 0 h1 (or64 h2 (pow64 (by omega))) (by decide) (by omega)]
      · simp only [if_true]
theorem vV_14 (hG : nG < 7) (hs : sh < 64) {f one other t p : Nat} (h1 : one < 64) (h2 : other < 64) (hp : p < 2) (h : gms nG sh one other p < f) : ∀ k, vV Bs sh nG f one other t p = vV Bs sh nG (f + k) one other t p
  | 0 => rfl
  | k + 1 => by rw [vV_14 hG hs h1 h2 hp h k, ← Nat.add_assoc, vV_stab hG hs (f + k) one other t p h1 h2 hp (by omega)]
end GAME
def gky (one other t p : Nat) : Nat := ((one * 64 + other) * 2 + t) * 2 + p
def Mmo (Bs : List Int32) (sh nG : Nat) (V : List Int32) : Prop := ∀ one other t p, one < 64 → other < 64 → t < 2 → p < 2 → V.getD (gky one other t p) 0 = -1 ∨ V.getD (gky one other t p) 0 = vV Bs sh nG 14 one other t p
theorem gky_inj {a b c e a' b' c' e' : Nat} (h1 : b < 64) (h2 : c < 2) (h3 : e < 2) (h1' : b' < 64) (h2' : c' < 2) (h3' : e' < 2) (h : gky a b c e = gky a' b' c' e') : a = a' ∧ b = b' ∧ c = c' ∧ e = e' := by
  unfold gky at h
  omega
theorem Mmo_set {Bs V : List Int32} {sh nG one other t p : Nat} (h : Mmo Bs sh nG V) (h2 : other < 64) (h3 : t < 2) (h4 : p < 2) : Mmo Bs sh nG (V.set (gky one other t p) (vV Bs sh nG 14 one other t p)) := by
  intro a b c e ha hb hc he
  rw [getD_set]
  by_cases q : gky one other t p = gky a b c e ∧ gky a b c e < V.length
  · rw [if_pos q]
    obtain ⟨rfl, rfl, rfl, rfl⟩ := gky_inj h2 h3 h4 hb hc he q.1
    exact Or.inr rfl
  · rw [if_neg q]
    exact h a b c e ha hb hc he
section MODELF
variable {scr : List Int32} {d n nS nW nG nU nN w sh : Nat} {H : List AC} {R st Bs : List Int32} {Q : Option Value → List AC → Prop}
theorem m_freeSigns {one other : Nat} (hI : MIv H R st n nS nW nG nU nN) (hsh : st.getD 7 0 = nI sh) (hs : sh < 64) (h1 : one < 64) (h2 : other < 64) : Wp scr d 282 0 [some (.ref 68), some (.int (nI one)), some (.int (nI other))] [] H Q ↔ Q (some (.int (frI nG (nI (sh ||| one ||| other))))) H := by
  have hS := hI.shp
  have rgR : ∀ j, R.getD j 0 = rg R j := fun _ => rfl
  simp (maxDischargeDepth := 12) only [w282_0, w282_1, w282_2, w282_5, w282_6, w282_7, w282_8, w282_9, w282_10, w282_11, w282_14, w282_16, w282_17, w282_18, w282_19, w282_20, w282_21, w282_22, w282_23, w282_24, oK_some, cont_int, cont_intS, cont_none, cont_noneS, cont_long, cont_longS, true_and, and_true, false_and, and_false, true_implies, false_implies, not_true_eq_false, not_false_eq_true, eq_self, or_true, true_or, Option.isSome_some, hpf_length, hpa_length, bI_eq0, fi_hpa, fl_hpa, ar_hpf, fi_hpf_ne, fl_hpf_ne, ar_hpa_ne, hpa_hpa, hpf_hpf, nI_1, two_ne, fokZ, implies_true, Nat.reduceEqDiff, g_68_15, ga_71, gn_71, sa_71, ae_71, g_68_17, ga_73, gn_73, sa_73, ae_73, kl_0, kl_1, kl_2, kl_3, kl_4, kl_5, kl_6, kl_7, kl_8, kl_9, kl_10, kl_11, kl_12, jb_0_10, jb_1_10, jb_2_10, jb_3_10, jb_4_10, jb_5_10, jb_6_10, jb_7_10, jb_8_10, jb_9_10, jb_0_211, jb_1_211, jb_2_211, jb_3_211, jb_4_211, jb_5_211, jb_6_211, jb_7_211, jb_8_211, jb_9_211, jb_10_211, jb_11_211, jb_12_211, hS, hI.2.1, hI.lr, rgR, hI.mn.2.2.2.1, hI.2.2.1, hI.l, jb_7_10, hsh, nI_or hs h1, nI_or (or64 hs h1) h2]
  rfl
theorem m_valueOf (hG : nG < 7) (hsh : st.getD 7 0 = nI sh) (hs : sh < 64) (lB : Bs.length = 64) : ∀ μ one other t p, one < 64 → other < 64 → t < 2 → p < 2 → gms nG sh one other p ≤ μ → μ ≤ 13 → ∀ H, MIv H R st n nS nW nG nU nN → ar H 81 = Bs → Mmo Bs sh nG (ar H 82) → ∀ Q, (∀ H', Fg [82] [] H H' → Mmo Bs sh nG (ar H' 82) → Q (some (.int (vV Bs sh nG 14 one other t p))) H') → Wp scr (d + μ + 2) 283 0 [some (.ref 68), some (.int (nI one)), some (.int (nI other)), some (.int (nI t)), some (.int (nI p)), none, none, none, none] [] H Q := by
  intro μ
  induction μ with
  | zero =>
    intro one other t p h1 h2 ht hp hm _ H hI hB hV Q hQ
    have hz : fcn nG (sh ||| one ||| other) = 0 := by unfold gms at hm; omega
    have hS := hI.shp
    have ez : frI nG (nI (sh ||| one ||| other)) = 0 := by
      have := fr_zero nG (List.mem_range.mpr hG) _ (List.mem_range.mpr (or64 (or64 hs h1) h2))
      rw [decide_eq_true hz] at this
      exact of_decide_eq_true this
    rw [w283_0]
    simp (maxDischargeDepth := 12) only [w283_1, w283_2, w283_3, w283_6, w283_9, w283_10, w283_13, w283_14, w283_15, w283_16, w283_17, w283_19, w283_20, w283_21, w283_22, w283_23, w283_24, w283_25, w283_26, w283_27, w283_28, w283_30, w283_31, w283_33, w283_34, w283_37, w283_39, w283_40, w283_41, w283_44, w283_45, w283_48, w283_50, w283_51, w283_52, w283_54, w283_55, w283_58, w283_59, w283_62, w283_63, w283_64, w283_67, w283_68, w283_69, w283_70, w283_71, w283_72, w283_73, w283_74, w283_77, w283_79, w283_80, w283_84, w283_85, w283_88, w283_89, w283_90, w283_93, w283_94, w283_95, w283_96, w283_99, w283_101, w283_104, w283_107, w283_110, w283_111, w283_114, w283_115, w283_116, w283_117, w283_119, w283_120, w283_121, w283_122, w283_123, w283_124, w283_127, w283_130, w283_131, w283_132, w283_133, w283_134, w283_136, w283_137, w283_138, w283_139, w283_140, w283_143, w283_145, w283_146, w283_149, w283_151, w283_153, w283_156, w283_158, w283_161, w283_163, w283_166, w283_168, w283_170, w283_173, w283_175, w283_178, w283_180, w283_182, w283_185, w283_188, w283_189, w283_192, w283_194, w283_196, w283_197, w283_199, oK_some, cont_int, cont_intS, cont_none, cont_noneS, cont_long, cont_longS, true_and, and_true, false_and, and_false, true_implies, false_implies, not_true_eq_false, not_false_eq_true, eq_self, or_true, true_or, Option.isSome_some, hpf_length, hpa_length, bI_eq0, fi_hpa, fl_hpa, ar_hpf, fi_hpf_ne, fl_hpf_ne, ar_hpa_ne, hpa_hpa, hpf_hpf, nI_1, two_ne, fokZ, implies_true, Nat.reduceEqDiff, rc_68, g_68_33, ga_81, gn_81, sa_81, ae_81, g_68_34, ga_82, gn_82, sa_82, ae_82, g_68_15, ga_71, gn_71, sa_71, ae_71, kl_0, kl_1, kl_2, kl_3, kl_4, kl_5, kl_6, kl_7, kl_8, kl_9, kl_10, kl_11, kl_12, jb_0_64, jb_1_64, jb_2_64, jb_3_64, jb_4_64, jb_5_64, jb_6_64, jb_7_64, jb_8_64, jb_9_64, jb_10_64, jb_11_64, jb_12_64, jb_0_211, jb_1_211, jb_2_211, jb_3_211, jb_4_211, jb_5_211, jb_6_211, jb_7_211, jb_8_211, jb_9_211, jb_10_211, jb_11_211, jb_12_211, hS, m_freeSigns hI hsh hs h1 h2, ez, hB, lB, inb_nI (i := one) (by omega), decide_eq_true (by omega : one < 64), nI_clamp (n := one) (by omega)]
    have ev : vV Bs sh nG 14 one other t p = Bs.getD one 0 := by rw [vV, if_pos hz]
    rw [ev] at hQ
    exact hQ H (Fg.rfl' hS) hV
  | succ μ ih =>
    intro one other t p h1 h2 ht hp hm hμ H hI hB hV Q hQ
    have hS := hI.shp
    have rgR : ∀ j, R.getD j 0 = rg R j := fun _ => rfl
    have c5 := hI.mn.2.2.2.1
    have hx := or64 (or64 hs h1) h2
    have fz := fr_zero nG (List.mem_range.mpr hG) _ (List.mem_range.mpr hx)
    by_cases hz : fcn nG (sh ||| one ||| other) = 0
    · have ez : frI nG (nI (sh ||| one ||| other)) = 0 := by
        rw [decide_eq_true hz] at fz
        exact of_decide_eq_true fz
      rw [w283_0]
      simp (maxDischargeDepth := 12) only [w283_1, w283_2, w283_3, w283_6, w283_9, w283_10, w283_13, w283_14, w283_15, w283_16, w283_17, w283_19, w283_20, w283_21, w283_22, w283_23, w283_24, w283_25, w283_26, w283_27, w283_28, w283_30, w283_31, w283_33, w283_34, w283_37, w283_39, w283_40, w283_41, w283_44, w283_45, w283_48, w283_50, w283_51, w283_52, w283_54, w283_55, w283_58, w283_59, w283_62, w283_63, w283_64, w283_67, w283_68, w283_69, w283_70, w283_71, w283_72, w283_73, w283_74, w283_77, w283_79, w283_80, w283_84, w283_85, w283_88, w283_89, w283_90, w283_93, w283_94, w283_95, w283_96, w283_99, w283_101, w283_104, w283_107, w283_110, w283_111, w283_114, w283_115, w283_116, w283_117, w283_119, w283_120, w283_121, w283_122, w283_123, w283_124, w283_127, w283_130, w283_131, w283_132, w283_133, w283_134, w283_136, w283_137, w283_138, w283_139, w283_140, w283_143, w283_145, w283_146, w283_149, w283_151, w283_153, w283_156, w283_158, w283_161, w283_163, w283_166, w283_168, w283_170, w283_173, w283_175, w283_178, w283_180, w283_182, w283_185, w283_188, w283_189, w283_192, w283_194, w283_196, w283_197, w283_199, oK_some, cont_int, cont_intS, cont_none, cont_noneS, cont_long, cont_longS, true_and, and_true, false_and, and_false, true_implies, false_implies, not_true_eq_false, not_false_eq_true, eq_self, or_true, true_or, Option.isSome_some, hpf_length, hpa_length, bI_eq0, fi_hpa, fl_hpa, ar_hpf, fi_hpf_ne, fl_hpf_ne, ar_hpa_ne, hpa_hpa, hpf_hpf, nI_1, two_ne, fokZ, implies_true, Nat.reduceEqDiff, rc_68, g_68_33, ga_81, gn_81, sa_81, ae_81, g_68_34, ga_82, gn_82, sa_82, ae_82, g_68_15, ga_71, gn_71, sa_71, ae_71, kl_0, kl_1, kl_2, kl_3, kl_4, kl_5, kl_6, kl_7, kl_8, kl_9, kl_10, kl_11, kl_12, jb_0_64, jb_1_64, jb_2_64, jb_3_64, jb_4_64, jb_5_64, jb_6_64, jb_7_64, jb_8_64, jb_9_64, jb_10_64, jb_11_64, jb_12_64, jb_0_211, jb_1_211, jb_2_211, jb_3_211, jb_4_211, jb_5_211, jb_6_211, jb_7_211, jb_8_211, jb_9_211, jb_10_211, jb_11_211, jb_12_211, hS, m_freeSigns hI hsh hs h1 h2, ez, hB, lB, inb_nI (i := one) (by omega), decide_eq_true (by omega : one < 64), nI_clamp (n := one) (by omega)]
      have ev : vV Bs sh nG 14 one other t p = Bs.getD one 0 := by rw [vV, if_pos hz]
      rw [ev] at hQ
      exact hQ H (Fg.rfl' hS) hV
    · have ez : ¬ frI nG (nI (sh ||| one ||| other)) = 0 := by
        rw [decide_eq_false hz] at fz
        exact of_decide_eq_false fz
      have ek : ((nI one * 64 + nI other) * 2 + nI t) * 2 + nI p = nI (gky one other t p) := by
        unfold gky
        rw [show (64 : Int32) = nI 64 from rfl, show (2 : Int32) = nI 2 from rfl, pk_mul, nI_add, pk_mul, nI_add, pk_mul, nI_add]
      have kb : gky one other t p < 16384 := by unfold gky; omega
      have kb1 : inb (nI (gky one other t p)) 16384 = true := by rw [inb_nI (by omega)]; exact decide_eq_true kb
      have kc : (nI (gky one other t p)).toNatClampNeg = gky one other t p := nI_clamp (by omega)
      have ev : vV Bs sh nG 14 one other t p = forN (fun g best => if (sh ||| one ||| other).testBit g = true then best else if t = 0 then gmx (vV Bs sh nG 13 (one ||| 2 ^ g) other 1 0) best else gmn (vV Bs sh nG 13 one (other ||| 2 ^ g) 0 0) best) nG (if p = 1 then Bs.getD one 0 else vV Bs sh nG 13 one other (1 - t) 1) := by rw [vV, if_neg hz]
      have et : (nI t = 0) = (t = 0) := by
        have c : t = 0 ∨ t = 1 := by omega
        rcases c with rfl | rfl <;> decide
      have ep : (nI p = 1) = (p = 1) := by
        have c : p = 0 ∨ p = 1 := by omega
        rcases c with rfl | rfl <;> decide
      rw [w283_0]
      simp (maxDischargeDepth := 12) only [w283_1, w283_2, w283_3, w283_6, w283_9, w283_10, w283_13, w283_14, w283_15, w283_16, w283_17, w283_19, w283_20, w283_21, w283_22, w283_23, w283_24, w283_25, w283_26, w283_27, w283_28, w283_30, w283_31, w283_33, w283_34, w283_37, w283_39, w283_40, w283_41, w283_44, w283_45, w283_48, w283_50, w283_51, w283_52, w283_54, w283_55, w283_58, w283_59, w283_62, w283_63, w283_64, w283_67, w283_68, w283_69, w283_70, w283_71, w283_72, w283_73, w283_74, w283_77, w283_80, w283_84, w283_85, w283_88, w283_89, w283_90, w283_93, w283_94, w283_95, w283_96, w283_99, w283_101, w283_104, w283_107, w283_110, w283_111, w283_114, w283_115, w283_116, w283_117, w283_119, w283_120, w283_121, w283_122, w283_123, w283_124, w283_127, w283_130, w283_131, w283_132, w283_133, w283_134, w283_136, w283_137, w283_138, w283_139, w283_140, w283_143, w283_145, w283_146, w283_149, w283_151, w283_153, w283_156, w283_158, w283_161, w283_163, w283_166, w283_168, w283_170, w283_173, w283_175, w283_178, w283_180, w283_182, w283_185, w283_188, w283_189, w283_192, w283_194, w283_196, w283_197, w283_199, oK_some, cont_int, cont_intS, cont_none, cont_noneS, cont_long, cont_longS, true_and, and_true, false_and, and_false, true_implies, false_implies, not_true_eq_false, not_false_eq_true, eq_self, or_true, true_or, Option.isSome_some, hpf_length, hpa_length, bI_eq0, fi_hpa, fl_hpa, ar_hpf, fi_hpf_ne, fl_hpf_ne, ar_hpa_ne, hpa_hpa, hpf_hpf, nI_1, two_ne, fokZ, implies_true, Nat.reduceEqDiff, rc_68, g_68_33, ga_81, gn_81, sa_81, ae_81, g_68_34, ga_82, gn_82, sa_82, ae_82, g_68_15, ga_71, gn_71, sa_71, ae_71, kl_0, kl_1, kl_2, kl_3, kl_4, kl_5, kl_6, kl_7, kl_8, kl_9, kl_10, kl_11, kl_12, jb_0_64, jb_1_64, jb_2_64, jb_3_64, jb_4_64, jb_5_64, jb_6_64, jb_7_64, jb_8_64, jb_9_64, jb_10_64, jb_11_64, jb_12_64, jb_0_211, jb_1_211, jb_2_211, jb_3_211, jb_4_211, jb_5_211, jb_6_211, jb_7_211, jb_8_211, jb_9_211, jb_10_211, jb_11_211, jb_12_211, hS, m_freeSigns hI hsh hs h1 h2, ez, ek, kb1, kc, gn_82, ep]
      by_cases hm1 : (ar H 82).getD (gky one other t p) 0 = -1
      · simp only [hm1, oK_some, cont_int, cont_intS, cont_none, cont_noneS, cont_long, cont_longS, true_and, and_true, false_and, and_false, true_implies, false_implies, not_true_eq_false, not_false_eq_true, eq_self, or_true, true_or, Option.isSome_some, hpf_length, hpa_length, bI_eq0, fi_hpa, fl_hpa, ar_hpf, fi_hpf_ne, fl_hpf_ne, ar_hpa_ne, hpa_hpa, hpf_hpf, nI_1, two_ne, fokZ, implies_true, Nat.reduceEqDiff]
        generalize hb0 : (if p = 1 then Bs.getD one 0 else vV Bs sh nG 13 one other (1 - t) 1) = b0 at ev
        generalize hF : (fun g best => if (sh ||| one ||| other).testBit g = true then best else if t = 0 then gmx (vV Bs sh nG 13 (one ||| 2 ^ g) other 1 0) best else gmn (vV Bs sh nG 13 one (other ||| 2 ^ g) 0 0) best) = F at ev
        have hFi : ∀ g best, F g best = if (sh ||| one ||| other).testBit g = true then best else if t = 0 then gmx (vV Bs sh nG 13 (one ||| 2 ^ g) other 1 0) best else gmn (vV Bs sh nG 13 one (other ||| 2 ^ g) 0 0) best := fun g best => by rw [← hF]
        -- behind the first value
        have rest : ∀ H2, Fg [82] [] H H2 → Mmo Bs sh nG (ar H2 82) → ∀ x6 : Option Value, Wp scr (d + (μ + 1) + 2) 283 79 [some (.ref 68), some (.int (nI one)), some (.int (nI other)), some (.int (nI t)), some (.int (nI p)), some (.int (nI (gky one other t p))), some (.int b0), none, none] [] H2 Q := by
          intro H2 hF2 hV2 _
          simp only [w283_79, w283_80]
          have key := down (P := fun i => ∀ H3, ∀ o8 : Option Value, Fg [82] [] H H3 → Mmo Bs sh nG (ar H3 82) → Wp scr (d + (μ + 1) + 2) 283 82 [some (.ref 68), some (.int (nI one)), some (.int (nI other)), some (.int (nI t)), some (.int (nI p)), some (.int (nI (gky one other t p))), some (.int (forN F i b0)), some (.int (nI i)), o8] [] H3 Q) nG ?_ ?_
          · exact key H2 none hF2 hV2
          · intro H3 o8 hF3 hV3
            have hI3 := hI.of hF3 (by decide) (by decide) (by decide) (by decide)
            have hs3 := hF3.shp
            rw [w283_82]
            simp (maxDischargeDepth := 12) only [w283_1, w283_2, w283_3, w283_6, w283_9, w283_10, w283_13, w283_14, w283_15, w283_16, w283_17, w283_19, w283_20, w283_21, w283_22, w283_23, w283_24, w283_25, w283_26, w283_27, w283_28, w283_30, w283_31, w283_33, w283_34, w283_37, w283_39, w283_40, w283_41, w283_44, w283_45, w283_48, w283_50, w283_51, w283_52, w283_54, w283_55, w283_58, w283_59, w283_62, w283_63, w283_64, w283_67, w283_68, w283_69, w283_70, w283_71, w283_72, w283_73, w283_74, w283_77, w283_80, w283_84, w283_85, w283_88, w283_89, w283_90, w283_93, w283_94, w283_95, w283_96, w283_99, w283_101, w283_104, w283_107, w283_110, w283_111, w283_114, w283_115, w283_116, w283_117, w283_119, w283_120, w283_121, w283_122, w283_123, w283_124, w283_127, w283_130, w283_131, w283_132, w283_133, w283_134, w283_136, w283_137, w283_138, w283_139, w283_140, w283_143, w283_145, w283_146, w283_149, w283_151, w283_153, w283_156, w283_158, w283_161, w283_163, w283_166, w283_168, w283_170, w283_173, w283_175, w283_178, w283_180, w283_182, w283_185, w283_188, w283_189, w283_192, w283_194, w283_196, w283_197, w283_199, oK_some, cont_int, cont_intS, cont_none, cont_noneS, cont_long, cont_longS, true_and, and_true, false_and, and_false, true_implies, false_implies, not_true_eq_false, not_false_eq_true, eq_self, or_true, true_or, Option.isSome_some, hpf_length, hpa_length, bI_eq0, fi_hpa, fl_hpa, ar_hpf, fi_hpf_ne, fl_hpf_ne, ar_hpa_ne, hpa_hpa, hpf_hpf, nI_1, two_ne, fokZ, implies_true, Nat.reduceEqDiff, rc_68, g_68_33, ga_81, gn_81, sa_81, ae_81, g_68_34, ga_82, gn_82, sa_82, ae_82, g_68_15, ga_71, gn_71, sa_71, ae_71, kl_0, kl_1, kl_2, kl_3, kl_4, kl_5, kl_6, kl_7, kl_8, kl_9, kl_10, kl_11, kl_12, jb_0_64, jb_1_64, jb_2_64, jb_3_64, jb_4_64, jb_5_64, jb_6_64, jb_7_64, jb_8_64, jb_9_64, jb_10_64, jb_11_64, jb_12_64, jb_0_211, jb_1_211, jb_2_211, jb_3_211, jb_4_211, jb_5_211, jb_6_211, jb_7_211, jb_8_211, jb_9_211, jb_10_211, jb_11_211, jb_12_211, hs3, hI3.2.1, hI3.lr, rgR, c5, nI_les, kb1, kc, gn_82]
            rw [ev] at hQ
            refine hQ _ (hF3.trans (fg_hpa hs3 (by rw [List.length_set]) (by decide))) ?_
            rw [ae_82 hs3, ← ev]
            exact Mmo_set hV3 h2 ht hp
          · intro i hi hw H3 o8 hF3 hV3
            have hI3 := hI.of hF3 (by decide) (by decide) (by decide) (by decide)
            have hs3 := hF3.shp
            have hB3 : ar H3 81 = Bs := by rw [hF3.arr (by decide), hB]
            rw [forN_succ, hFi] at hw
            generalize forN F i b0 = best at hw ⊢
            have fb := fr_bit nG (List.mem_range.mpr hG) _ (List.mem_range.mpr hx) i (List.mem_range.mpr hi)
            rw [w283_82]
            simp (maxDischargeDepth := 12) only [w283_1, w283_2, w283_3, w283_6, w283_9, w283_10, w283_13, w283_14, w283_15, w283_16, w283_17, w283_19, w283_20, w283_21, w283_22, w283_23, w283_24, w283_25, w283_26, w283_27, w283_28, w283_30, w283_31, w283_33, w283_34, w283_37, w283_39, w283_40, w283_41, w283_44, w283_45, w283_48, w283_50, w283_51, w283_52, w283_54, w283_55, w283_58, w283_59, w283_62, w283_63, w283_64, w283_67, w283_68, w283_69, w283_70, w283_71, w283_72, w283_73, w283_74, w283_77, w283_80, w283_84, w283_85, w283_88, w283_89, w283_90, w283_93, w283_94, w283_95, w283_96, w283_99, w283_101, w283_104, w283_107, w283_110, w283_111, w283_114, w283_115, w283_116, w283_117, w283_119, w283_120, w283_121, w283_122, w283_123, w283_124, w283_127, w283_130, w283_131, w283_132, w283_133, w283_134, w283_136, w283_137, w283_138, w283_139, w283_140, w283_143, w283_145, w283_146, w283_149, w283_151, w283_153, w283_156, w283_158, w283_161, w283_163, w283_166, w283_168, w283_170, w283_173, w283_175, w283_178, w283_180, w283_182, w283_185, w283_188, w283_189, w283_192, w283_194, w283_196, w283_197, w283_199, oK_some, cont_int, cont_intS, cont_none, cont_noneS, cont_long, cont_longS, true_and, and_true, false_and, and_false, true_implies, false_implies, not_true_eq_false, not_false_eq_true, eq_self, or_true, true_or, Option.isSome_some, hpf_length, hpa_length, bI_eq0, fi_hpa, fl_hpa, ar_hpf, fi_hpf_ne, fl_hpf_ne, ar_hpa_ne, hpa_hpa, hpf_hpf, nI_1, two_ne, fokZ, implies_true, Nat.reduceEqDiff, rc_68, g_68_33, ga_81, gn_81, sa_81, ae_81, g_68_34, ga_82, gn_82, sa_82, ae_82, g_68_15, ga_71, gn_71, sa_71, ae_71, kl_0, kl_1, kl_2, kl_3, kl_4, kl_5, kl_6, kl_7, kl_8, kl_9, kl_10, kl_11, kl_12, jb_0_64, jb_1_64, jb_2_64, jb_3_64, jb_4_64, jb_5_64, jb_6_64, jb_7_64, jb_8_64, jb_9_64, jb_10_64, jb_11_64, jb_12_64, jb_0_211, jb_1_211, jb_2_211, jb_3_211, jb_4_211, jb_5_211, jb_6_211, jb_7_211, jb_8_211, jb_9_211, jb_10_211, jb_11_211, jb_12_211, hs3, hI3.2.1, hI3.lr, rgR, c5, nI_lef hi (by omega : nG < 2147483648), m_freeSigns hI3 hsh hs h1 h2, m_hasBit, fb, et, p2 (by omega : i ≤ 10)]
            cases hbt : (sh ||| one ||| other).testBit i
            · obtain ⟨m1, m2⟩ := gms_take (p := p) hG hs h1 h2 hi hbt
              simp only [hbt, Bool.false_eq_true, if_false] at hw
              simp only [Bool.not_false, Bool.true_eq_false, oK_some, cont_int, cont_intS, cont_none, cont_noneS, cont_long, cont_longS, true_and, and_true, false_and, and_false, true_implies, false_implies, not_true_eq_false, not_false_eq_true, eq_self, or_true, true_or, Option.isSome_some, hpf_length, hpa_length, bI_eq0, fi_hpa, fl_hpa, ar_hpf, fi_hpf_ne, fl_hpf_ne, ar_hpa_ne, hpa_hpa, hpf_hpf, nI_1, two_ne, fokZ, implies_true, Nat.reduceEqDiff]
              have pw := pow64 (show i < 6 by omega)
              by_cases ht0 : t = 0
              · simp only [ht0, if_true] at hw
                simp only [ht0, oK_some, cont_int, cont_intS, cont_none, cont_noneS, cont_long, cont_longS, true_and, and_true, false_and, and_false, true_implies, false_implies, not_true_eq_false, not_false_eq_true, eq_self, or_true, true_or, Option.isSome_some, hpf_length, hpa_length, bI_eq0, fi_hpa, fl_hpa, ar_hpf, fi_hpf_ne, fl_hpf_ne, ar_hpa_ne, hpa_hpa, hpf_hpf, nI_1, two_ne, fokZ, implies_true, Nat.reduceEqDiff, nI_or h1 pw]
                refine ih (one ||| 2 ^ i) other 1 0 (or64 h1 pw) h2 (by decide) (by decide) (by omega) (by omega) H3 hI3 hB3 hV3 _ (fun H4 hF4 hV4 => ?_)
                have e13 : vV Bs sh nG 14 (one ||| 2 ^ i) other 1 0 = vV Bs sh nG 13 (one ||| 2 ^ i) other 1 0 := (vV_stab hG hs 13 _ _ _ _ (or64 h1 pw) h2 (by decide) (by omega)).symm
                rw [e13]
                generalize vV Bs sh nG 13 (one ||| 2 ^ i) other 1 0 = v at hw ⊢
                simp (maxDischargeDepth := 12) only [w283_1, w283_2, w283_3, w283_6, w283_9, w283_10, w283_13, w283_14, w283_15, w283_16, w283_17, w283_19, w283_20, w283_21, w283_22, w283_23, w283_24, w283_25, w283_26, w283_27, w283_28, w283_30, w283_31, w283_33, w283_34, w283_37, w283_39, w283_40, w283_41, w283_44, w283_45, w283_48, w283_50, w283_51, w283_52, w283_54, w283_55, w283_58, w283_59, w283_62, w283_63, w283_64, w283_67, w283_68, w283_69, w283_70, w283_71, w283_72, w283_73, w283_74, w283_77, w283_80, w283_84, w283_85, w283_88, w283_89, w283_90, w283_93, w283_94, w283_95, w283_96, w283_99, w283_101, w283_104, w283_107, w283_110, w283_111, w283_114, w283_115, w283_116, w283_117, w283_119, w283_120, w283_121, w283_122, w283_123, w283_124, w283_127, w283_130, w283_131, w283_132, w283_133, w283_134, w283_136, w283_137, w283_138, w283_139, w283_140, w283_143, w283_145, w283_146, w283_149, w283_151, w283_153, w283_156, w283_158, w283_161, w283_163, w283_166, w283_168, w283_170, w283_173, w283_175, w283_178, w283_180, w283_182, w283_185, w283_188, w283_189, w283_192, w283_194, w283_196, w283_197, w283_199, oK_some, cont_int, cont_intS, cont_none, cont_noneS, cont_long, cont_longS, true_and, and_true, false_and, and_false, true_implies, false_implies, not_true_eq_false, not_false_eq_true, eq_self, or_true, true_or, Option.isSome_some, hpf_length, hpa_length, bI_eq0, fi_hpa, fl_hpa, ar_hpf, fi_hpf_ne, fl_hpf_ne, ar_hpa_ne, hpa_hpa, hpf_hpf, nI_1, two_ne, fokZ, implies_true, Nat.reduceEqDiff, rc_68, g_68_33, ga_81, gn_81, sa_81, ae_81, g_68_34, ga_82, gn_82, sa_82, ae_82, g_68_15, ga_71, gn_71, sa_71, ae_71, kl_0, kl_1, kl_2, kl_3, kl_4, kl_5, kl_6, kl_7, kl_8, kl_9, kl_10, kl_11, kl_12, jb_0_64, jb_1_64, jb_2_64, jb_3_64, jb_4_64, jb_5_64, jb_6_64, jb_7_64, jb_8_64, jb_9_64, jb_10_64, jb_11_64, jb_12_64, jb_0_211, jb_1_211, jb_2_211, jb_3_211, jb_4_211, jb_5_211, jb_6_211, jb_7_211, jb_8_211, jb_9_211, jb_10_211, jb_11_211, jb_12_211, hF4.len, show ((nI 0 : Int32) = 0) = True from eq_true rfl]
                have hw := fun x => hw H4 x (hF3.trans hF4) hV4
                unfold gmx at hw
                by_cases hc : best < v
                · have hc' : ¬ v ≤ best := by rw [Int32.not_le]; exact hc
                  simp only [hc, if_true] at hw
                  simp only [hc', oK_some, cont_int, cont_intS, cont_none, cont_noneS, cont_long, cont_longS, true_and, and_true, false_and, and_false, true_implies, false_implies, not_true_eq_false, not_false_eq_true, eq_self, or_true, true_or, Option.isSome_some, hpf_length, hpa_length, bI_eq0, fi_hpa, fl_hpa, ar_hpf, fi_hpf_ne, fl_hpf_ne, ar_hpa_ne, hpa_hpa, hpf_hpf, nI_1, two_ne, fokZ, implies_true, Nat.reduceEqDiff]
                  exact hw _
                · have hc' : v ≤ best := by rw [← Int32.not_lt]; exact hc
                  simp only [hc, if_false] at hw
                  simp only [hc', oK_some, cont_int, cont_intS, cont_none, cont_noneS, cont_long, cont_longS, true_and, and_true, false_and, and_false, true_implies, false_implies, not_true_eq_false, not_false_eq_true, eq_self, or_true, true_or, Option.isSome_some, hpf_length, hpa_length, bI_eq0, fi_hpa, fl_hpa, ar_hpf, fi_hpf_ne, fl_hpf_ne, ar_hpa_ne, hpa_hpa, hpf_hpf, nI_1, two_ne, fokZ, implies_true, Nat.reduceEqDiff]
                  exact hw _
              · simp only [ht0, if_false] at hw
                simp only [ht0, oK_some, cont_int, cont_intS, cont_none, cont_noneS, cont_long, cont_longS, true_and, and_true, false_and, and_false, true_implies, false_implies, not_true_eq_false, not_false_eq_true, eq_self, or_true, true_or, Option.isSome_some, hpf_length, hpa_length, bI_eq0, fi_hpa, fl_hpa, ar_hpf, fi_hpf_ne, fl_hpf_ne, ar_hpa_ne, hpa_hpa, hpf_hpf, nI_1, two_ne, fokZ, implies_true, Nat.reduceEqDiff, nI_or h2 pw]
                refine ih one (other ||| 2 ^ i) 0 0 h1 (or64 h2 pw) (by decide) (by decide) (by omega) (by omega) H3 hI3 hB3 hV3 _ (fun H4 hF4 hV4 => ?_)
                have e13 : vV Bs sh nG 14 one (other ||| 2 ^ i) 0 0 = vV Bs sh nG 13 one (other ||| 2 ^ i) 0 0 := (vV_stab hG hs 13 _ _ _ _ h1 (or64 h2 pw) (by decide) (by omega)).symm
                rw [e13]
                generalize vV Bs sh nG 13 one (other ||| 2 ^ i) 0 0 = v at hw ⊢
                simp (maxDischargeDepth := 12) only [w283_1, w283_2, w283_3, w283_6, w283_9, w283_10, w283_13, w283_14, w283_15, w283_16, w283_17, w283_19, w283_20, w283_21, w283_22, w283_23, w283_24, w283_25, w283_26, w283_27, w283_28, w283_30, w283_31, w283_33, w283_34, w283_37, w283_39, w283_40, w283_41, w283_44, w283_45, w283_48, w283_50, w283_51, w283_52, w283_54, w283_55, w283_58, w283_59, w283_62, w283_63, w283_64, w283_67, w283_68, w283_69, w283_70, w283_71, w283_72, w283_73, w283_74, w283_77, w283_80, w283_84, w283_85, w283_88, w283_89, w283_90, w283_93, w283_94, w283_95, w283_96, w283_99, w283_101, w283_104, w283_107, w283_110, w283_111, w283_114, w283_115, w283_116, w283_117, w283_119, w283_120, w283_121, w283_122, w283_123, w283_124, w283_127, w283_130, w283_131, w283_132, w283_133, w283_134, w283_136, w283_137, w283_138, w283_139, w283_140, w283_143, w283_145, w283_146, w283_149, w283_151, w283_153, w283_156, w283_158, w283_161, w283_163, w283_166, w283_168, w283_170, w283_173, w283_175, w283_178, w283_180, w283_182, w283_185, w283_188, w283_189, w283_192, w283_194, w283_196, w283_197, w283_199, oK_some, cont_int, cont_intS, cont_none, cont_noneS, cont_long, cont_longS, true_and, and_true, false_and, and_false, true_implies, false_implies, not_true_eq_false, not_false_eq_true, eq_self, or_true, true_or, Option.isSome_some, hpf_length, hpa_length, bI_eq0, fi_hpa, fl_hpa, ar_hpf, fi_hpf_ne, fl_hpf_ne, ar_hpa_ne, hpa_hpa, hpf_hpf, nI_1, two_ne, fokZ, implies_true, Nat.reduceEqDiff, rc_68, g_68_33, ga_81, gn_81, sa_81, ae_81, g_68_34, ga_82, gn_82, sa_82, ae_82, g_68_15, ga_71, gn_71, sa_71, ae_71, kl_0, kl_1, kl_2, kl_3, kl_4, kl_5, kl_6, kl_7, kl_8, kl_9, kl_10, kl_11, kl_12, jb_0_64, jb_1_64, jb_2_64, jb_3_64, jb_4_64, jb_5_64, jb_6_64, jb_7_64, jb_8_64, jb_9_64, jb_10_64, jb_11_64, jb_12_64, jb_0_211, jb_1_211, jb_2_211, jb_3_211, jb_4_211, jb_5_211, jb_6_211, jb_7_211, jb_8_211, jb_9_211, jb_10_211, jb_11_211, jb_12_211, hF4.len, et, ht0]
                have hw := fun x => hw H4 x (hF3.trans hF4) hV4
                unfold gmn at hw
                by_cases hc : v < best
                · have hc' : ¬ best ≤ v := by rw [Int32.not_le]; exact hc
                  simp only [hc, if_true] at hw
                  simp only [hc', oK_some, cont_int, cont_intS, cont_none, cont_noneS, cont_long, cont_longS, true_and, and_true, false_and, and_false, true_implies, false_implies, not_true_eq_false, not_false_eq_true, eq_self, or_true, true_or, Option.isSome_some, hpf_length, hpa_length, bI_eq0, fi_hpa, fl_hpa, ar_hpf, fi_hpf_ne, fl_hpf_ne, ar_hpa_ne, hpa_hpa, hpf_hpf, nI_1, two_ne, fokZ, implies_true, Nat.reduceEqDiff]
                  exact hw _
                · have hc' : best ≤ v := by rw [← Int32.not_lt]; exact hc
                  simp only [hc, if_false] at hw
                  simp only [hc', oK_some, cont_int, cont_intS, cont_none, cont_noneS, cont_long, cont_longS, true_and, and_true, false_and, and_false, true_implies, false_implies, not_true_eq_false, not_false_eq_true, eq_self, or_true, true_or, Option.isSome_some, hpf_length, hpa_length, bI_eq0, fi_hpa, fl_hpa, ar_hpf, fi_hpf_ne, fl_hpf_ne, ar_hpa_ne, hpa_hpa, hpf_hpf, nI_1, two_ne, fokZ, implies_true, Nat.reduceEqDiff]
                  exact hw _
            · simp only [hbt, if_true] at hw
              simp only [Bool.not_true, oK_some, cont_int, cont_intS, cont_none, cont_noneS, cont_long, cont_longS, true_and, and_true, false_and, and_false, true_implies, false_implies, not_true_eq_false, not_false_eq_true, eq_self, or_true, true_or, Option.isSome_some, hpf_length, hpa_length, bI_eq0, fi_hpa, fl_hpa, ar_hpf, fi_hpf_ne, fl_hpf_ne, ar_hpa_ne, hpa_hpa, hpf_hpf, nI_1, two_ne, fokZ, implies_true, Nat.reduceEqDiff]
              exact hw H3 _ hF3 hV3
        by_cases hp1 : p = 1
        · rw [if_pos hp1] at hb0
          simp only [hp1, oK_some, cont_int, cont_intS, cont_none, cont_noneS, cont_long, cont_longS, true_and, and_true, false_and, and_false, true_implies, false_implies, not_true_eq_false, not_false_eq_true, eq_self, or_true, true_or, Option.isSome_some, hpf_length, hpa_length, bI_eq0, fi_hpa, fl_hpa, ar_hpf, fi_hpf_ne, fl_hpf_ne, ar_hpa_ne, hpa_hpa, hpf_hpf, nI_1, two_ne, fokZ, implies_true, Nat.reduceEqDiff, hB, lB, inb_nI (i := one) (by omega), decide_eq_true (by omega : one < 64), nI_clamp (n := one) (by omega), hb0]
          have := rest H (Fg.rfl' hS) hV none
          rw [hp1] at this
          exact this
        · rw [if_neg hp1] at hb0
          simp only [hp1, oK_some, cont_int, cont_intS, cont_none, cont_noneS, cont_long, cont_longS, true_and, and_true, false_and, and_false, true_implies, false_implies, not_true_eq_false, not_false_eq_true, eq_self, or_true, true_or, Option.isSome_some, hpf_length, hpa_length, bI_eq0, fi_hpa, fl_hpa, ar_hpf, fi_hpf_ne, fl_hpf_ne, ar_hpa_ne, hpa_hpa, hpf_hpf, nI_1, two_ne, fokZ, implies_true, Nat.reduceEqDiff]
          have es : (1 : Int32) - nI t = nI (1 - t) := by
            have c : t = 0 ∨ t = 1 := by omega
            rcases c with rfl | rfl <;> decide
          rw [es]
          refine ih one other (1 - t) 1 h1 h2 (by omega) (by decide) (by unfold gms at hm ⊢; omega) (by omega) H hI hB hV _ (fun H4 hF4 hV4 => ?_)
          have e13 : vV Bs sh nG 14 one other (1 - t) 1 = vV Bs sh nG 13 one other (1 - t) 1 := (vV_stab hG hs 13 _ _ _ _ h1 h2 (by decide) (by unfold gms at hm ⊢; omega)).symm
          rw [e13, hb0]
          simp (maxDischargeDepth := 12) only [w283_1, w283_2, w283_3, w283_6, w283_9, w283_10, w283_13, w283_14, w283_15, w283_16, w283_17, w283_19, w283_20, w283_21, w283_22, w283_23, w283_24, w283_25, w283_26, w283_27, w283_28, w283_30, w283_31, w283_33, w283_34, w283_37, w283_39, w283_40, w283_41, w283_44, w283_45, w283_48, w283_50, w283_51, w283_52, w283_54, w283_55, w283_58, w283_59, w283_62, w283_63, w283_64, w283_67, w283_68, w283_69, w283_70, w283_71, w283_72, w283_73, w283_74, w283_77, w283_80, w283_84, w283_85, w283_88, w283_89, w283_90, w283_93, w283_94, w283_95, w283_96, w283_99, w283_101, w283_104, w283_107, w283_110, w283_111, w283_114, w283_115, w283_116, w283_117, w283_119, w283_120, w283_121, w283_122, w283_123, w283_124, w283_127, w283_130, w283_131, w283_132, w283_133, w283_134, w283_136, w283_137, w283_138, w283_139, w283_140, w283_143, w283_145, w283_146, w283_149, w283_151, w283_153, w283_156, w283_158, w283_161, w283_163, w283_166, w283_168, w283_170, w283_173, w283_175, w283_178, w283_180, w283_182, w283_185, w283_188, w283_189, w283_192, w283_194, w283_196, w283_197, w283_199, oK_some, cont_int, cont_intS, cont_none, cont_noneS, cont_long, cont_longS, true_and, and_true, false_and, and_false, true_implies, false_implies, not_true_eq_false, not_false_eq_true, eq_self, or_true, true_or, Option.isSome_some, hpf_length, hpa_length, bI_eq0, fi_hpa, fl_hpa, ar_hpf, fi_hpf_ne, fl_hpf_ne, ar_hpa_ne, hpa_hpa, hpf_hpf, nI_1, two_ne, fokZ, implies_true, Nat.reduceEqDiff, rc_68, g_68_33, ga_81, gn_81, sa_81, ae_81, g_68_34, ga_82, gn_82, sa_82, ae_82, g_68_15, ga_71, gn_71, sa_71, ae_71, kl_0, kl_1, kl_2, kl_3, kl_4, kl_5, kl_6, kl_7, kl_8, kl_9, kl_10, kl_11, kl_12, jb_0_64, jb_1_64, jb_2_64, jb_3_64, jb_4_64, jb_5_64, jb_6_64, jb_7_64, jb_8_64, jb_9_64, jb_10_64, jb_11_64, jb_12_64, jb_0_211, jb_1_211, jb_2_211, jb_3_211, jb_4_211, jb_5_211, jb_6_211, jb_7_211, jb_8_211, jb_9_211, jb_10_211, jb_11_211, jb_12_211, hF4.len]
          exact rest H4 hF4 hV4 none
      · simp only [hm1, oK_some, cont_int, cont_intS, cont_none, cont_noneS, cont_long, cont_longS, true_and, and_true, false_and, and_false, true_implies, false_implies, not_true_eq_false, not_false_eq_true, eq_self, or_true, true_or, Option.isSome_some, hpf_length, hpa_length, bI_eq0, fi_hpa, fl_hpa, ar_hpf, fi_hpf_ne, fl_hpf_ne, ar_hpa_ne, hpa_hpa, hpf_hpf, nI_1, two_ne, fokZ, implies_true, Nat.reduceEqDiff]
        have hv := (hV one other t p h1 h2 ht hp).resolve_left hm1
        rw [hv]
        exact hQ H (Fg.rfl' hS) hV
end MODELF
