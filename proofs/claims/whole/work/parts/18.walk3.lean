/-! ===== Walk: settle, pass ===== -/
section WALK3
variable {scr : List Int32} {d n st c b h a : Nat} {H : List AC} {xs : List Int32} {Q : Option Value → List AC → Prop}
theorem two_ne : ((2 : Int32) = 0) = False := by decide
/-- the new faith of a row -/
def nfa (kind before dS fS hd : Int32) : Int32 := mx 0 (mn 30 (before + fS - (if kind = 1 then dS / 2 else dS) + (if kind = 3 then 0 else hd)))
def setF (rw dS fS hd : List Int32) (r : Nat) (p : List Int32 × Bool) : List Int32 × Bool :=
  (cSet p.1 (nI r) (nfa (tg rw r 0) (cAt p.1 (nI r)) (cAt dS (nI r)) (cAt fS (nI r)) (cAt hd (nI r))), p.2 || !(decide (nfa (tg rw r 0) (cAt p.1 (nI r)) (cAt dS (nI r)) (cAt fS (nI r)) (cAt hd (nI r)) = cAt p.1 (nI r))))
theorem setF_len {rw dS fS hd : List Int32} : ∀ (n : Nat) (p : List Int32 × Bool), (forN (setF rw dS fS hd) n p).1.length = p.1.length
  | 0, _ => rfl
  | n + 1, p => by rw [forN]; show (cSet _ _ _).length = _; rw [cSet_length, setF_len n p]
theorem c_settle (hS : Shp H) (hn : fi H 4 2 = nI n) (hb : n < 100000) : Wp scr (d + 1) 117 0 [some (.ref 33), none, none, none, none, none] [] H Q ↔ Q (some (.int (bI (forN (setF (ar H 5) (ar H 40) (ar H 42) (ar H 38)) n (ar H 36, false)).2))) (hpa H 36 (forN (setF (ar H 5) (ar H 40) (ar H 42) (ar H 38)) n (ar H 36, false)).1) := by
  refine Wp_iff ?_
  generalize hQ : (fun (r : Option Value) (H' : List AC) => r = some (.int (bI (forN (setF (ar H 5) (ar H 40) (ar H 42) (ar H 38)) n (ar H 36, false)).2)) ∧ H' = hpa H 36 (forN (setF (ar H 5) (ar H 40) (ar H 42) (ar H 38)) n (ar H 36, false)).1) = Q1
  simp only [w117_0, w117_1, w117_2, w117_3]
  have hlen : ∀ i, (forN (setF (ar H 5) (ar H 40) (ar H 42) (ar H 38)) i (ar H 36, false)).1.length = 7 := fun i => by rw [setF_len, gn_36 hS]
  have key := down (P := fun i => ∀ o3 o4 o5 : Option Value, Wp scr (d + 1) 117 4 [some (.ref 33), some (.int (bI (forN (setF (ar H 5) (ar H 40) (ar H 42) (ar H 38)) i (ar H 36, false)).2)), some (.int (nI i)), o3, o4, o5] [] (hpa H 36 (forN (setF (ar H 5) (ar H 40) (ar H 42) (ar H 38)) i (ar H 36, false)).1) Q1) n ?_ ?_
  · have := key none none none
    simpa [nI_0, forN, hpa_self (ga_36 hS), bI] using this
  · intro o3 o4 o5
    have hs : Shp (hpa H 36 (forN (setF (ar H 5) (ar H 40) (ar H 42) (ar H 38)) n (ar H 36, false)).1) := shp_hpa hS (by rw [hlen, gn_36 hS])
    rw [w117_4]
    simp only [w117_0, w117_1, w117_2, w117_3, w117_5, w117_6, w117_9, w117_12, w117_15, w117_18, w117_19, w117_22, w117_25, w117_26, w117_27, w117_30, w117_31, w117_32, w117_35, w117_38, w117_39, w117_42, w117_44, w117_46, w117_47, w117_50, w117_51, w117_54, w117_55, w117_57, w117_59, w117_60, w117_61, w117_64, w117_65, w117_68, w117_69, w117_72, w117_73, w117_74, w117_77, w117_78, w117_81, w117_82, w117_85, w117_86, w117_88, w117_90, w117_91, w117_92, w117_95, w117_96, w117_99, w117_100, w117_103, w117_104, w117_107, w117_108, w117_110, w117_111, w117_113, w117_115, w117_118, w117_121, w117_123, w117_124, w117_127, w117_130, w117_131, w117_133, w117_136, w117_137, w117_140, w117_142, w117_144, w117_147, w117_148, w117_151, w117_152, w117_153, w117_156, w117_159, w117_160, bI_or, g_33_0 hs, g_3_2 hs, rc_4 hs, c_Table_count (g_4_2 hs), fi_hpa, hn, cont_int, oK_some, true_and, nI_les, true_implies, not_true_eq_false, false_implies, and_true]
    rw [← hQ]
    exact ⟨rfl, rfl⟩
  · intro i hi hw o3 o4 o5
    simp only [forN] at hw
    have hl := hlen i
    generalize hy : forN (setF (ar H 5) (ar H 40) (ar H 42) (ar H 38)) i (ar H 36, false) = p at hw hl ⊢
    obtain ⟨f, ch⟩ := p
    simp only at hl hw ⊢
    have hs : Shp (hpa H 36 f) := shp_hpa hS (by rw [hl, gn_36 hS])
    have hx5 : (ar (hpa H 36 f) 5).length < 2147483648 := by rw [gn_5 hs]; decide
    have hx36 : (ar (hpa H 36 f) 36).length < 2147483648 := by rw [gn_36 hs]; decide
    have hx38 : (ar (hpa H 36 f) 38).length < 2147483648 := by rw [gn_38 hs]; decide
    have hx40 : (ar (hpa H 36 f) 40).length < 2147483648 := by rw [gn_40 hs]; decide
    have hx42 : (ar (hpa H 36 f) 42).length < 2147483648 := by rw [gn_42 hs]; decide
    rw [w117_4]
    simp only [w117_0, w117_1, w117_2, w117_3, w117_5, w117_6, w117_9, w117_12, w117_15, w117_18, w117_19, w117_22, w117_25, w117_26, w117_27, w117_30, w117_31, w117_32, w117_35, w117_38, w117_39, w117_42, w117_44, w117_46, w117_47, w117_50, w117_51, w117_54, w117_55, w117_57, w117_59, w117_60, w117_61, w117_64, w117_65, w117_68, w117_69, w117_72, w117_73, w117_74, w117_77, w117_78, w117_81, w117_82, w117_85, w117_86, w117_88, w117_90, w117_91, w117_92, w117_95, w117_96, w117_99, w117_100, w117_103, w117_104, w117_107, w117_108, w117_110, w117_111, w117_113, w117_115, w117_118, w117_121, w117_123, w117_124, w117_127, w117_130, w117_131, w117_133, w117_136, w117_137, w117_140, w117_142, w117_144, w117_147, w117_148, w117_151, w117_152, w117_153, w117_156, w117_159, w117_160, g_33_0 hs, g_33_1 hs, g_33_2 hs, g_33_3 hs, g_33_4 hs, g_3_2 hs, rc_4 hs, rc_35 hs, rc_37 hs, rc_39 hs, rc_41 hs, g_34_0 hs, c_Table_count (g_4_2 hs), c_Table_at (g_4_1 hs) (ga_5 hs) hx5, c_Cells_at (g_35_0 hs) (ga_36 hs) hx36, c_Cells_at (g_37_0 hs) (ga_38 hs) hx38, c_Cells_at (g_39_0 hs) (ga_40 hs) hx40, c_Cells_at (g_41_0 hs) (ga_42 hs) hx42, c_Cells_set (g_35_0 hs) (ga_36 hs) hx36, c_max, c_min, fi_hpa, ar_hpa_ne (by decide : ¬ (36 : Nat) = 5), ar_hpa_ne (by decide : ¬ (36 : Nat) = 38), ar_hpa_ne (by decide : ¬ (36 : Nat) = 40), ar_hpa_ne (by decide : ¬ (36 : Nat) = 42), ar_hpa_eq (ga_36 hS), hpa_hpa, hpa_length, hn, cont_int, cont_intS, cont_none, oK_some, true_and, two_ne, nI_lef hi (by omega : n < 2147483648), true_implies, not_false_eq_true, false_implies, nI_1, tg_eq (xs := ar H 5) (i := i) 0 (v := 0) (by omega) (by decide) rfl]
    simp only [setF] at hw
    generalize hK : tg (ar H 5) i 0 = K at hw ⊢
    have fin : ∀ v : Int32, v = nfa K (cAt f (nI i)) (cAt (ar H 40) (nI i)) (cAt (ar H 42) (nI i)) (cAt (ar H 38) (nI i)) → (¬ bI ch = 0 → Wp scr (d + 1) 117 4 [some (.ref 33), some (.int 1), some (.int (nI (i + 1))), some (.int K), some (.int (cAt f (nI i))), some (.int v)] [] (hpa H 36 (cSet f (nI i) v)) Q1) ∧ (¬¬ bI ch = 0 → (v = cAt f (nI i) → Wp scr (d + 1) 117 4 [some (.ref 33), some (.int 0), some (.int (nI (i + 1))), some (.int K), some (.int (cAt f (nI i))), some (.int v)] [] (hpa H 36 (cSet f (nI i) v)) Q1) ∧ (¬ v = cAt f (nI i) → Wp scr (d + 1) 117 4 [some (.ref 33), some (.int 1), some (.int (nI (i + 1))), some (.int K), some (.int (cAt f (nI i))), some (.int v)] [] (hpa H 36 (cSet f (nI i) v)) Q1)) := by
      intro v hv
      rw [← hv] at hw
      have h := hw (some (.int K)) (some (.int (cAt f (nI i)))) (some (.int v))
      clear hw
      cases ch with
      | true =>
        refine ⟨fun _ => ?_, fun q => absurd (show ¬ bI true = 0 by decide) q⟩
        simp only [Bool.true_or] at h
        exact h
      | false =>
        refine ⟨fun q => absurd (show bI false = 0 by decide) q, fun _ => ⟨fun hv2 => ?_, fun hv2 => ?_⟩⟩
        · simp only [decide_eq_true hv2, Bool.not_true, Bool.or_false] at h
          exact h
        · simp only [decide_eq_false hv2, Bool.not_false, Bool.or_true] at h
          exact h
    by_cases hk1 : K = 1
    · have hk3 : ¬ K = 3 := by rw [hk1]; decide
      simp only [hk3, not_false_eq_true, false_implies, true_implies, true_and, eq_true hk1, not_true_eq_false, and_true]
      exact fin _ (by unfold nfa; rw [if_pos hk1, if_neg hk3])
    · by_cases hk3 : K = 3
      · simp only [hk1, not_false_eq_true, false_implies, true_implies, true_and, eq_true hk3, not_true_eq_false, and_true]
        exact fin _ (by unfold nfa; rw [if_neg hk1, if_pos hk3])
      · simp only [hk1, hk3, not_false_eq_true, false_implies, true_implies, true_and, and_true, not_true_eq_false]
        exact fin _ (by unfold nfa; rw [if_neg hk1, if_neg hk3])
end WALK3
