/-! ===== the Model: copies, a day, what is borne ===== -/
theorem ext_getD {xs ys : List Int32} (hl : xs.length = ys.length) (h : ∀ j, j < ys.length → xs.getD j 0 = ys.getD j 0) : xs = ys := by
  apply List.ext_getElem hl
  intro j h1 h2
  have := h j h2
  rw [List.getD_eq_getElem?_getD, List.getD_eq_getElem?_getD, List.getElem?_eq_getElem h1, List.getElem?_eq_getElem h2] at this
  exact this
theorem getD_set {xs : List Int32} {i j : Nat} {v : Int32} : (xs.set i v).getD j 0 = if i = j ∧ j < xs.length then v else xs.getD j 0 := by
  rw [List.getD_eq_getElem?_getD, List.getElem?_set, List.getD_eq_getElem?_getD]
  by_cases e : i = j
  · subst e
    by_cases h : i < xs.length
    · simp [h]
    · simp [h]
  · simp [e]
theorem getD_out {xs : List Int32} {j : Nat} (h : xs.length ≤ j) : xs.getD j 0 = 0 := by
  rw [List.getD_eq_getElem?_getD, List.getElem?_eq_none h]
  rfl
theorem getD_rmap {f : Nat → Int32} {n j : Nat} (h : j < n) : ((List.range n).map f).getD j 0 = f j := by
  rw [List.getD_eq_getElem?_getD, List.getElem?_map, List.getElem?_range h]
  rfl
def cpF (xs : List Int32) (p q : Nat) (k : Nat) (ys : List Int32) : List Int32 := ys.set (q + k) (xs.getD (p + k) 0)
def cpy (xs : List Int32) (p : Nat) (ys : List Int32) (q m : Nat) : List Int32 := forN (cpF xs p q) m ys
theorem cpy_len {xs ys : List Int32} {p q m : Nat} : (cpy xs p ys q m).length = ys.length := forN_len (fun k zs => by unfold cpF; simp) m ys
theorem cpy_getD {xs ys : List Int32} {p q j : Nat} : ∀ m, q + m ≤ ys.length → (cpy xs p ys q m).getD j 0 = if q ≤ j ∧ j < q + m then xs.getD (p + (j - q)) 0 else ys.getD j 0
  | 0, _ => by rw [if_neg (by omega)]; rfl
  | m + 1, h => by
    have ih := cpy_getD (xs := xs) (ys := ys) (p := p) (q := q) (j := j) m (by omega)
    have hl : (cpy xs p ys q m).length = ys.length := cpy_len
    have e : cpy xs p ys q (m + 1) = (cpy xs p ys q m).set (q + m) (xs.getD (p + m) 0) := rfl
    rw [e, getD_set, ih, hl]
    by_cases h1 : q + m = j
    · rw [if_pos ⟨h1, by omega⟩, if_pos ⟨by omega, by omega⟩, show j - q = m by omega]
    · rw [if_neg (fun q => h1 q.1)]
      by_cases h2 : q ≤ j ∧ j < q + m
      · rw [if_pos h2, if_pos ⟨h2.1, by omega⟩]
      · rw [if_neg h2, if_neg (fun z => h2 ⟨z.1, by omega⟩)]
def Mn (R : List Int32) (n nS nW nG nU nN : Nat) : Prop := rg R 2 = nI n ∧ rg R 3 = nI nS ∧ rg R 4 = nI nW ∧ rg R 5 = nI nG ∧ rg R 6 = nI nU ∧ rg R 7 = nI nN ∧ n ≤ 7 ∧ nS ≤ 10 ∧ nW ≤ 5 ∧ nG ≤ 6 ∧ nU ≤ 5 ∧ nN ≤ 5
def clp (x : Int32) : Int32 := if x < 0 then 0 else if x ≤ 30 then x else 30
/-- one row's faith behind a day -/
def nfM (R : List Int32) (rum : Int32) (n nW nG nU : Nat) (ws : List Int32) (k : Nat) : Int32 := clp (ws.getD k 0 + tldM R rum ws nG nU k + senM R ws nW n k)
def dayM (R : List Int32) (rum : Int32) (n nW nG nU : Nat) (ws : List Int32) : List Int32 := (List.range 10).map (fun j => if j < n then nfM R rum n nW nG nU ws j else if j = 9 then ws.getD 9 0 + 1 else ws.getD j 0)
theorem dayM_len {R : List Int32} {rum : Int32} {n nW nG nU : Nat} {ws : List Int32} : (dayM R rum n nW nG nU ws).length = 10 := by
  unfold dayM; simp
section MODEL3
variable {scr : List Int32} {d n nS nW nG nU nN w k : Nat} {H : List AC} {ws : List Int32} {Q : Option Value → List AC → Prop}
theorem wrow (hS : Shp H) (hw : w = 73 ∨ w = 77) : garr H w = some (ar H w) ∧ (ar H w).length = 10 := by
  rcases hw with rfl | rfl
  · exact ⟨ga_73 hS, gn_73 hS⟩
  · exact ⟨ga_77 hS, gn_77 hS⟩
theorem m_copy {a b p q m : Nat} {v1 v2 v3 : Int32} {xs ys : List Int32} (e1 : v1 = nI p) (e2 : v2 = nI q) (e3 : v3 = nI m) (ha : garr H a = some xs) (hb : garr H b = some ys) (hab : ¬ b = a) (h1 : p + m ≤ xs.length) (h2 : q + m ≤ ys.length) (hx : xs.length < 100000) (hy : ys.length < 100000) : Wp scr d 191 0 [some (.ref a), some (.int v1), some (.ref b), some (.int v2), some (.int v3), none] [] H Q ↔ Q none (hpa H b (cpy xs p ys q m)) := by
  subst e1 e2 e3
  refine Wp_iff ?_
  generalize hQ : (fun (r : Option Value) (H' : List AC) => r = none ∧ H' = hpa H b (cpy xs p ys q m)) = Q1
  simp only [w191_0, w191_1]
  have key := down (P := fun i => Wp scr d 191 3 [some (.ref a), some (.int (nI p)), some (.ref b), some (.int (nI q)), some (.int (nI m)), some (.int (nI i))] [] (hpa H b (cpy xs p ys q i)) Q1) m ?_ ?_
  · simpa [nI_0, cpy, forN, hpa_self hb] using key
  · rw [w191_3]
    simp only [w191_0, w191_1, w191_5, w191_7, w191_10, w191_11, w191_12, w191_14, w191_15, w191_16, w191_17, w191_19, w191_20, w191_21, w191_22, w191_25, w191_28, nI_les, true_implies, not_true_eq_false, false_implies, and_true]
    rw [← hQ]
    exact ⟨rfl, rfl⟩
  · intro i hi hw
    have hg : garr (hpa H b (cpy xs p ys q i)) a = some xs := by rw [garr_hpa, if_neg hab, ha]
    have hg2 : garr (hpa H b (cpy xs p ys q i)) b = some (cpy xs p ys q i) := by rw [garr_hpa, if_pos rfl, hb]; rfl
    rw [w191_3]
    simp only [w191_0, w191_1, w191_5, w191_7, w191_10, w191_11, w191_12, w191_14, w191_15, w191_16, w191_17, w191_19, w191_20, w191_21, w191_22, w191_25, w191_28, nI_lef hi (by omega : m < 2147483648), true_implies, not_false_eq_true, false_implies, true_and, nI_add, hg, hg2, oK_some, cpy_len, inb_nI (i := p + i) (by omega), inb_nI (i := q + i) (by omega), decide_eq_true (by omega : p + i < xs.length), decide_eq_true (by omega : q + i < ys.length), nI_clamp (n := p + i) (by omega), nI_clamp (n := q + i) (by omega), hpa_hpa, nI_1]
    exact hw
def thF (R : List Int32) (rum : Int32) (n nW nG nU : Nat) (ws : List Int32) (k : Nat) (ys : List Int32) : List Int32 := ys.set k (nfM R rum n nW nG nU ws k)
theorem thF_getD {R : List Int32} {rum : Int32} {n nW nG nU : Nat} {ws ys : List Int32} {j : Nat} : ∀ m, m ≤ ys.length → j < m → (forN (thF R rum n nW nG nU ws) m ys).getD j 0 = nfM R rum n nW nG nU ws j
  | 0, _, h => absurd h (Nat.not_lt_zero _)
  | m + 1, hm, h => by
    have hl : (forN (thF R rum n nW nG nU ws) m ys).length = ys.length := forN_len (fun k zs => by unfold thF; simp) m ys
    have e : forN (thF R rum n nW nG nU ws) (m + 1) ys = (forN (thF R rum n nW nG nU ws) m ys).set m (nfM R rum n nW nG nU ws m) := rfl
    rw [e, getD_set, hl]
    by_cases h1 : m = j
    · rw [if_pos ⟨h1, by omega⟩, h1]
    · rw [if_neg (fun q => h1 q.1), thF_getD m (by omega) (by omega)]
theorem m_dayOf (hS : Shp H) (hM : Mn (ar H 71) n nS nW nG nU nN) (hw : w = 73 ∨ w = 77) (hQ : ∀ H', Fr [76, w] H H' → ar H' w = dayM (ar H 71) (fi H 68 22) n nW nG nU (ar H w) → Q none H') : Wp scr (d + 4) 229 0 [some (.ref 68), some (.ref w), none, none] [] H Q := by
  obtain ⟨c2, c3, c4, c5, c6, c7, b2, b3, b4, b5, b6, b7⟩ := hM
  have c2' : (ar H 71).getD 2 0 = nI n := c2
  have hwn : ¬ 76 = w := by rcases hw with rfl | rfl <;> decide
  have hw0 := wrow hS hw
  generalize hT : forN (thF (ar H 71) (fi H 68 22) n nW nG nU (ar H w)) = T
  have hlen : ∀ i, (T i (ar H 76)).length = 7 := fun i => by rw [← hT, forN_len (fun k zs => by unfold thF; simp), gn_76 hS]
  simp only [w229_0, w229_1]
  have key := down (P := fun i => ∀ o3 : Option Value, Wp scr (d + 4) 229 2 [some (.ref 68), some (.ref w), some (.int (nI i)), o3] [] (hpa H 76 (T i (ar H 76))) Q) n ?_ ?_
  · have := key none
    rw [← hT] at this
    simpa [nI_0, forN, hpa_self (ga_76 hS)] using this
  · intro o3
    have hs : Shp (hpa H 76 (T n (ar H 76))) := sa_76 hS (hlen n)
    generalize hY : T n (ar H 76) = ys at hs
    have hly : ys.length = 7 := by rw [← hY]; exact hlen n
    have gw : garr (hpa H 76 ys) w = some (ar H w) := by rw [garr_hpa, if_neg hwn, hw0.1]
    have gc : garr (hpa (hpa H 76 ys) w (cpy ys 0 (ar H w) 0 n)) w = some (cpy ys 0 (ar H w) 0 n) := by rw [garr_hpa, if_pos rfl, gw]; rfl
    have g76 : garr (hpa H 76 ys) 76 = some ys := by rw [garr_hpa, if_pos rfl, ga_76 hS]; rfl
    rw [w229_2]
    simp (maxDischargeDepth := 12) only [w229_0, w229_1, w229_3, w229_4, w229_7, w229_8, w229_9, w229_12, w229_13, w229_14, w229_15, w229_16, w229_17, w229_18, w229_21, w229_22, w229_23, w229_24, w229_25, w229_28, w229_29, w229_30, w229_31, w229_34, w229_35, w229_36, w229_39, w229_40, w229_43, w229_44, w229_46, w229_49, w229_51, w229_54, w229_55, w229_56, w229_59, w229_62, w229_63, w229_66, w229_67, w229_68, w229_69, w229_70, w229_73, w229_74, w229_75, w229_78, w229_79, w229_81, w229_82, w229_83, w229_84, w229_85, w229_86, oK_some, cont_int, cont_intS, cont_none, cont_noneS, cont_long, cont_longS, true_and, and_true, false_and, and_false, true_implies, false_implies, not_true_eq_false, not_false_eq_true, eq_self, or_true, true_or, Option.isSome_some, hpf_length, hpa_length, bI_eq0, fi_hpa, fl_hpa, ar_hpf, fi_hpf_ne, fl_hpf_ne, ar_hpa_ne, hpa_hpa, hpf_hpf, nI_1, two_ne, fokZ, implies_true, Nat.reduceEqDiff, g_68_15, ga_71, gn_71, sa_71, ae_71, rc_68, g_68_23, ga_76, gn_76, sa_76, ae_76, kl_0, kl_1, kl_2, kl_3, kl_4, kl_5, kl_6, kl_7, kl_8, kl_9, kl_10, kl_11, kl_12, jb_0_211, jb_1_211, jb_2_211, jb_3_211, jb_4_211, jb_5_211, jb_6_211, jb_7_211, jb_8_211, jb_9_211, jb_10_211, jb_11_211, jb_12_211, jb_0_7, jb_1_7, jb_2_7, jb_3_7, jb_4_7, jb_5_7, jb_6_7, kl_0, kl_1, kl_2, kl_3, kl_4, kl_5, kl_6, kl_7, kl_8, kl_9, kl_10, kl_11, kl_12, jb_0_10, jb_1_10, jb_2_10, jb_3_10, jb_4_10, jb_5_10, jb_6_10, jb_7_10, jb_8_10, jb_9_10, hs, hS, ar_hpa_ne (by decide : ¬ (76 : Nat) = 71), c2', nI_les, m_copy (p := 0) (q := 0) (m := n) (v1 := 0) (v2 := 0) rfl rfl rfl g76 gw (fun e => hwn e.symm) (by omega) (by rw [hw0.2]; omega) (by omega) (by rw [hw0.2]; decide), gc, cpy_len, hw0.2]
    have arw : ar (hpa H 76 ys) w = ar H w := ar_hpa_ne hwn
    refine hQ _ ((fr_hpa hS (by rw [gn_76 hS, hly]) (by simp)).trans (fr_hpa hs (by rw [arw, List.length_set, cpy_len]) (by simp))) ?_
    rw [ar_hpa_eq gw]
    apply ext_getD
    · rw [List.length_set, cpy_len, hw0.2, dayM_len]
    · intro j hj
      rw [dayM_len] at hj
      unfold dayM
      rw [getD_rmap hj, getD_set, cpy_len, hw0.2, cpy_getD _ (by rw [hw0.2]; omega), cpy_getD _ (by rw [hw0.2]; omega), ← hY, ← hT]
      by_cases h9 : 9 = j
      · subst h9
        rw [if_pos ⟨rfl, by decide⟩, if_neg (by omega), if_neg (by omega), if_pos rfl]
      · rw [if_neg (fun q => h9 q.1)]
        by_cases hjn : j < n
        · rw [if_pos ⟨by omega, by omega⟩, if_pos hjn, show 0 + (j - 0) = j by omega, thF_getD n (by rw [gn_76 hS]; omega) hjn]
        · rw [if_neg (by omega), if_neg hjn, if_neg (fun e => h9 e.symm)]
  · intro i hi hw' o3
    have e : T (i + 1) (ar H 76) = (T i (ar H 76)).set i (nfM (ar H 71) (fi H 68 22) n nW nG nU (ar H w) i) := by rw [← hT]; rfl
    rw [e] at hw'
    have hs : Shp (hpa H 76 (T i (ar H 76))) := sa_76 hS (hlen i)
    have hly := hlen i
    generalize hY : T i (ar H 76) = ys at hs hw' hly
    have gw : garr (hpa H 76 ys) w = some (ar H w) := by rw [garr_hpa, if_neg hwn, hw0.1]
    have e71 : ar (hpa H 76 ys) 71 = ar H 71 := ar_hpa_ne (by decide)
    have e22 : fi (hpa H 76 ys) 68 22 = fi H 68 22 := fi_hpa
    have g76 : garr (hpa H 76 ys) 76 = some ys := by rw [garr_hpa, if_pos rfl, ga_76 hS]; rfl
    have M1 : ∀ Q', Wp scr (d + 3) 227 0 [some (.ref 68), some (.ref w), some (.int (nI i)), none, none, none] [] (hpa H 76 ys) Q' ↔ Q' (some (.int (tldM (ar H 71) (fi H 68 22) (ar H w) nG nU i))) (hpa H 76 ys) := fun Q' => by
      have := m_toldTo (scr := scr) (d := d + 2) (Q := Q') hs gw hw0.2 (by omega : i < 7) (by rw [e71]; exact c5) b5 (by rw [e71]; exact c6) b6
      rw [e71, e22] at this
      exact this
    have M2 : ∀ Q', Wp scr (d + 3) 228 0 [some (.ref 68), some (.ref w), some (.int (nI i)), none, none, none] [] (hpa H 76 ys) Q' ↔ Q' (some (.int (senM (ar H 71) (ar H w) nW n i))) (hpa H 76 ys) := fun Q' => by
      have := m_seenBy (scr := scr) (d := d) (Q := Q') hs gw hw0.2 (by omega : i < 7) (by rw [e71]; exact c2) b2 (by rw [e71]; exact c4) b4
      rw [e71] at this
      exact this
    rw [w229_2]
    simp (maxDischargeDepth := 12) only [w229_0, w229_1, w229_3, w229_4, w229_7, w229_8, w229_9, w229_12, w229_13, w229_14, w229_15, w229_16, w229_17, w229_18, w229_21, w229_22, w229_23, w229_24, w229_25, w229_28, w229_29, w229_30, w229_31, w229_34, w229_35, w229_36, w229_39, w229_40, w229_43, w229_44, w229_46, w229_49, w229_51, w229_54, w229_55, w229_56, w229_59, w229_62, w229_63, w229_66, w229_67, w229_68, w229_69, w229_70, w229_73, w229_74, w229_75, w229_78, w229_79, w229_81, w229_82, w229_83, w229_84, w229_85, w229_86, oK_some, cont_int, cont_intS, cont_none, cont_noneS, cont_long, cont_longS, true_and, and_true, false_and, and_false, true_implies, false_implies, not_true_eq_false, not_false_eq_true, eq_self, or_true, true_or, Option.isSome_some, hpf_length, hpa_length, bI_eq0, fi_hpa, fl_hpa, ar_hpf, fi_hpf_ne, fl_hpf_ne, ar_hpa_ne, hpa_hpa, hpf_hpf, nI_1, two_ne, fokZ, implies_true, Nat.reduceEqDiff, g_68_15, ga_71, gn_71, sa_71, ae_71, rc_68, g_68_23, ga_76, gn_76, sa_76, ae_76, kl_0, kl_1, kl_2, kl_3, kl_4, kl_5, kl_6, kl_7, kl_8, kl_9, kl_10, kl_11, kl_12, jb_0_211, jb_1_211, jb_2_211, jb_3_211, jb_4_211, jb_5_211, jb_6_211, jb_7_211, jb_8_211, jb_9_211, jb_10_211, jb_11_211, jb_12_211, jb_0_7, jb_1_7, jb_2_7, jb_3_7, jb_4_7, jb_5_7, jb_6_7, kl_0, kl_1, kl_2, kl_3, kl_4, kl_5, kl_6, kl_7, kl_8, kl_9, kl_10, kl_11, kl_12, jb_0_10, jb_1_10, jb_2_10, jb_3_10, jb_4_10, jb_5_10, jb_6_10, jb_7_10, jb_8_10, jb_9_10, hs, hS, e71, c2', nI_lef hi (by omega : n < 2147483648), gw, hw0.2, inb_nI (i := i) (by omega), decide_eq_true (by omega : i < 10), nI_clamp (n := i) (by omega), M1, M2, g76, hly, decide_eq_true (by omega : i < 7)]
    unfold nfM clp at hw'
    generalize (ar H w).getD i 0 + tldM (ar H 71) (fi H 68 22) (ar H w) nG nU i + senM (ar H 71) (ar H w) nW n i = x at hw'
    by_cases h1 : x < 0
    · have h1' : ¬ 0 ≤ x := by rw [Int32.not_le]; exact h1
      rw [if_pos h1] at hw'
      simp only [h1', false_implies, not_false_eq_true, true_implies, true_and]
      exact hw' _
    · have h1' : 0 ≤ x := by rw [← Int32.not_lt]; exact h1
      rw [if_neg h1] at hw'
      simp only [h1', not_true_eq_false, false_implies, true_implies, and_true]
      by_cases h2 : x ≤ 30
      · rw [if_pos h2] at hw'
        simp only [h2, not_true_eq_false, false_implies, true_implies, and_true]
        exact hw' _
      · rw [if_neg h2] at hw'
        simp only [h2, not_false_eq_true, false_implies, true_implies, true_and]
        exact hw' _
end MODEL3
