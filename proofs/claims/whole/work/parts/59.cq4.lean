/-! ===== the class: row, sign, wall, reach, cut ===== -/
theorem nI_andN (a b : Nat) : nI a &&& nI b = nI (a &&& b) := by
  apply Int32.toBitVec_inj.1
  show BitVec.ofNat 32 a &&& BitVec.ofNat 32 b = BitVec.ofNat 32 (a &&& b)
  apply BitVec.eq_of_getLsbD_eq
  intro i hi
  simp [hi]
theorem pc_sub : ∀ x ∈ List.range 32, ∀ y ∈ List.range 32, x &&& y = x → pc x ≤ pc y := by decide +kernel
theorem and_self_of {x y : Nat} (h : ∀ j, x.testBit j = true → y.testBit j = true) : x &&& y = x := by
  apply Nat.eq_of_testBit_eq
  intro j
  rw [Nat.testBit_and]
  cases hx : x.testBit j
  · rfl
  · rw [h j hx]; rfl
/-- the first set that takes in A is the least one -/
theorem ct_fold {nW A u : Nat} {T : Nat → Bool} (hW : nW ≤ 5) (hA : A < 2 ^ nW) (hu : A &&& u = 0) (hT : ∀ set, set < 2 ^ nW → T set = decide (A &&& set = A)) : forN (ctF (nI u) T) (2 ^ nW) (-2) = nI A := by
  have h5 : 2 ^ nW ≤ 2 ^ 5 := p2_lt hW
  have lo : ∀ i, i ≤ A → forN (ctF (nI u) T) i (-2) = -2 := by
    intro i
    induction i with
    | zero => intro _; rfl
    | succ i ih =>
      intro hi
      rw [forN_succ, ih (by omega)]
      unfold ctF
      have : ¬ T i = true := by
        rw [hT i (by omega)]
        intro q
        have h1 := of_decide_eq_true q
        have h2 : A &&& i ≤ i := Nat.and_le_right
        omega
      rw [if_neg (fun q => this q.2.2)]
  have hi : ∀ j, A + 1 + j ≤ 2 ^ nW → forN (ctF (nI u) T) (A + 1 + j) (-2) = nI A := by
    intro j
    induction j with
    | zero =>
      intro _
      rw [Nat.add_zero, forN_succ, lo A (Nat.le_refl _)]
      unfold ctF
      rw [if_pos ⟨by rw [nI_andN, hu]; rfl, Or.inl (by decide), by rw [hT A hA]; exact decide_eq_true (Nat.and_self _)⟩]
    | succ j ih =>
      intro hj
      rw [← Nat.add_assoc, forN_succ, ih (by omega)]
      unfold ctF
      have : ¬ ((nI A < 0 ∨ ones (nI (A + 1 + j)) < ones (nI A)) ∧ T (A + 1 + j) = true) := by
        rintro ⟨h1, h2⟩
        rw [hT _ (by omega)] at h2
        have h3 := of_decide_eq_true h2
        have h4 := pc_sub A (List.mem_range.mpr (by omega)) (A + 1 + j) (List.mem_range.mpr (by omega)) h3
        rcases h1 with q | q
        · exact nI_pos (by omega) q
        · rw [ones_pc _ (List.mem_range.mpr (by omega)), ones_pc _ (List.mem_range.mpr (by omega))] at q
          have p1 := pc_le 8 (by decide) A (List.mem_range.mpr (by omega))
          have p2 := pc_le 8 (by decide) (A + 1 + j) (List.mem_range.mpr (by omega))
          have := (nI_ltI (by omega) (by omega)).mp q
          omega
      rw [if_neg (fun q => this q.2)]
  have := hi (2 ^ nW - (A + 1)) (by omega)
  rw [show A + 1 + (2 ^ nW - (A + 1)) = 2 ^ nW by omega] at this
  exact this
theorem ct_none {mask : Int32} {T : Nat → Bool} : ∀ m, (∀ set, set < m → T set = false) → forN (ctF mask T) m (-2) = -2
  | 0, _ => rfl
  | m + 1, h => by
    rw [forN_succ, ct_none m (fun s hs => h s (by omega))]
    unfold ctF
    rw [if_neg (fun q => by rw [h m (by omega)] at q; cases q.2.2)]
def wOn (wl : List Int32) (nW : Nat) (s : Int32) : Int32 := fnd (fun w => decide (tg wl w 3 = s)) nW (-1)
section CUT
variable {scr : List Int32} {d n nS nW nG nU nN : Nat} {H : List AC} {R st ws ss wl : List Int32} {Q : Option Value → List AC → Prop}
theorem c_wallOn {sl t b m : Nat} {xs : List Int32} {s : Int32} (h1 : gfl H sl 6 4 = some (.ref t)) (h2 : gfl H t 9 1 = some (.ref b)) (h3 : gfl H t 9 2 = some (.int (nI m))) (h4 : garr H b = some xs) (hx : xs.length < 2147483648) (hm : m < 100000) : Wp scr (d + 1) 64 0 [some (.ref sl), some (.int s), none] [] H Q ↔ Q (some (.int (wOn xs m s))) H := by
  refine Wp_iff ?_
  generalize hQ : (fun (r : Option Value) (H' : List AC) => r = some (.int (wOn xs m s)) ∧ H' = H) = Q1
  simp only [w64_0, w64_1]
  have key := down (P := fun i => (∀ j, j < i → decide (tg xs j 3 = s) = false) → Wp scr (d + 1) 64 2 [some (.ref sl), some (.int s), some (.int (nI i))] [] H Q1) m ?_ ?_
  · exact key (fun j hj => absurd hj (Nat.not_lt_zero _))
  · intro hno
    rw [w64_2]
    simp only [w64_0, w64_1, w64_3, w64_4, w64_7, w64_10, w64_13, w64_14, w64_17, w64_18, w64_19, w64_22, w64_23, w64_26, w64_27, w64_28, w64_31, w64_34, w64_35, oK_some, cont_int, cont_intS, cont_none, cont_noneS, cont_long, cont_longS, true_and, and_true, false_and, and_false, true_implies, false_implies, not_true_eq_false, not_false_eq_true, eq_self, or_true, true_or, Option.isSome_some, hpf_length, hpa_length, bI_eq0, fi_hpa, fl_hpa, ar_hpf, fi_hpf_ne, fl_hpf_ne, ar_hpa_ne, hpa_hpa, hpf_hpf, nI_1, two_ne, fokZ, implies_true, Nat.reduceEqDiff, h1, rcv_of h2, c_Table_count h3, nI_les]
    rw [← hQ]
    unfold wOn
    rw [fnd_miss hno]
    exact ⟨rfl, rfl⟩
  · intro i hi hw hno
    rw [w64_2]
    simp only [w64_0, w64_1, w64_3, w64_4, w64_7, w64_10, w64_13, w64_14, w64_17, w64_18, w64_19, w64_22, w64_23, w64_26, w64_27, w64_28, w64_31, w64_34, w64_35, oK_some, cont_int, cont_intS, cont_none, cont_noneS, cont_long, cont_longS, true_and, and_true, false_and, and_false, true_implies, false_implies, not_true_eq_false, not_false_eq_true, eq_self, or_true, true_or, Option.isSome_some, hpf_length, hpa_length, bI_eq0, fi_hpa, fl_hpa, ar_hpf, fi_hpf_ne, fl_hpf_ne, ar_hpa_ne, hpa_hpa, hpf_hpf, nI_1, two_ne, fokZ, implies_true, Nat.reduceEqDiff, h1, rcv_of h2, c_Table_count h3, nI_lef hi (by omega : m < 2147483648), c_Table_at h2 h4 hx, tg_eq (xs := xs) (i := i) 3 (v := 3) (by omega) (by decide) rfl]
    by_cases hc : tg xs i 3 = s
    · simp only [hc, oK_some, cont_int, cont_intS, cont_none, cont_noneS, cont_long, cont_longS, true_and, and_true, false_and, and_false, true_implies, false_implies, not_true_eq_false, not_false_eq_true, eq_self, or_true, true_or, Option.isSome_some, hpf_length, hpa_length, bI_eq0, fi_hpa, fl_hpa, ar_hpf, fi_hpf_ne, fl_hpf_ne, ar_hpa_ne, hpa_hpa, hpf_hpf, nI_1, two_ne, fokZ, implies_true, Nat.reduceEqDiff]
      rw [← hQ]
      unfold wOn
      rw [fnd_hit hi (decide_eq_true hc) hno]
      exact ⟨rfl, rfl⟩
    · simp only [hc, oK_some, cont_int, cont_intS, cont_none, cont_noneS, cont_long, cont_longS, true_and, and_true, false_and, and_false, true_implies, false_implies, not_true_eq_false, not_false_eq_true, eq_self, or_true, true_or, Option.isSome_some, hpf_length, hpa_length, bI_eq0, fi_hpa, fl_hpa, ar_hpf, fi_hpf_ne, fl_hpf_ne, ar_hpa_ne, hpa_hpa, hpf_hpf, nI_1, two_ne, fokZ, implies_true, Nat.reduceEqDiff]
      refine hw (fun j hj => ?_)
      rcases Nat.lt_or_ge j i with q | q
      · exact hno j q
      · rw [show j = i by omega]; exact decide_eq_false hc
theorem wOn_in {s : Nat} (hW : TbW ss wl R nS nW) (hb : nW ≤ 5) : (∃ w, w < nW ∧ tg wl w 3 = nI s ∧ wOn wl nW (nI s) = nI w) ∨ ((∀ w, w < nW → ¬ tg wl w 3 = nI s) ∧ wOn wl nW (nI s) = -1) := by
  by_cases h : ∃ w, w < nW ∧ tg wl w 3 = nI s
  · obtain ⟨w, hw, e⟩ := h
    left
    refine ⟨w, hw, e, ?_⟩
    unfold wOn
    exact fnd_hit hw (decide_eq_true e) (fun j hj => decide_eq_false (fun q => by
      have := hW.2 j w (by omega) hw (q.trans e.symm)
      omega))
  · right
    have hno : ∀ w, w < nW → ¬ tg wl w 3 = nI s := fun w hw q => h ⟨w, hw, q⟩
    refine ⟨hno, ?_⟩
    unfold wOn
    exact fnd_miss (fun j hj => decide_eq_false (hno j hj))
/-- open sights into a row -/
def arB (ss : List Int32) (op : Int32) (k s : Nat) : Bool := bt op s && decide (tg ss s 1 = nI k)
theorem cut_T (hSs : TbS ss R n nS) (hW : TbW ss wl R nS nW) (hn : n ≤ 7) (hS : nS ≤ 10) (hW5 : nW ≤ 5) {k set : Nat} {up : Int32} (hk : k < n) : (rchM R n nW (up ||| nI set) (1 <<< (nI k &&& 31)) = 1 <<< (nI k &&& 31)) ↔ ∀ s, s < nS → arB ss (opn nS nW wl up) k s = true → ∃ w, w < nW ∧ tg wl w 3 = nI s ∧ set.testBit w = true := by
  rw [rch_self hn hk]
  have hbu : ∀ w, w < nW → hb (up ||| nI set) (nI w) = (hb up (nI w) || set.testBit w) := fun w hw => by rw [hb_bt (by omega), hb_bt (by omega), b_or, bt_nI (by omega)]
  constructor
  · intro h s hs ha
    unfold arB at ha
    simp only [Bool.and_eq_true, decide_eq_true_eq] at ha
    obtain ⟨a, b, la, lb, hne, s0, s1, s2, s3⟩ := hSs.1 s hs
    have eb : b = k := (nI_eq (by omega) (by omega)).mp (s1.symm.trans ha.2)
    subst eb
    have h1 := h a la hne
    rw [← opn_see (wl := wl) hSs hW hn hS hW5 hs la lb s0 s1, opn_bit hW hS hW5 hs] at h1
    have h2 : exN (fun w => hb (up ||| nI set) (nI w) && decide (tg wl w 3 = nI s)) nW = true := by
      cases hx : exN (fun w => hb (up ||| nI set) (nI w) && decide (tg wl w 3 = nI s)) nW
      · rw [hx] at h1; cases h1
      · rfl
    obtain ⟨w, hw', hp⟩ := List.any_eq_true.mp h2
    have hw := List.mem_range.mp hw'
    simp only [Bool.and_eq_true, decide_eq_true_eq] at hp
    rw [hbu w hw] at hp
    refine ⟨w, hw, hp.2, ?_⟩
    rcases Bool.or_eq_true _ _ ▸ hp.1 with q | q
    · have h3 := ha.1
      rw [opn_bit hW hS hW5 hs, exN_t hw (by simp [q, hp.2])] at h3
      cases h3
    · exact q
  · intro h a ha hne
    cases hd : dSee R nW (up ||| nI set) a k
    · rfl
    · obtain ⟨s, hs, s0, s1, s2⟩ := sight_ex (wl := wl) hSs hW hn hS hW5 ha hk hd
      have ho : bt (opn nS nW wl up) s = true := by
        rw [opn_bit hW hS hW5 hs] at s2 ⊢
        cases hx : exN (fun w => hb up (nI w) && decide (tg wl w 3 = nI s)) nW
        · rfl
        · obtain ⟨w, hw', hp⟩ := List.any_eq_true.mp hx
          have hw := List.mem_range.mp hw'
          simp only [Bool.and_eq_true, decide_eq_true_eq] at hp
          rw [exN_t hw (by simp [hbu w hw, hp.1, hp.2])] at s2
          cases s2
      obtain ⟨w, hw, hw3, hwb⟩ := h s hs (by unfold arB; simp [ho, s1])
      rw [opn_bit hW hS hW5 hs, exN_t hw (by simp [hbu w hw, hwb, hw3])] at s2
      cases s2
def arN (ss wl : List Int32) (op : Int32) (nW k : Nat) (m : Nat) : Nat := forN (fun s a => if arB ss op k s = true then a ||| 2 ^ (wOn wl nW (nI s)).toNatClampNeg else a) m 0
theorem arN_bit {op : Int32} {k j : Nat} : ∀ m, (arN ss wl op nW k m).testBit j = exN (fun s => arB ss op k s && decide ((wOn wl nW (nI s)).toNatClampNeg = j)) m
  | 0 => by unfold arN; rw [forN_zero, exN_zero]; simp
  | m + 1 => by
    have ih := arN_bit (op := op) (k := k) (j := j) m
    unfold arN at ih ⊢
    rw [forN_succ, exN_succ, ← ih]
    cases h : arB ss op k m
    · simp
    · simp [Nat.testBit_or, Nat.testBit_two_pow]
theorem cut_eq (hSs : TbS ss R n nS) (hW : TbW ss wl R nS nW) (hn : n ≤ 7) (hS : nS ≤ 10) (hW5 : nW ≤ 5) {k u : Nat} (hk : k < n) : forN (ctF (nI u) (fun set => decide (rchM R n nW (nI u ||| nI set) (1 <<< (nI k &&& 31)) = 1 <<< (nI k &&& 31)))) (2 ^ nW) (-2) = if exN (fun s => arB ss (opn nS nW wl (nI u)) k s && decide (wOn wl nW (nI s) = -1)) nS = true then -2 else nI (arN ss wl (opn nS nW wl (nI u)) nW k nS) := by
  by_cases hx : exN (fun s => arB ss (opn nS nW wl (nI u)) k s && decide (wOn wl nW (nI s) = -1)) nS = true
  · rw [if_pos hx]
    obtain ⟨s, hs', hp⟩ := List.any_eq_true.mp hx
    have hs := List.mem_range.mp hs'
    simp only [Bool.and_eq_true, decide_eq_true_eq] at hp
    refine ct_none _ (fun set _ => decide_eq_false (fun q => ?_))
    obtain ⟨w, hw, hw3, _⟩ := (cut_T (wl := wl) hSs hW hn hS hW5 hk).mp q s hs hp.1
    rcases wOn_in (s := s) hW hW5 with ⟨w', hw', _, e⟩ | ⟨hno, _⟩
    · rw [hp.2] at e
      have := congrArg Int32.toInt e
      rw [nI_toInt (by omega), show (-1 : Int32).toInt = -1 by decide] at this
      omega
    · exact hno w hw hw3
  · rw [if_neg hx]
    have hx' : exN (fun s => arB ss (opn nS nW wl (nI u)) k s && decide (wOn wl nW (nI s) = -1)) nS = false := by simpa using hx
    have good : ∀ s, s < nS → arB ss (opn nS nW wl (nI u)) k s = true → ∃ w, w < nW ∧ tg wl w 3 = nI s ∧ wOn wl nW (nI s) = nI w := by
      intro s hs ha
      rcases wOn_in (s := s) hW hW5 with h | ⟨_, e⟩
      · exact h
      · rw [exN_t hs (by simp [ha, e])] at hx'
        cases hx'
    have bits : ∀ j, (arN ss wl (opn nS nW wl (nI u)) nW k nS).testBit j = true ↔ ∃ s, s < nS ∧ arB ss (opn nS nW wl (nI u)) k s = true ∧ j < nW ∧ tg wl j 3 = nI s := by
      intro j
      rw [arN_bit]
      constructor
      · intro h
        obtain ⟨s, hs', hp⟩ := List.any_eq_true.mp h
        have hs := List.mem_range.mp hs'
        simp only [Bool.and_eq_true, decide_eq_true_eq] at hp
        obtain ⟨w, hw, hw3, e⟩ := good s hs hp.1
        rw [e, nI_clamp (by omega)] at hp
        rw [← hp.2]
        exact ⟨s, hs, hp.1, hw, hw3⟩
      · rintro ⟨s, hs, ha, hj, hj3⟩
        obtain ⟨w, hw, hw3, e⟩ := good s hs ha
        have ew : w = j := hW.2 w j hw hj (hw3.trans hj3.symm)
        subst ew
        exact exN_t hs (by simp [ha, e, nI_clamp (show w < 2147483648 by omega)])
    refine ct_fold hW5 ?_ ?_ (fun set hset => ?_)
    · rcases Nat.lt_or_ge (arN ss wl (opn nS nW wl (nI u)) nW k nS) (2 ^ nW) with q | q
      · exact q
      · obtain ⟨j, hj, hb⟩ := Nat.exists_ge_and_testBit_of_ge_two_pow q
        obtain ⟨_, _, _, h, _⟩ := (bits j).mp hb
        omega
    · apply Nat.eq_of_testBit_eq
      intro j
      rw [Nat.testBit_and, Nat.zero_testBit]
      cases hA : (arN ss wl (opn nS nW wl (nI u)) nW k nS).testBit j
      · rfl
      · obtain ⟨s, hs, ha, hj, hj3⟩ := (bits j).mp hA
        unfold arB at ha
        simp only [Bool.and_eq_true] at ha
        have h1 := ha.1
        rw [opn_bit hW hS hW5 hs] at h1
        cases hu : u.testBit j
        · rfl
        · rw [exN_t hj (by simp [hb_bt (show j < 32 by omega), bt_nI (show j < 32 by omega), hu, hj3])] at h1
          cases h1
    · apply decide_eq_decide.mpr
      rw [cut_T (wl := wl) hSs hW hn hS hW5 hk]
      constructor
      · intro h
        refine and_self_of (fun j hj => ?_)
        obtain ⟨s, hs, ha, hjw, hj3⟩ := (bits j).mp hj
        obtain ⟨w, hw, hw3, hb⟩ := h s hs ha
        have ew : w = j := hW.2 w j hw hjw (hw3.trans hj3.symm)
        subst ew
        exact hb
      · intro h s hs ha
        obtain ⟨w, hw, hw3, _⟩ := good s hs ha
        refine ⟨w, hw, hw3, ?_⟩
        have h1 : (arN ss wl (opn nS nW wl (nI u)) nW k nS).testBit w = true := (bits w).mpr ⟨s, hs, ha, hw, hw3⟩
        rw [← h, Nat.testBit_and] at h1
        simp only [Bool.and_eq_true] at h1
        exact h1.2
theorem C_cut {k : Int32} {u : Nat} (hC : CIv H R st n nS nW nG nU nN) (hu : st.getD 8 0 = nI u) (hQ : CR H Q (if 0 ≤ k ∧ k < nI n then forN (ctF (st.getD 8 0) (fun set => decide (rchM R n nW (st.getD 8 0 ||| nI set) (1 <<< (k &&& 31)) = 1 <<< (k &&& 31)))) (2 ^ nW) (-2) else -1) (if 0 ≤ k ∧ k < nI n then 0 else 1)) : Wp scr (d + 3) 153 0 [some (.ref 0), some (.int k)] [] H Q := by
  have hS := hC.shp
  obtain ⟨c2, c3, c4, c5, c6, c7, b2, b3, b4, b5, b6, b7⟩ := id hC.1.2.1
  have hs0 := sf_0_13 (v := 0) hS
  have hC0 := hC.tr (v := 0)
  by_cases hp : 0 ≤ k ∧ k < nI n
  · rw [if_pos hp, if_pos hp] at hQ
    obtain ⟨ek, lk⟩ := of_row hp (by omega)
    generalize k.toNatClampNeg = kk at ek lk hQ
    subst ek
    have tS := hC0.1.2.2.2.1
    have tW := hC0.1.2.2.2.2.1
    rw [hu, cut_eq tS tW b2 b3 b4 lk] at hQ
    have hx9 : (ar (hpf H 0 13 (.int 0)) 9).length < 2147483648 := by rw [gn_9 hs0]; decide
    have hx7 : (ar (hpf H 0 13 (.int 0)) 7).length < 2147483648 := by rw [gn_7 hs0]; decide
    have c3' := hC0.1.2.1.2.1
    have c4' := hC0.1.2.1.2.2.1
    have f3 : fi H 30 3 = nI u := by rw [hC.2.1.2.2.2, hu]
    simp (maxDischargeDepth := 12) only [w153_0, w153_1, w153_2, w153_3, w153_6, w153_9, w153_10, w153_13, w153_16, w153_17, w153_20, w153_21, w153_22, w153_25, oK_some, cont_int, cont_intS, cont_none, cont_noneS, cont_long, cont_longS, true_and, and_true, false_and, and_false, true_implies, false_implies, not_true_eq_false, not_false_eq_true, eq_self, or_true, true_or, Option.isSome_some, hpf_length, hpa_length, bI_eq0, fi_hpa, fl_hpa, ar_hpf, fi_hpf_ne, fl_hpf_ne, ar_hpa_ne, hpa_hpa, hpf_hpf, nI_1, two_ne, fokZ, implies_true, Nat.reduceEqDiff, rc_0, g_0_13, sf_0_13, fe_0_13, hS, c_rowTrouble hC, hp, and_self, if_true, hs0, w154_0, w154_1, w154_4, w154_5, w154_8, w154_11, w154_14, w154_15, w154_16, w154_17, w154_18, g_0_2, g_0_5, g_30_3, rc_3, f3, c_openSights hs0 c3' c4' (by omega : nW < 100000)]
    simp only [ar_hpf] at tS tW hQ hx9 hx7
    simp only [fi_hpf_ne (show ¬ ((0 : Nat) = 6 ∧ (13 : Nat) = 2) by decide), fi_hpf_ne (show ¬ ((0 : Nat) = 8 ∧ (13 : Nat) = 2) by decide)] at c3' c4'
    generalize hop : opn nS nW (ar H 9) (nI u) = op at hQ ⊢
    have g8 : gfl (hpf H 0 13 (.int 0)) 8 9 2 = some (.int (nI nW)) := by rw [g_8_2 hs0, fi_hpf_ne (by decide), c4']
    have ga9 : garr (hpf H 0 13 (.int 0)) 9 = some (ar H 9) := by rw [ga_9 hs0, ar_hpf]
    have ga7 : garr (hpf H 0 13 (.int 0)) 7 = some (ar H 7) := by rw [ga_7 hs0, ar_hpf]
    have g6 : gfl (hpf H 0 13 (.int 0)) 6 9 2 = some (.int (nI nS)) := by rw [g_6_2 hs0, fi_hpf_ne (by decide), c3']
    have key := down (P := fun i => (∀ s, s < i → (arB (ar H 7) op kk s && decide (wOn (ar H 9) nW (nI s) = -1)) = false) → ∀ o5 : Option Value, Wp scr (d + 2) 154 20 [some (.ref 0), some (.int (nI kk)), some (.int op), some (.int (nI (arN (ar H 7) (ar H 9) op nW kk i))), some (.int (nI i)), o5] [] (hpf H 0 13 (.int 0)) (cont scr (d + 3) 153 25 [some (.ref 0), some (.int (nI kk))] [] 1 (hpf H 0 13 (.int 0)) Q)) nS ?_ ?_
    · exact key (fun s hs => absurd hs (Nat.not_lt_zero _)) none
    · intro hno o5
      rw [exN_f hno, if_neg (by decide)] at hQ
      rw [w154_20]
      simp (maxDischargeDepth := 12) only [w154_0, w154_1, w154_4, w154_5, w154_8, w154_11, w154_14, w154_15, w154_16, w154_17, w154_18, w154_22, w154_23, w154_26, w154_29, w154_32, w154_35, w154_36, w154_38, w154_39, w154_40, w154_41, w154_44, w154_45, w154_48, w154_51, w154_53, w154_54, w154_57, w154_58, w154_61, w154_62, w154_65, w154_67, w154_70, w154_72, w154_74, w154_75, w154_78, w154_80, w154_81, w154_82, w154_83, w154_85, w154_86, w154_87, w154_88, w154_91, w154_94, w154_95, oK_some, cont_int, cont_intS, cont_none, cont_noneS, cont_long, cont_longS, true_and, and_true, false_and, and_false, true_implies, false_implies, not_true_eq_false, not_false_eq_true, eq_self, or_true, true_or, Option.isSome_some, hpf_length, hpa_length, bI_eq0, fi_hpa, fl_hpa, ar_hpf, fi_hpf_ne, fl_hpf_ne, ar_hpa_ne, hpa_hpa, hpf_hpf, nI_1, two_ne, fokZ, implies_true, Nat.reduceEqDiff, g_0_2, rc_3, g_0_5, rc_30, g_30_3, sf_30_3, fe_30_3, g_34_3, sf_34_3, fe_34_3, g_45_3, sf_45_3, fe_45_3, rc_16, g_3_3, rc_6, g_16_3, rc_19, rc_4, rc_8, rc_10, rc_12, rc_14, rc_17, rc_21, rc_23, rc_25, rc_27, w153_0, w153_1, w153_2, w153_3, w153_6, w153_9, w153_10, w153_13, w153_16, w153_17, w153_20, w153_21, w153_22, w153_25, oK_some, cont_int, cont_intS, cont_none, cont_noneS, cont_long, cont_longS, true_and, and_true, false_and, and_false, true_implies, false_implies, not_true_eq_false, not_false_eq_true, eq_self, or_true, true_or, Option.isSome_some, hpf_length, hpa_length, bI_eq0, fi_hpa, fl_hpa, ar_hpf, fi_hpf_ne, fl_hpf_ne, ar_hpa_ne, hpa_hpa, hpf_hpf, nI_1, two_ne, fokZ, implies_true, Nat.reduceEqDiff, rc_0, g_0_13, sf_0_13, fe_0_13, hs0, c_Table_count g6, nI_les]
      exact cr_no hS hQ
    · intro i hi hw hno o5
      have eN : arN (ar H 7) (ar H 9) op nW kk (i + 1) = (if arB (ar H 7) op kk i = true then arN (ar H 7) (ar H 9) op nW kk i ||| 2 ^ (wOn (ar H 9) nW (nI i)).toNatClampNeg else arN (ar H 7) (ar H 9) op nW kk i) := rfl
      rw [eN] at hw
      have ext : (arB (ar H 7) op kk i && decide (wOn (ar H 9) nW (nI i) = -1)) = false → ∀ s, s < i + 1 → (arB (ar H 7) op kk s && decide (wOn (ar H 9) nW (nI s) = -1)) = false := fun h s hs => by
        rcases Nat.lt_or_ge s i with q | q
        · exact hno s q
        · rw [show s = i by omega]; exact h
      rw [w154_20]
      simp (maxDischargeDepth := 12) only [w154_0, w154_1, w154_4, w154_5, w154_8, w154_11, w154_14, w154_15, w154_16, w154_17, w154_18, w154_22, w154_23, w154_26, w154_29, w154_32, w154_35, w154_36, w154_38, w154_39, w154_40, w154_41, w154_44, w154_45, w154_48, w154_51, w154_53, w154_54, w154_57, w154_58, w154_61, w154_62, w154_65, w154_67, w154_70, w154_72, w154_74, w154_75, w154_78, w154_80, w154_81, w154_82, w154_83, w154_85, w154_86, w154_87, w154_88, w154_91, w154_94, w154_95, oK_some, cont_int, cont_intS, cont_none, cont_noneS, cont_long, cont_longS, true_and, and_true, false_and, and_false, true_implies, false_implies, not_true_eq_false, not_false_eq_true, eq_self, or_true, true_or, Option.isSome_some, hpf_length, hpa_length, bI_eq0, fi_hpa, fl_hpa, ar_hpf, fi_hpf_ne, fl_hpf_ne, ar_hpa_ne, hpa_hpa, hpf_hpf, nI_1, two_ne, fokZ, implies_true, Nat.reduceEqDiff, g_0_2, rc_3, g_0_5, rc_30, g_30_3, sf_30_3, fe_30_3, g_34_3, sf_34_3, fe_34_3, g_45_3, sf_45_3, fe_45_3, rc_16, g_3_3, rc_6, g_16_3, rc_19, rc_4, rc_8, rc_10, rc_12, rc_14, rc_17, rc_21, rc_23, rc_25, rc_27, hs0, c_Table_count g6, nI_lef hi (by omega : nS < 2147483648), bit_bt (show i < 32 by omega), c_Table_at (g_6_1 hs0) ga7 hx7, tg_eq (xs := ar H 7) (i := i) 1 (v := 1) (by omega) (by decide) rfl, c_wallOn (g_3_4 hs0) (g_8_1 hs0) g8 ga9 hx9 (by omega : nW < 100000)]
      cases hbt : bt op i
      · have eA : arB (ar H 7) op kk i = false := by unfold arB; rw [hbt, Bool.false_and]
        rw [eA] at hw ext
        simp only [Bool.false_eq_true, if_false] at hw
        simp only [oK_some, cont_int, cont_intS, cont_none, cont_noneS, cont_long, cont_longS, true_and, and_true, false_and, and_false, true_implies, false_implies, not_true_eq_false, not_false_eq_true, eq_self, or_true, true_or, Option.isSome_some, hpf_length, hpa_length, bI_eq0, fi_hpa, fl_hpa, ar_hpf, fi_hpf_ne, fl_hpf_ne, ar_hpa_ne, hpa_hpa, hpf_hpf, nI_1, two_ne, fokZ, implies_true, Nat.reduceEqDiff]
        exact hw (ext rfl) _
      · simp only [oK_some, cont_int, cont_intS, cont_none, cont_noneS, cont_long, cont_longS, true_and, and_true, false_and, and_false, true_implies, false_implies, not_true_eq_false, not_false_eq_true, eq_self, or_true, true_or, Option.isSome_some, hpf_length, hpa_length, bI_eq0, fi_hpa, fl_hpa, ar_hpf, fi_hpf_ne, fl_hpf_ne, ar_hpa_ne, hpa_hpa, hpf_hpf, nI_1, two_ne, fokZ, implies_true, Nat.reduceEqDiff, Bool.true_eq_false]
        by_cases hc : tg (ar H 7) i 1 = nI kk
        · have eA : arB (ar H 7) op kk i = true := by unfold arB; rw [hbt, decide_eq_true hc]; rfl
          rw [eA] at hw ext
          simp only [if_true] at hw
          simp only [hc, oK_some, cont_int, cont_intS, cont_none, cont_noneS, cont_long, cont_longS, true_and, and_true, false_and, and_false, true_implies, false_implies, not_true_eq_false, not_false_eq_true, eq_self, or_true, true_or, Option.isSome_some, hpf_length, hpa_length, bI_eq0, fi_hpa, fl_hpa, ar_hpf, fi_hpf_ne, fl_hpf_ne, ar_hpa_ne, hpa_hpa, hpf_hpf, nI_1, two_ne, fokZ, implies_true, Nat.reduceEqDiff]
          rcases wOn_in (s := i) tW b4 with ⟨w, hw', hw3, e⟩ | ⟨_, e⟩
          · have hne : (nI w = (-1 : Int32)) = False := eq_false (fun q => by
              have := congrArg Int32.toInt q
              rw [nI_toInt (by omega), show (-1 : Int32).toInt = -1 by decide] at this
              omega)
            rw [e, nI_clamp (by omega)] at hw
            rw [e] at ext
            simp only [e, hne, oK_some, cont_int, cont_intS, cont_none, cont_noneS, cont_long, cont_longS, true_and, and_true, false_and, and_false, true_implies, false_implies, not_true_eq_false, not_false_eq_true, eq_self, or_true, true_or, Option.isSome_some, hpf_length, hpa_length, bI_eq0, fi_hpa, fl_hpa, ar_hpf, fi_hpf_ne, fl_hpf_ne, ar_hpa_ne, hpa_hpa, hpf_hpf, nI_1, two_ne, fokZ, implies_true, Nat.reduceEqDiff, p2 (show w ≤ 10 by omega), nI_orN]
            exact hw (ext (by simp [hne])) _
          · rw [exN_t hi (by rw [eA, e]; rfl), if_pos rfl] at hQ
            simp only [e, oK_some, cont_int, cont_intS, cont_none, cont_noneS, cont_long, cont_longS, true_and, and_true, false_and, and_false, true_implies, false_implies, not_true_eq_false, not_false_eq_true, eq_self, or_true, true_or, Option.isSome_some, hpf_length, hpa_length, bI_eq0, fi_hpa, fl_hpa, ar_hpf, fi_hpf_ne, fl_hpf_ne, ar_hpa_ne, hpa_hpa, hpf_hpf, nI_1, two_ne, fokZ, implies_true, Nat.reduceEqDiff, w153_0, w153_1, w153_2, w153_3, w153_6, w153_9, w153_10, w153_13, w153_16, w153_17, w153_20, w153_21, w153_22, w153_25, oK_some, cont_int, cont_intS, cont_none, cont_noneS, cont_long, cont_longS, true_and, and_true, false_and, and_false, true_implies, false_implies, not_true_eq_false, not_false_eq_true, eq_self, or_true, true_or, Option.isSome_some, hpf_length, hpa_length, bI_eq0, fi_hpa, fl_hpa, ar_hpf, fi_hpf_ne, fl_hpf_ne, ar_hpa_ne, hpa_hpa, hpf_hpf, nI_1, two_ne, fokZ, implies_true, Nat.reduceEqDiff, rc_0, g_0_13, sf_0_13, fe_0_13]
            exact cr_no hS hQ
        · have eA : arB (ar H 7) op kk i = false := by unfold arB; rw [decide_eq_false hc, Bool.and_false]
          rw [eA] at hw ext
          simp only [Bool.false_eq_true, if_false] at hw
          simp only [hc, oK_some, cont_int, cont_intS, cont_none, cont_noneS, cont_long, cont_longS, true_and, and_true, false_and, and_false, true_implies, false_implies, not_true_eq_false, not_false_eq_true, eq_self, or_true, true_or, Option.isSome_some, hpf_length, hpa_length, bI_eq0, fi_hpa, fl_hpa, ar_hpf, fi_hpf_ne, fl_hpf_ne, ar_hpa_ne, hpa_hpa, hpf_hpf, nI_1, two_ne, fokZ, implies_true, Nat.reduceEqDiff]
          exact hw (ext rfl) _
  · rw [if_neg hp, if_neg hp] at hQ
    simp (maxDischargeDepth := 12) only [w153_0, w153_1, w153_2, w153_3, w153_6, w153_9, w153_10, w153_13, w153_16, w153_17, w153_20, w153_21, w153_22, w153_25, oK_some, cont_int, cont_intS, cont_none, cont_noneS, cont_long, cont_longS, true_and, and_true, false_and, and_false, true_implies, false_implies, not_true_eq_false, not_false_eq_true, eq_self, or_true, true_or, Option.isSome_some, hpf_length, hpa_length, bI_eq0, fi_hpa, fl_hpa, ar_hpf, fi_hpf_ne, fl_hpf_ne, ar_hpa_ne, hpa_hpa, hpf_hpf, nI_1, two_ne, fokZ, implies_true, Nat.reduceEqDiff, rc_0, g_0_13, sf_0_13, fe_0_13, hS, c_rowTrouble hC, hp, if_false, show ((1 : Int32) = 0) = False from eq_false (by decide)]
    exact cr_no hS hQ
theorem C_reach {k : Int32} (hC : CIv H R st n nS nW nG nU nN) (hQ : CR H Q (if 0 ≤ k ∧ k < nI n then rchM R n nW (st.getD 8 0) (1 <<< (k &&& 31)) else -1) (if 0 ≤ k ∧ k < nI n then 0 else 1)) : Wp scr (d + 3) 146 0 [some (.ref 0), some (.int k), none, none, none] [] H Q := by
  have hS := hC.shp
  obtain ⟨c2, c3, c4, c5, c6, c7, b2, b3, b4, b5, b6, b7⟩ := id hC.1.2.1
  have hs0 := sf_0_13 (v := 0) hS
  have hC0 := hC.tr (v := 0)
  by_cases hp : 0 ≤ k ∧ k < nI n
  · rw [if_pos hp, if_pos hp] at hQ
    obtain ⟨ek, lk⟩ := of_row hp (by omega)
    generalize k.toNatClampNeg = kk at ek lk hQ
    subst ek
    have tS := hC0.1.2.2.2.1
    have tW := hC0.1.2.2.2.2.1
    rw [← rch_eq (wl := ar (hpf H 0 13 (.int 0)) 9) tS tW b2 b3 b4 lk] at hQ
    have c3' := hC0.1.2.1.2.1
    have c4' := hC0.1.2.1.2.2.1
    have f3 := hC.2.1.2.2.2
    simp (maxDischargeDepth := 12) only [w146_0, w146_1, w146_2, w146_3, w146_6, w146_9, w146_10, w146_13, w146_16, w146_17, w146_18, w146_19, w146_22, w146_23, w146_26, w146_29, w146_32, w146_33, w146_34, w146_35, w146_36, w146_37, w146_38, w146_42, w146_44, w146_47, w146_48, w146_49, w146_52, w146_53, w146_54, w146_57, w146_58, w146_59, w146_62, w146_65, w146_66, oK_some, cont_int, cont_intS, cont_none, cont_noneS, cont_long, cont_longS, true_and, and_true, false_and, and_false, true_implies, false_implies, not_true_eq_false, not_false_eq_true, eq_self, or_true, true_or, Option.isSome_some, hpf_length, hpa_length, bI_eq0, fi_hpa, fl_hpa, ar_hpf, fi_hpf_ne, fl_hpf_ne, ar_hpa_ne, hpa_hpa, hpf_hpf, nI_1, two_ne, fokZ, implies_true, Nat.reduceEqDiff, rc_0, g_0_13, sf_0_13, fe_0_13, g_0_2, rc_3, g_0_5, rc_30, g_30_3, sf_30_3, fe_30_3, g_34_3, sf_34_3, fe_34_3, g_45_3, sf_45_3, fe_45_3, rc_16, hS, c_rowTrouble hC, hp, and_self, if_true, hs0, f3, c_openSights hs0 c3' c4' (by omega : nW < 100000)]
    simp only [ar_hpf] at hQ
    generalize opn nS nW (ar H 9) (st.getD 8 0) = op at hQ ⊢
    have key := down (P := fun i => Wp scr (d + 3) 146 40 [some (.ref 0), some (.int (nI kk)), some (.int op), some (.int (rcC nS (ar H 7) op i (1 <<< (nI kk &&& 31)))), some (.int (nI i))] [] (hpf H 0 13 (.int 0)) Q) 7 ?_ ?_
    · exact key
    · rw [w146_40]
      simp (maxDischargeDepth := 12) only [w146_0, w146_1, w146_2, w146_3, w146_6, w146_9, w146_10, w146_13, w146_16, w146_17, w146_18, w146_19, w146_22, w146_23, w146_26, w146_29, w146_32, w146_33, w146_34, w146_35, w146_36, w146_37, w146_38, w146_42, w146_44, w146_47, w146_48, w146_49, w146_52, w146_53, w146_54, w146_57, w146_58, w146_59, w146_62, w146_65, w146_66, oK_some, cont_int, cont_intS, cont_none, cont_noneS, cont_long, cont_longS, true_and, and_true, false_and, and_false, true_implies, false_implies, not_true_eq_false, not_false_eq_true, eq_self, or_true, true_or, Option.isSome_some, hpf_length, hpa_length, bI_eq0, fi_hpa, fl_hpa, ar_hpf, fi_hpf_ne, fl_hpf_ne, ar_hpa_ne, hpa_hpa, hpf_hpf, nI_1, two_ne, fokZ, implies_true, Nat.reduceEqDiff, rc_0, g_0_13, sf_0_13, fe_0_13, g_0_2, rc_3, g_0_5, rc_30, g_30_3, sf_30_3, fe_30_3, g_34_3, sf_34_3, fe_34_3, g_45_3, sf_45_3, fe_45_3, rc_16, show ((7 : Int32) ≤ nI 7) = True from eq_true (by decide)]
      exact cr_no hS hQ
    · intro i hi hw
      have e : rcC nS (ar H 7) op (i + 1) (1 <<< (nI kk &&& 31)) = rcC nS (ar H 7) op i (1 <<< (nI kk &&& 31)) ||| srs nS (ar H 7) (rcC nS (ar H 7) op i (1 <<< (nI kk &&& 31))) op := rfl
      rw [e] at hw
      generalize rcC nS (ar H 7) op i (1 <<< (nI kk &&& 31)) = s at hw ⊢
      rw [w146_40]
      simp (maxDischargeDepth := 12) only [w146_0, w146_1, w146_2, w146_3, w146_6, w146_9, w146_10, w146_13, w146_16, w146_17, w146_18, w146_19, w146_22, w146_23, w146_26, w146_29, w146_32, w146_33, w146_34, w146_35, w146_36, w146_37, w146_38, w146_42, w146_44, w146_47, w146_48, w146_49, w146_52, w146_53, w146_54, w146_57, w146_58, w146_59, w146_62, w146_65, w146_66, oK_some, cont_int, cont_intS, cont_none, cont_noneS, cont_long, cont_longS, true_and, and_true, false_and, and_false, true_implies, false_implies, not_true_eq_false, not_false_eq_true, eq_self, or_true, true_or, Option.isSome_some, hpf_length, hpa_length, bI_eq0, fi_hpa, fl_hpa, ar_hpf, fi_hpf_ne, fl_hpf_ne, ar_hpa_ne, hpa_hpa, hpf_hpf, nI_1, two_ne, fokZ, implies_true, Nat.reduceEqDiff, rc_0, g_0_13, sf_0_13, fe_0_13, g_0_2, rc_3, g_0_5, rc_30, g_30_3, sf_30_3, fe_30_3, g_34_3, sf_34_3, fe_34_3, g_45_3, sf_45_3, fe_45_3, rc_16, hs0, show ((7 : Int32) ≤ nI i) = False from eq_false (nI_ge (b := 7) hi (by decide)), c_seersOf hs0 c3' (by omega : nS < 100000)]
      exact hw
  · rw [if_neg hp, if_neg hp] at hQ
    simp (maxDischargeDepth := 12) only [w146_0, w146_1, w146_2, w146_3, w146_6, w146_9, w146_10, w146_13, w146_16, w146_17, w146_18, w146_19, w146_22, w146_23, w146_26, w146_29, w146_32, w146_33, w146_34, w146_35, w146_36, w146_37, w146_38, w146_42, w146_44, w146_47, w146_48, w146_49, w146_52, w146_53, w146_54, w146_57, w146_58, w146_59, w146_62, w146_65, w146_66, oK_some, cont_int, cont_intS, cont_none, cont_noneS, cont_long, cont_longS, true_and, and_true, false_and, and_false, true_implies, false_implies, not_true_eq_false, not_false_eq_true, eq_self, or_true, true_or, Option.isSome_some, hpf_length, hpa_length, bI_eq0, fi_hpa, fl_hpa, ar_hpf, fi_hpf_ne, fl_hpf_ne, ar_hpa_ne, hpa_hpa, hpf_hpf, nI_1, two_ne, fokZ, implies_true, Nat.reduceEqDiff, rc_0, g_0_13, sf_0_13, fe_0_13, g_0_2, rc_3, g_0_5, rc_30, g_30_3, sf_30_3, fe_30_3, g_34_3, sf_34_3, fe_34_3, g_45_3, sf_45_3, fe_45_3, rc_16, hS, c_rowTrouble hC, hp, if_false, show ((1 : Int32) = 0) = False from eq_false (by decide)]
    exact cr_no hS hQ
theorem C_sign {k what : Int32} (hC : CIv H R st n nS nW nG nU nN) (hz : n = 0 → nG = 0) (hQ : CR H Q (if 0 < n ∧ (0 ≤ k ∧ k < nI nG) ∧ (0 ≤ what ∧ what ≤ 4) then (if what < 4 then rg R (94 + 4 * k.toNatClampNeg + what.toNatClampNeg) else (st.getD 7 0 >>> (k &&& 31)) &&& 1) else -1) (if 0 < n ∧ (0 ≤ k ∧ k < nI nG) ∧ (0 ≤ what ∧ what ≤ 4) then 0 else 1)) : Wp scr (d + 2) 133 0 [some (.ref 0), some (.int k), some (.int what), none] [] H Q := by
  have hS := hC.shp
  obtain ⟨c2, c3, c4, c5, c6, c7, b2, b3, b4, b5, b6, b7⟩ := id hC.1.2.1
  have hs0 := sf_0_13 (v := 0) hS
  have hC0 := hC.tr (v := 0)
  have e1 : 0 ≤ what ↔ ¬ what < 0 := by rw [Int32.not_lt]
  have e2 : what ≤ 4 ↔ ¬ 4 < what := by rw [Int32.not_lt]
  by_cases hk : 0 ≤ k ∧ k < nI nG
  · obtain ⟨ek, lk⟩ := of_row hk (by omega)
    have hp : 0 < n := by omega
    by_cases hv : 0 ≤ what ∧ what ≤ 4
    · have hall := And.intro hp (And.intro hk hv)
      rw [if_pos hall, if_pos hall] at hQ
      obtain ⟨ew, lw⟩ := of_in (n := 4) hv (by omega)
      have w1 : (what < 0) = False := eq_false (e1.mp hv.1)
      have w2 : (4 < what) = False := eq_false (e2.mp hv.2)
      have f2 := hC.2.1.2.2.1
      have hx : (ar (hpf H 0 13 (.int 0)) 11).length < 2147483648 := by rw [gn_11 hs0]; decide
      simp (maxDischargeDepth := 12) only [w133_0, w133_1, w133_4, w133_7, w133_8, w133_11, w133_14, w133_15, w133_18, w133_19, w133_20, w133_23, w133_24, w133_27, w133_28, w133_29, w133_30, w133_31, w133_34, w133_35, w133_38, w133_39, w133_42, w133_43, w133_46, w133_47, w133_48, w133_49, w133_50, w133_53, w133_54, w133_57, w133_60, w133_61, w133_62, w133_63, w133_64, w133_67, w133_68, w133_71, w133_74, w133_75, w133_76, w133_79, oK_some, cont_int, cont_intS, cont_none, cont_noneS, cont_long, cont_longS, true_and, and_true, false_and, and_false, true_implies, false_implies, not_true_eq_false, not_false_eq_true, eq_self, or_true, true_or, Option.isSome_some, hpf_length, hpa_length, bI_eq0, fi_hpa, fl_hpa, ar_hpf, fi_hpf_ne, fl_hpf_ne, ar_hpa_ne, hpa_hpa, hpf_hpf, nI_1, two_ne, fokZ, implies_true, Nat.reduceEqDiff, g_0_2, rc_3, g_3_5, rc_10, g_16_5, rc_23, rc_4, rc_6, rc_8, rc_12, rc_14, rc_17, rc_19, rc_21, rc_25, rc_27, g_0_13, sf_0_13, fe_0_13, g_0_5, rc_30, g_30_2, sf_30_2, fe_30_2, g_34_2, sf_34_2, fe_34_2, g_45_2, sf_45_2, fe_45_2, hS, c_Table_has (g_10_2 hS), c5, hk, and_self, decide_true, Bool.true_eq_false, w1, w2, hs0, f2, show ((1 : Int32) = 0) = False from eq_false (by decide), c_Table_at (g_10_1 hs0) (ga_11 hs0) hx]
      by_cases h4 : what = 4
      · have h4' : ¬ what < 4 := by rw [h4]; decide
        rw [if_neg h4'] at hQ
        simp only [h4, oK_some, cont_int, cont_intS, cont_none, cont_noneS, cont_long, cont_longS, true_and, and_true, false_and, and_false, true_implies, false_implies, not_true_eq_false, not_false_eq_true, eq_self, or_true, true_or, Option.isSome_some, hpf_length, hpa_length, bI_eq0, fi_hpa, fl_hpa, ar_hpf, fi_hpf_ne, fl_hpf_ne, ar_hpa_ne, hpa_hpa, hpf_hpf, nI_1, two_ne, fokZ, implies_true, Nat.reduceEqDiff]
        exact cr_no hS hQ
      · have h4' : what < 4 := by
          rw [ew]
          refine nI_lt (b := 4) ?_ (by decide)
          rcases Nat.lt_or_ge what.toNatClampNeg 4 with q | q
          · exact q
          · exact absurd (by rw [ew, show what.toNatClampNeg = 4 by omega]; rfl) h4
        have lw4 : what.toNatClampNeg < 4 := by
          rw [ew] at h4'
          exact (nI_ltI (b := 4) (by omega) (by decide)).mp h4'
        rw [if_pos h4'] at hQ
        have ea : cAt (ar H 11) (k * 4 + what) = rg R (94 + 4 * k.toNatClampNeg + what.toNatClampNeg) := by
          have ek' : k * 4 + what = nI k.toNatClampNeg * 4 + what := by rw [← ek]
          rw [ek', tg_eq (xs := ar H 11) (i := k.toNatClampNeg) what.toNatClampNeg (v := what) (by omega) lw4 ew]
          obtain ⟨r, dd, c, _, _, _, q0, q0', q1, q2, q2', q3, q3'⟩ := hC.1.2.2.2.2.2.1 k.toNatClampNeg lk
          have cs : what.toNatClampNeg = 0 ∨ what.toNatClampNeg = 1 ∨ what.toNatClampNeg = 2 ∨ what.toNatClampNeg = 3 := by omega
          rcases cs with e | e | e | e <;> rw [e]
          · exact q0.trans q0'.symm
          · exact q1
          · rw [q2, ← q2']
          · rw [q3, ← q3']
        simp only [h4, oK_some, cont_int, cont_intS, cont_none, cont_noneS, cont_long, cont_longS, true_and, and_true, false_and, and_false, true_implies, false_implies, not_true_eq_false, not_false_eq_true, eq_self, or_true, true_or, Option.isSome_some, hpf_length, hpa_length, bI_eq0, fi_hpa, fl_hpa, ar_hpf, fi_hpf_ne, fl_hpf_ne, ar_hpa_ne, hpa_hpa, hpf_hpf, nI_1, two_ne, fokZ, implies_true, Nat.reduceEqDiff, ea]
        exact cr_no hS hQ
    · rw [if_neg (fun q => hv q.2.2), if_neg (fun q => hv q.2.2)] at hQ
      simp (maxDischargeDepth := 12) only [w133_0, w133_1, w133_4, w133_7, w133_8, w133_11, w133_14, w133_15, w133_18, w133_19, w133_20, w133_23, w133_24, w133_27, w133_28, w133_29, w133_30, w133_31, w133_34, w133_35, w133_38, w133_39, w133_42, w133_43, w133_46, w133_47, w133_48, w133_49, w133_50, w133_53, w133_54, w133_57, w133_60, w133_61, w133_62, w133_63, w133_64, w133_67, w133_68, w133_71, w133_74, w133_75, w133_76, w133_79, oK_some, cont_int, cont_intS, cont_none, cont_noneS, cont_long, cont_longS, true_and, and_true, false_and, and_false, true_implies, false_implies, not_true_eq_false, not_false_eq_true, eq_self, or_true, true_or, Option.isSome_some, hpf_length, hpa_length, bI_eq0, fi_hpa, fl_hpa, ar_hpf, fi_hpf_ne, fl_hpf_ne, ar_hpa_ne, hpa_hpa, hpf_hpf, nI_1, two_ne, fokZ, implies_true, Nat.reduceEqDiff, g_0_2, rc_3, g_3_5, rc_10, g_16_5, rc_23, rc_4, rc_6, rc_8, rc_12, rc_14, rc_17, rc_19, rc_21, rc_25, rc_27, g_0_13, sf_0_13, fe_0_13, g_0_5, rc_30, g_30_2, sf_30_2, fe_30_2, g_34_2, sf_34_2, fe_34_2, g_45_2, sf_45_2, fe_45_2, hS, c_Table_has (g_10_2 hS), c5, hk, and_self, decide_true, Bool.true_eq_false]
      by_cases w1 : what < 0
      · simp only [w1, oK_some, cont_int, cont_intS, cont_none, cont_noneS, cont_long, cont_longS, true_and, and_true, false_and, and_false, true_implies, false_implies, not_true_eq_false, not_false_eq_true, eq_self, or_true, true_or, Option.isSome_some, hpf_length, hpa_length, bI_eq0, fi_hpa, fl_hpa, ar_hpf, fi_hpf_ne, fl_hpf_ne, ar_hpa_ne, hpa_hpa, hpf_hpf, nI_1, two_ne, fokZ, implies_true, Nat.reduceEqDiff]
        exact cr_no hS hQ
      · have w2 : 4 < what := by
          rcases Classical.em (4 < what) with q | q
          · exact q
          · exact absurd ⟨e1.mpr w1, e2.mpr q⟩ hv
        simp only [w1, w2, oK_some, cont_int, cont_intS, cont_none, cont_noneS, cont_long, cont_longS, true_and, and_true, false_and, and_false, true_implies, false_implies, not_true_eq_false, not_false_eq_true, eq_self, or_true, true_or, Option.isSome_some, hpf_length, hpa_length, bI_eq0, fi_hpa, fl_hpa, ar_hpf, fi_hpf_ne, fl_hpf_ne, ar_hpa_ne, hpa_hpa, hpf_hpf, nI_1, two_ne, fokZ, implies_true, Nat.reduceEqDiff]
        exact cr_no hS hQ
  · rw [if_neg (fun q => hk q.2.1), if_neg (fun q => hk q.2.1)] at hQ
    simp (maxDischargeDepth := 12) only [w133_0, w133_1, w133_4, w133_7, w133_8, w133_11, w133_14, w133_15, w133_18, w133_19, w133_20, w133_23, w133_24, w133_27, w133_28, w133_29, w133_30, w133_31, w133_34, w133_35, w133_38, w133_39, w133_42, w133_43, w133_46, w133_47, w133_48, w133_49, w133_50, w133_53, w133_54, w133_57, w133_60, w133_61, w133_62, w133_63, w133_64, w133_67, w133_68, w133_71, w133_74, w133_75, w133_76, w133_79, oK_some, cont_int, cont_intS, cont_none, cont_noneS, cont_long, cont_longS, true_and, and_true, false_and, and_false, true_implies, false_implies, not_true_eq_false, not_false_eq_true, eq_self, or_true, true_or, Option.isSome_some, hpf_length, hpa_length, bI_eq0, fi_hpa, fl_hpa, ar_hpf, fi_hpf_ne, fl_hpf_ne, ar_hpa_ne, hpa_hpa, hpf_hpf, nI_1, two_ne, fokZ, implies_true, Nat.reduceEqDiff, g_0_2, rc_3, g_3_5, rc_10, g_16_5, rc_23, rc_4, rc_6, rc_8, rc_12, rc_14, rc_17, rc_19, rc_21, rc_25, rc_27, g_0_13, sf_0_13, fe_0_13, g_0_5, rc_30, g_30_2, sf_30_2, fe_30_2, g_34_2, sf_34_2, fe_34_2, g_45_2, sf_45_2, fe_45_2, hS, c_Table_has (g_10_2 hS), c5, hk, decide_false]
    exact cr_no hS hQ
theorem C_wall {k what : Int32} (hC : CIv H R st n nS nW nG nU nN) (hz : n = 0 → nW = 0) (hQ : CR H Q (if 0 < n ∧ (0 ≤ k ∧ k < nI nW) ∧ (0 ≤ what ∧ what ≤ 3) then (if what < 3 then rg R (79 + 3 * k.toNatClampNeg + what.toNatClampNeg) else (st.getD 8 0 >>> (k &&& 31)) &&& 1) else -1) (if 0 < n ∧ (0 ≤ k ∧ k < nI nW) ∧ (0 ≤ what ∧ what ≤ 3) then 0 else 1)) : Wp scr (d + 2) 134 0 [some (.ref 0), some (.int k), some (.int what), none] [] H Q := by
  have hS := hC.shp
  obtain ⟨c2, c3, c4, c5, c6, c7, b2, b3, b4, b5, b6, b7⟩ := id hC.1.2.1
  have hs0 := sf_0_13 (v := 0) hS
  have hC0 := hC.tr (v := 0)
  have e1 : 0 ≤ what ↔ ¬ what < 0 := by rw [Int32.not_lt]
  have e2 : what ≤ 3 ↔ ¬ 3 < what := by rw [Int32.not_lt]
  by_cases hk : 0 ≤ k ∧ k < nI nW
  · obtain ⟨ek, lk⟩ := of_row hk (by omega)
    have hp : 0 < n := by omega
    by_cases hv : 0 ≤ what ∧ what ≤ 3
    · have hall := And.intro hp (And.intro hk hv)
      rw [if_pos hall, if_pos hall] at hQ
      obtain ⟨ew, lw⟩ := of_in (n := 3) hv (by omega)
      have w1 : (what < 0) = False := eq_false (e1.mp hv.1)
      have w2 : (3 < what) = False := eq_false (e2.mp hv.2)
      have f2 := hC.2.1.2.2.2
      have hx : (ar (hpf H 0 13 (.int 0)) 9).length < 2147483648 := by rw [gn_9 hs0]; decide
      simp (maxDischargeDepth := 12) only [w134_0, w134_1, w134_4, w134_7, w134_8, w134_11, w134_14, w134_15, w134_18, w134_19, w134_20, w134_23, w134_24, w134_27, w134_28, w134_29, w134_30, w134_31, w134_34, w134_35, w134_38, w134_39, w134_42, w134_43, w134_46, w134_47, w134_48, w134_49, w134_50, w134_53, w134_54, w134_57, w134_60, w134_61, w134_62, w134_63, w134_64, w134_67, w134_68, w134_71, w134_74, w134_75, w134_76, w134_79, oK_some, cont_int, cont_intS, cont_none, cont_noneS, cont_long, cont_longS, true_and, and_true, false_and, and_false, true_implies, false_implies, not_true_eq_false, not_false_eq_true, eq_self, or_true, true_or, Option.isSome_some, hpf_length, hpa_length, bI_eq0, fi_hpa, fl_hpa, ar_hpf, fi_hpf_ne, fl_hpf_ne, ar_hpa_ne, hpa_hpa, hpf_hpf, nI_1, two_ne, fokZ, implies_true, Nat.reduceEqDiff, g_0_2, rc_3, g_3_4, rc_8, g_16_4, rc_21, rc_4, rc_6, rc_10, rc_12, rc_14, rc_17, rc_19, rc_23, rc_25, rc_27, g_0_13, sf_0_13, fe_0_13, g_0_5, rc_30, g_30_3, sf_30_3, fe_30_3, g_34_3, sf_34_3, fe_34_3, g_45_3, sf_45_3, fe_45_3, hS, c_Table_has (g_8_2 hS), c4, hk, and_self, decide_true, Bool.true_eq_false, w1, w2, hs0, f2, show ((1 : Int32) = 0) = False from eq_false (by decide), c_Table_at (g_8_1 hs0) (ga_9 hs0) hx]
      by_cases h4 : what = 3
      · have h4' : ¬ what < 3 := by rw [h4]; decide
        rw [if_neg h4'] at hQ
        simp only [h4, oK_some, cont_int, cont_intS, cont_none, cont_noneS, cont_long, cont_longS, true_and, and_true, false_and, and_false, true_implies, false_implies, not_true_eq_false, not_false_eq_true, eq_self, or_true, true_or, Option.isSome_some, hpf_length, hpa_length, bI_eq0, fi_hpa, fl_hpa, ar_hpf, fi_hpf_ne, fl_hpf_ne, ar_hpa_ne, hpa_hpa, hpf_hpf, nI_1, two_ne, fokZ, implies_true, Nat.reduceEqDiff]
        exact cr_no hS hQ
      · have h4' : what < 3 := by
          rw [ew]
          refine nI_lt (b := 3) ?_ (by decide)
          rcases Nat.lt_or_ge what.toNatClampNeg 3 with q | q
          · exact q
          · exact absurd (by rw [ew, show what.toNatClampNeg = 3 by omega]; rfl) h4
        have lw4 : what.toNatClampNeg < 3 := by
          rw [ew] at h4'
          exact (nI_ltI (b := 3) (by omega) (by decide)).mp h4'
        rw [if_pos h4'] at hQ
        have ea : cAt (ar H 9) (k * 4 + what) = rg R (79 + 3 * k.toNatClampNeg + what.toNatClampNeg) := by
          have ek' : k * 4 + what = nI k.toNatClampNeg * 4 + what := by rw [← ek]
          rw [ek', tg_eq (xs := ar H 9) (i := k.toNatClampNeg) what.toNatClampNeg (v := what) (by omega) (by omega) ew]
          obtain ⟨s, c, _, _, _, q0, q1, q2, q2', _⟩ := hC.1.2.2.2.2.1.1 k.toNatClampNeg lk
          have cs : what.toNatClampNeg = 0 ∨ what.toNatClampNeg = 1 ∨ what.toNatClampNeg = 2 := by omega
          rcases cs with e | e | e <;> rw [e]
          · exact q0
          · exact q1
          · rw [q2, ← q2']
        simp only [h4, oK_some, cont_int, cont_intS, cont_none, cont_noneS, cont_long, cont_longS, true_and, and_true, false_and, and_false, true_implies, false_implies, not_true_eq_false, not_false_eq_true, eq_self, or_true, true_or, Option.isSome_some, hpf_length, hpa_length, bI_eq0, fi_hpa, fl_hpa, ar_hpf, fi_hpf_ne, fl_hpf_ne, ar_hpa_ne, hpa_hpa, hpf_hpf, nI_1, two_ne, fokZ, implies_true, Nat.reduceEqDiff, ea]
        exact cr_no hS hQ
    · rw [if_neg (fun q => hv q.2.2), if_neg (fun q => hv q.2.2)] at hQ
      simp (maxDischargeDepth := 12) only [w134_0, w134_1, w134_4, w134_7, w134_8, w134_11, w134_14, w134_15, w134_18, w134_19, w134_20, w134_23, w134_24, w134_27, w134_28, w134_29, w134_30, w134_31, w134_34, w134_35, w134_38, w134_39, w134_42, w134_43, w134_46, w134_47, w134_48, w134_49, w134_50, w134_53, w134_54, w134_57, w134_60, w134_61, w134_62, w134_63, w134_64, w134_67, w134_68, w134_71, w134_74, w134_75, w134_76, w134_79, oK_some, cont_int, cont_intS, cont_none, cont_noneS, cont_long, cont_longS, true_and, and_true, false_and, and_false, true_implies, false_implies, not_true_eq_false, not_false_eq_true, eq_self, or_true, true_or, Option.isSome_some, hpf_length, hpa_length, bI_eq0, fi_hpa, fl_hpa, ar_hpf, fi_hpf_ne, fl_hpf_ne, ar_hpa_ne, hpa_hpa, hpf_hpf, nI_1, two_ne, fokZ, implies_true, Nat.reduceEqDiff, g_0_2, rc_3, g_3_4, rc_8, g_16_4, rc_21, rc_4, rc_6, rc_10, rc_12, rc_14, rc_17, rc_19, rc_23, rc_25, rc_27, g_0_13, sf_0_13, fe_0_13, g_0_5, rc_30, g_30_3, sf_30_3, fe_30_3, g_34_3, sf_34_3, fe_34_3, g_45_3, sf_45_3, fe_45_3, hS, c_Table_has (g_8_2 hS), c4, hk, and_self, decide_true, Bool.true_eq_false]
      by_cases w1 : what < 0
      · simp only [w1, oK_some, cont_int, cont_intS, cont_none, cont_noneS, cont_long, cont_longS, true_and, and_true, false_and, and_false, true_implies, false_implies, not_true_eq_false, not_false_eq_true, eq_self, or_true, true_or, Option.isSome_some, hpf_length, hpa_length, bI_eq0, fi_hpa, fl_hpa, ar_hpf, fi_hpf_ne, fl_hpf_ne, ar_hpa_ne, hpa_hpa, hpf_hpf, nI_1, two_ne, fokZ, implies_true, Nat.reduceEqDiff]
        exact cr_no hS hQ
      · have w2 : 3 < what := by
          rcases Classical.em (3 < what) with q | q
          · exact q
          · exact absurd ⟨e1.mpr w1, e2.mpr q⟩ hv
        simp only [w1, w2, oK_some, cont_int, cont_intS, cont_none, cont_noneS, cont_long, cont_longS, true_and, and_true, false_and, and_false, true_implies, false_implies, not_true_eq_false, not_false_eq_true, eq_self, or_true, true_or, Option.isSome_some, hpf_length, hpa_length, bI_eq0, fi_hpa, fl_hpa, ar_hpf, fi_hpf_ne, fl_hpf_ne, ar_hpa_ne, hpa_hpa, hpf_hpf, nI_1, two_ne, fokZ, implies_true, Nat.reduceEqDiff]
        exact cr_no hS hQ
  · rw [if_neg (fun q => hk q.2.1), if_neg (fun q => hk q.2.1)] at hQ
    simp (maxDischargeDepth := 12) only [w134_0, w134_1, w134_4, w134_7, w134_8, w134_11, w134_14, w134_15, w134_18, w134_19, w134_20, w134_23, w134_24, w134_27, w134_28, w134_29, w134_30, w134_31, w134_34, w134_35, w134_38, w134_39, w134_42, w134_43, w134_46, w134_47, w134_48, w134_49, w134_50, w134_53, w134_54, w134_57, w134_60, w134_61, w134_62, w134_63, w134_64, w134_67, w134_68, w134_71, w134_74, w134_75, w134_76, w134_79, oK_some, cont_int, cont_intS, cont_none, cont_noneS, cont_long, cont_longS, true_and, and_true, false_and, and_false, true_implies, false_implies, not_true_eq_false, not_false_eq_true, eq_self, or_true, true_or, Option.isSome_some, hpf_length, hpa_length, bI_eq0, fi_hpa, fl_hpa, ar_hpf, fi_hpf_ne, fl_hpf_ne, ar_hpa_ne, hpa_hpa, hpf_hpf, nI_1, two_ne, fokZ, implies_true, Nat.reduceEqDiff, g_0_2, rc_3, g_3_4, rc_8, g_16_4, rc_21, rc_4, rc_6, rc_10, rc_12, rc_14, rc_17, rc_19, rc_23, rc_25, rc_27, g_0_13, sf_0_13, fe_0_13, g_0_5, rc_30, g_30_3, sf_30_3, fe_30_3, g_34_3, sf_34_3, fe_34_3, g_45_3, sf_45_3, fe_45_3, hS, c_Table_has (g_8_2 hS), c4, hk, decide_false]
    exact cr_no hS hQ
theorem C_row {k what : Int32} (hC : CIv H R st n nS nW nG nU nN) (hQ : CR H Q (if (0 ≤ k ∧ k < nI n) ∧ (0 ≤ what ∧ what ≤ 5) then rowM R st n nW k.toNatClampNeg what.toNatClampNeg else -1) (if (0 ≤ k ∧ k < nI n) ∧ (0 ≤ what ∧ what ≤ 5) then 0 else 1)) : Wp scr (d + 3) 132 0 [some (.ref 0), some (.int k), some (.int what)] [] H Q := by
  have hS := hC.shp
  obtain ⟨c2, c3, c4, c5, c6, c7, b2, b3, b4, b5, b6, b7⟩ := id hC.1.2.1
  have hs0 := sf_0_13 (v := 0) hS
  have hC0 := hC.tr (v := 0)
  by_cases hk : 0 ≤ k ∧ k < nI n
  · simp (maxDischargeDepth := 12) only [w132_0, w132_1, w132_2, w132_3, w132_6, w132_9, w132_10, w132_13, w132_16, w132_17, w132_18, w132_56, w132_57, w132_60, w132_63, w132_64, w132_65, w132_68, w132_69, w132_70, w132_73, w132_76, w132_77, w132_80, w132_81, w132_82, w132_85, w132_86, w132_89, w132_92, w132_93, w132_96, w132_97, w132_98, w132_99, w132_102, w132_103, w132_106, w132_107, w132_110, w132_111, w132_112, w132_115, w132_116, w132_117, w132_120, w132_121, w132_124, w132_127, w132_130, w132_133, w132_134, w132_135, w132_138, w132_139, w132_140, w132_141, w132_142, w132_145, w132_146, w132_149, w132_152, w132_155, w132_158, w132_159, w132_160, w132_161, w132_164, w132_165, oK_some, cont_int, cont_intS, cont_none, cont_noneS, cont_long, cont_longS, true_and, and_true, false_and, and_false, true_implies, false_implies, not_true_eq_false, not_false_eq_true, eq_self, or_true, true_or, Option.isSome_some, hpf_length, hpa_length, bI_eq0, fi_hpa, fl_hpa, ar_hpf, fi_hpf_ne, fl_hpf_ne, ar_hpa_ne, hpa_hpa, hpf_hpf, nI_1, two_ne, fokZ, implies_true, Nat.reduceEqDiff, rc_0, g_0_13, sf_0_13, fe_0_13, g_0_2, rc_3, g_3_2, rc_4, g_16_2, rc_17, rc_6, rc_8, rc_10, rc_12, rc_14, rc_19, rc_21, rc_23, rc_25, rc_27, g_0_5, rc_30, g_30_0, rc_31, g_34_0, rc_35, g_45_0, rc_46, rc_1, rc_37, rc_39, rc_41, rc_48, rc_50, rc_53, rc_55, rc_57, rc_59, rc_63, rc_66, rc_34, rc_45, rc_16, g_30_3, sf_30_3, fe_30_3, g_34_3, sf_34_3, fe_34_3, g_45_3, sf_45_3, fe_45_3, hS, c_rowTrouble hC, hk, and_self, if_true, hs0]
    obtain ⟨ek, lk⟩ := of_row hk (by omega)
    have tS := hC.1.2.2.2.1
    have tW := hC.1.2.2.2.2.1
    have c3' := hC0.1.2.1.2.1
    have c4' := hC0.1.2.1.2.2.1
    have f3 := hC.2.1.2.2.2
    have hx5 : (ar (hpf H 0 13 (.int 0)) 5).length < 2147483648 := by rw [gn_5 hs0]; decide
    have hx32 : (ar (hpf H 0 13 (.int 0)) 32).length < 2147483648 := by rw [gn_32 hs0]; decide
    by_cases hv : 0 ≤ what ∧ what ≤ 5
    · have hall := And.intro hk hv
      rw [if_pos hall, if_pos hall] at hQ
      obtain ⟨ew, lw⟩ := of_in (n := 5) hv (by omega)
      generalize k.toNatClampNeg = kk at ek lk hQ
      generalize what.toNatClampNeg = j at ew lw hQ
      subst ek
      subst ew
      have fin := cr_no hS hQ
      have c : j = 0 ∨ j = 1 ∨ j = 2 ∨ j = 3 ∨ j = 4 ∨ j = 5 := by omega
      rcases c with rfl | rfl | rfl | rfl | rfl | rfl
      · rw [Wp_tswI a132_19 (by decide) (o := 37) rfl (t := 56) (by decide)]
        simp (maxDischargeDepth := 12) only [w132_0, w132_1, w132_2, w132_3, w132_6, w132_9, w132_10, w132_13, w132_16, w132_17, w132_18, w132_56, w132_57, w132_60, w132_63, w132_64, w132_65, w132_68, w132_69, w132_70, w132_73, w132_76, w132_77, w132_80, w132_81, w132_82, w132_85, w132_86, w132_89, w132_92, w132_93, w132_96, w132_97, w132_98, w132_99, w132_102, w132_103, w132_106, w132_107, w132_110, w132_111, w132_112, w132_115, w132_116, w132_117, w132_120, w132_121, w132_124, w132_127, w132_130, w132_133, w132_134, w132_135, w132_138, w132_139, w132_140, w132_141, w132_142, w132_145, w132_146, w132_149, w132_152, w132_155, w132_158, w132_159, w132_160, w132_161, w132_164, w132_165, oK_some, cont_int, cont_intS, cont_none, cont_noneS, cont_long, cont_longS, true_and, and_true, false_and, and_false, true_implies, false_implies, not_true_eq_false, not_false_eq_true, eq_self, or_true, true_or, Option.isSome_some, hpf_length, hpa_length, bI_eq0, fi_hpa, fl_hpa, ar_hpf, fi_hpf_ne, fl_hpf_ne, ar_hpa_ne, hpa_hpa, hpf_hpf, nI_1, two_ne, fokZ, implies_true, Nat.reduceEqDiff, rc_0, g_0_13, sf_0_13, fe_0_13, g_0_2, rc_3, g_3_2, rc_4, g_16_2, rc_17, rc_6, rc_8, rc_10, rc_12, rc_14, rc_19, rc_21, rc_23, rc_25, rc_27, g_0_5, rc_30, g_30_0, rc_31, g_34_0, rc_35, g_45_0, rc_46, rc_1, rc_37, rc_39, rc_41, rc_48, rc_50, rc_53, rc_55, rc_57, rc_59, rc_63, rc_66, rc_34, rc_45, rc_16, g_30_3, sf_30_3, fe_30_3, g_34_3, sf_34_3, fe_34_3, g_45_3, sf_45_3, fe_45_3, hs0, c_Table_at (g_4_1 hs0) (ga_5 hs0) hx5, tg_eq (xs := ar H 5) (i := kk) 0 (v := 0) (by omega) (by decide) rfl, (hC.1.2.2.1 kk lk).1]
        exact fin
      · rw [Wp_tswI a132_19 (by decide) (o := 50) rfl (t := 69) (by decide)]
        simp (maxDischargeDepth := 12) only [w132_0, w132_1, w132_2, w132_3, w132_6, w132_9, w132_10, w132_13, w132_16, w132_17, w132_18, w132_56, w132_57, w132_60, w132_63, w132_64, w132_65, w132_68, w132_69, w132_70, w132_73, w132_76, w132_77, w132_80, w132_81, w132_82, w132_85, w132_86, w132_89, w132_92, w132_93, w132_96, w132_97, w132_98, w132_99, w132_102, w132_103, w132_106, w132_107, w132_110, w132_111, w132_112, w132_115, w132_116, w132_117, w132_120, w132_121, w132_124, w132_127, w132_130, w132_133, w132_134, w132_135, w132_138, w132_139, w132_140, w132_141, w132_142, w132_145, w132_146, w132_149, w132_152, w132_155, w132_158, w132_159, w132_160, w132_161, w132_164, w132_165, oK_some, cont_int, cont_intS, cont_none, cont_noneS, cont_long, cont_longS, true_and, and_true, false_and, and_false, true_implies, false_implies, not_true_eq_false, not_false_eq_true, eq_self, or_true, true_or, Option.isSome_some, hpf_length, hpa_length, bI_eq0, fi_hpa, fl_hpa, ar_hpf, fi_hpf_ne, fl_hpf_ne, ar_hpa_ne, hpa_hpa, hpf_hpf, nI_1, two_ne, fokZ, implies_true, Nat.reduceEqDiff, rc_0, g_0_13, sf_0_13, fe_0_13, g_0_2, rc_3, g_3_2, rc_4, g_16_2, rc_17, rc_6, rc_8, rc_10, rc_12, rc_14, rc_19, rc_21, rc_23, rc_25, rc_27, g_0_5, rc_30, g_30_0, rc_31, g_34_0, rc_35, g_45_0, rc_46, rc_1, rc_37, rc_39, rc_41, rc_48, rc_50, rc_53, rc_55, rc_57, rc_59, rc_63, rc_66, rc_34, rc_45, rc_16, g_30_3, sf_30_3, fe_30_3, g_34_3, sf_34_3, fe_34_3, g_45_3, sf_45_3, fe_45_3, hs0, c_Cells_at (g_31_0 hs0) (ga_32 hs0) hx32, cAt_nI (show kk < 2147483648 by omega), hC.2.1.1 kk lk]
        exact fin
      · rw [Wp_tswI a132_19 (by decide) (o := 62) rfl (t := 81) (by decide)]
        simp (maxDischargeDepth := 12) only [w132_0, w132_1, w132_2, w132_3, w132_6, w132_9, w132_10, w132_13, w132_16, w132_17, w132_18, w132_56, w132_57, w132_60, w132_63, w132_64, w132_65, w132_68, w132_69, w132_70, w132_73, w132_76, w132_77, w132_80, w132_81, w132_82, w132_85, w132_86, w132_89, w132_92, w132_93, w132_96, w132_97, w132_98, w132_99, w132_102, w132_103, w132_106, w132_107, w132_110, w132_111, w132_112, w132_115, w132_116, w132_117, w132_120, w132_121, w132_124, w132_127, w132_130, w132_133, w132_134, w132_135, w132_138, w132_139, w132_140, w132_141, w132_142, w132_145, w132_146, w132_149, w132_152, w132_155, w132_158, w132_159, w132_160, w132_161, w132_164, w132_165, oK_some, cont_int, cont_intS, cont_none, cont_noneS, cont_long, cont_longS, true_and, and_true, false_and, and_false, true_implies, false_implies, not_true_eq_false, not_false_eq_true, eq_self, or_true, true_or, Option.isSome_some, hpf_length, hpa_length, bI_eq0, fi_hpa, fl_hpa, ar_hpf, fi_hpf_ne, fl_hpf_ne, ar_hpa_ne, hpa_hpa, hpf_hpf, nI_1, two_ne, fokZ, implies_true, Nat.reduceEqDiff, rc_0, g_0_13, sf_0_13, fe_0_13, g_0_2, rc_3, g_3_2, rc_4, g_16_2, rc_17, rc_6, rc_8, rc_10, rc_12, rc_14, rc_19, rc_21, rc_23, rc_25, rc_27, g_0_5, rc_30, g_30_0, rc_31, g_34_0, rc_35, g_45_0, rc_46, rc_1, rc_37, rc_39, rc_41, rc_48, rc_50, rc_53, rc_55, rc_57, rc_59, rc_63, rc_66, rc_34, rc_45, rc_16, g_30_3, sf_30_3, fe_30_3, g_34_3, sf_34_3, fe_34_3, g_45_3, sf_45_3, fe_45_3, hs0, c_State_doubts (g_30_0 hs0) (g_31_0 hs0) (ga_32 hs0) hx32, cAt_nI (show kk < 2147483648 by omega), hC.2.1.1 kk lk]
        have e : rowM R st n nW kk 2 = bI (decide (st.getD kk 0 < 10)) := rfl
        rw [e] at fin
        by_cases hc : st.getD kk 0 < 10
        · rw [decide_eq_true hc] at fin
          simp only [hc, decide_true, Bool.true_eq_false, oK_some, cont_int, cont_intS, cont_none, cont_noneS, cont_long, cont_longS, true_and, and_true, false_and, and_false, true_implies, false_implies, not_true_eq_false, not_false_eq_true, eq_self, or_true, true_or, Option.isSome_some, hpf_length, hpa_length, bI_eq0, fi_hpa, fl_hpa, ar_hpf, fi_hpf_ne, fl_hpf_ne, ar_hpa_ne, hpa_hpa, hpf_hpf, nI_1, two_ne, fokZ, implies_true, Nat.reduceEqDiff]
          exact fin
        · rw [decide_eq_false hc] at fin
          simp only [hc, decide_false, oK_some, cont_int, cont_intS, cont_none, cont_noneS, cont_long, cont_longS, true_and, and_true, false_and, and_false, true_implies, false_implies, not_true_eq_false, not_false_eq_true, eq_self, or_true, true_or, Option.isSome_some, hpf_length, hpa_length, bI_eq0, fi_hpa, fl_hpa, ar_hpf, fi_hpf_ne, fl_hpf_ne, ar_hpa_ne, hpa_hpa, hpf_hpf, nI_1, two_ne, fokZ, implies_true, Nat.reduceEqDiff]
          exact fin
      · rw [Wp_tswI a132_19 (by decide) (o := 79) rfl (t := 98) (by decide)]
        simp (maxDischargeDepth := 12) only [w132_0, w132_1, w132_2, w132_3, w132_6, w132_9, w132_10, w132_13, w132_16, w132_17, w132_18, w132_56, w132_57, w132_60, w132_63, w132_64, w132_65, w132_68, w132_69, w132_70, w132_73, w132_76, w132_77, w132_80, w132_81, w132_82, w132_85, w132_86, w132_89, w132_92, w132_93, w132_96, w132_97, w132_98, w132_99, w132_102, w132_103, w132_106, w132_107, w132_110, w132_111, w132_112, w132_115, w132_116, w132_117, w132_120, w132_121, w132_124, w132_127, w132_130, w132_133, w132_134, w132_135, w132_138, w132_139, w132_140, w132_141, w132_142, w132_145, w132_146, w132_149, w132_152, w132_155, w132_158, w132_159, w132_160, w132_161, w132_164, w132_165, oK_some, cont_int, cont_intS, cont_none, cont_noneS, cont_long, cont_longS, true_and, and_true, false_and, and_false, true_implies, false_implies, not_true_eq_false, not_false_eq_true, eq_self, or_true, true_or, Option.isSome_some, hpf_length, hpa_length, bI_eq0, fi_hpa, fl_hpa, ar_hpf, fi_hpf_ne, fl_hpf_ne, ar_hpa_ne, hpa_hpa, hpf_hpf, nI_1, two_ne, fokZ, implies_true, Nat.reduceEqDiff, rc_0, g_0_13, sf_0_13, fe_0_13, g_0_2, rc_3, g_3_2, rc_4, g_16_2, rc_17, rc_6, rc_8, rc_10, rc_12, rc_14, rc_19, rc_21, rc_23, rc_25, rc_27, g_0_5, rc_30, g_30_0, rc_31, g_34_0, rc_35, g_45_0, rc_46, rc_1, rc_37, rc_39, rc_41, rc_48, rc_50, rc_53, rc_55, rc_57, rc_59, rc_63, rc_66, rc_34, rc_45, rc_16, g_30_3, sf_30_3, fe_30_3, g_34_3, sf_34_3, fe_34_3, g_45_3, sf_45_3, fe_45_3, hs0, c_borneByRow hs0 (g_30_0 hs0) (g_31_0 hs0) (ga_32 hs0) hx32, brn_eq hC.1 hC.2.1.1 lk]
        exact fin
      · rw [Wp_tswI a132_19 (by decide) (o := 92) rfl (t := 111) (by decide)]
        simp (maxDischargeDepth := 12) only [w132_0, w132_1, w132_2, w132_3, w132_6, w132_9, w132_10, w132_13, w132_16, w132_17, w132_18, w132_56, w132_57, w132_60, w132_63, w132_64, w132_65, w132_68, w132_69, w132_70, w132_73, w132_76, w132_77, w132_80, w132_81, w132_82, w132_85, w132_86, w132_89, w132_92, w132_93, w132_96, w132_97, w132_98, w132_99, w132_102, w132_103, w132_106, w132_107, w132_110, w132_111, w132_112, w132_115, w132_116, w132_117, w132_120, w132_121, w132_124, w132_127, w132_130, w132_133, w132_134, w132_135, w132_138, w132_139, w132_140, w132_141, w132_142, w132_145, w132_146, w132_149, w132_152, w132_155, w132_158, w132_159, w132_160, w132_161, w132_164, w132_165, oK_some, cont_int, cont_intS, cont_none, cont_noneS, cont_long, cont_longS, true_and, and_true, false_and, and_false, true_implies, false_implies, not_true_eq_false, not_false_eq_true, eq_self, or_true, true_or, Option.isSome_some, hpf_length, hpa_length, bI_eq0, fi_hpa, fl_hpa, ar_hpf, fi_hpf_ne, fl_hpf_ne, ar_hpa_ne, hpa_hpa, hpf_hpf, nI_1, two_ne, fokZ, implies_true, Nat.reduceEqDiff, rc_0, g_0_13, sf_0_13, fe_0_13, g_0_2, rc_3, g_3_2, rc_4, g_16_2, rc_17, rc_6, rc_8, rc_10, rc_12, rc_14, rc_19, rc_21, rc_23, rc_25, rc_27, g_0_5, rc_30, g_30_0, rc_31, g_34_0, rc_35, g_45_0, rc_46, rc_1, rc_37, rc_39, rc_41, rc_48, rc_50, rc_53, rc_55, rc_57, rc_59, rc_63, rc_66, rc_34, rc_45, rc_16, g_30_3, sf_30_3, fe_30_3, g_34_3, sf_34_3, fe_34_3, g_45_3, sf_45_3, fe_45_3, hs0, f3, c_openSights hs0 c3' c4' (by omega : nW < 100000), c_seenBy hs0 c3' (by omega : nS < 100000), snb_eq (wl := ar H 9) tS tW b2 b3 b4 lk]
        exact fin
      · rw [Wp_tswI a132_19 (by decide) (o := 115) rfl (t := 134) (by decide)]
        simp (maxDischargeDepth := 12) only [w132_0, w132_1, w132_2, w132_3, w132_6, w132_9, w132_10, w132_13, w132_16, w132_17, w132_18, w132_56, w132_57, w132_60, w132_63, w132_64, w132_65, w132_68, w132_69, w132_70, w132_73, w132_76, w132_77, w132_80, w132_81, w132_82, w132_85, w132_86, w132_89, w132_92, w132_93, w132_96, w132_97, w132_98, w132_99, w132_102, w132_103, w132_106, w132_107, w132_110, w132_111, w132_112, w132_115, w132_116, w132_117, w132_120, w132_121, w132_124, w132_127, w132_130, w132_133, w132_134, w132_135, w132_138, w132_139, w132_140, w132_141, w132_142, w132_145, w132_146, w132_149, w132_152, w132_155, w132_158, w132_159, w132_160, w132_161, w132_164, w132_165, oK_some, cont_int, cont_intS, cont_none, cont_noneS, cont_long, cont_longS, true_and, and_true, false_and, and_false, true_implies, false_implies, not_true_eq_false, not_false_eq_true, eq_self, or_true, true_or, Option.isSome_some, hpf_length, hpa_length, bI_eq0, fi_hpa, fl_hpa, ar_hpf, fi_hpf_ne, fl_hpf_ne, ar_hpa_ne, hpa_hpa, hpf_hpf, nI_1, two_ne, fokZ, implies_true, Nat.reduceEqDiff, rc_0, g_0_13, sf_0_13, fe_0_13, g_0_2, rc_3, g_3_2, rc_4, g_16_2, rc_17, rc_6, rc_8, rc_10, rc_12, rc_14, rc_19, rc_21, rc_23, rc_25, rc_27, g_0_5, rc_30, g_30_0, rc_31, g_34_0, rc_35, g_45_0, rc_46, rc_1, rc_37, rc_39, rc_41, rc_48, rc_50, rc_53, rc_55, rc_57, rc_59, rc_63, rc_66, rc_34, rc_45, rc_16, g_30_3, sf_30_3, fe_30_3, g_34_3, sf_34_3, fe_34_3, g_45_3, sf_45_3, fe_45_3, hs0, f3, c_openSights hs0 c3' c4' (by omega : nW < 100000), c_seersOf hs0 c3' (by omega : nS < 100000), srs_eq (wl := ar H 9) tS tW b2 b3 b4 lk]
        exact fin
    · rw [if_neg (fun q => hv q.2), if_neg (fun q => hv q.2)] at hQ
      have ho : what.toInt < 0 ∨ 5 < what.toInt := by
        rcases Classical.em (what.toInt < 0 ∨ 5 < what.toInt) with q | q
        · exact q
        · exact absurd ⟨by rw [Int32.le_iff_toInt_le, Int32.toInt_zero]; omega, by rw [Int32.le_iff_toInt_le, show (5 : Int32).toInt = 5 by decide]; omega⟩ hv
      rw [Wp_tswO a132_19 ho (t := 159) (by decide)]
      simp (maxDischargeDepth := 12) only [w132_0, w132_1, w132_2, w132_3, w132_6, w132_9, w132_10, w132_13, w132_16, w132_17, w132_18, w132_56, w132_57, w132_60, w132_63, w132_64, w132_65, w132_68, w132_69, w132_70, w132_73, w132_76, w132_77, w132_80, w132_81, w132_82, w132_85, w132_86, w132_89, w132_92, w132_93, w132_96, w132_97, w132_98, w132_99, w132_102, w132_103, w132_106, w132_107, w132_110, w132_111, w132_112, w132_115, w132_116, w132_117, w132_120, w132_121, w132_124, w132_127, w132_130, w132_133, w132_134, w132_135, w132_138, w132_139, w132_140, w132_141, w132_142, w132_145, w132_146, w132_149, w132_152, w132_155, w132_158, w132_159, w132_160, w132_161, w132_164, w132_165, oK_some, cont_int, cont_intS, cont_none, cont_noneS, cont_long, cont_longS, true_and, and_true, false_and, and_false, true_implies, false_implies, not_true_eq_false, not_false_eq_true, eq_self, or_true, true_or, Option.isSome_some, hpf_length, hpa_length, bI_eq0, fi_hpa, fl_hpa, ar_hpf, fi_hpf_ne, fl_hpf_ne, ar_hpa_ne, hpa_hpa, hpf_hpf, nI_1, two_ne, fokZ, implies_true, Nat.reduceEqDiff, rc_0, g_0_13, sf_0_13, fe_0_13, g_0_2, rc_3, g_3_2, rc_4, g_16_2, rc_17, rc_6, rc_8, rc_10, rc_12, rc_14, rc_19, rc_21, rc_23, rc_25, rc_27, g_0_5, rc_30, g_30_0, rc_31, g_34_0, rc_35, g_45_0, rc_46, rc_1, rc_37, rc_39, rc_41, rc_48, rc_50, rc_53, rc_55, rc_57, rc_59, rc_63, rc_66, rc_34, rc_45, rc_16, g_30_3, sf_30_3, fe_30_3, g_34_3, sf_34_3, fe_34_3, g_45_3, sf_45_3, fe_45_3, hs0]
      exact cr_no hS hQ
  · rw [if_neg (fun q => hk q.1), if_neg (fun q => hk q.1)] at hQ
    simp (maxDischargeDepth := 12) only [w132_0, w132_1, w132_2, w132_3, w132_6, w132_9, w132_10, w132_13, w132_16, w132_17, w132_18, w132_56, w132_57, w132_60, w132_63, w132_64, w132_65, w132_68, w132_69, w132_70, w132_73, w132_76, w132_77, w132_80, w132_81, w132_82, w132_85, w132_86, w132_89, w132_92, w132_93, w132_96, w132_97, w132_98, w132_99, w132_102, w132_103, w132_106, w132_107, w132_110, w132_111, w132_112, w132_115, w132_116, w132_117, w132_120, w132_121, w132_124, w132_127, w132_130, w132_133, w132_134, w132_135, w132_138, w132_139, w132_140, w132_141, w132_142, w132_145, w132_146, w132_149, w132_152, w132_155, w132_158, w132_159, w132_160, w132_161, w132_164, w132_165, oK_some, cont_int, cont_intS, cont_none, cont_noneS, cont_long, cont_longS, true_and, and_true, false_and, and_false, true_implies, false_implies, not_true_eq_false, not_false_eq_true, eq_self, or_true, true_or, Option.isSome_some, hpf_length, hpa_length, bI_eq0, fi_hpa, fl_hpa, ar_hpf, fi_hpf_ne, fl_hpf_ne, ar_hpa_ne, hpa_hpa, hpf_hpf, nI_1, two_ne, fokZ, implies_true, Nat.reduceEqDiff, rc_0, g_0_13, sf_0_13, fe_0_13, g_0_2, rc_3, g_3_2, rc_4, g_16_2, rc_17, rc_6, rc_8, rc_10, rc_12, rc_14, rc_19, rc_21, rc_23, rc_25, rc_27, g_0_5, rc_30, g_30_0, rc_31, g_34_0, rc_35, g_45_0, rc_46, rc_1, rc_37, rc_39, rc_41, rc_48, rc_50, rc_53, rc_55, rc_57, rc_59, rc_63, rc_66, rc_34, rc_45, rc_16, g_30_3, sf_30_3, fe_30_3, g_34_3, sf_34_3, fe_34_3, g_45_3, sf_45_3, fe_45_3, hS, c_rowTrouble hC, hk, if_false, show ((1 : Int32) = 0) = False from eq_false (by decide)]
    exact cr_no hS hQ
end CUT
