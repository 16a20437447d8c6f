/-! ===== the class: the fewest coins ===== -/
theorem fre_and : ∀ g ∈ List.range 7, ∀ sh ∈ List.range (2 ^ g), ∀ set ∈ List.range (2 ^ g), decide (nI set &&& (frI g (nI sh) ^^^ (-1)) = 0) = decide (nI set &&& nI sh = 0) := by decide +kernel
theorem fre_gt : ∀ g ∈ List.range 7, ∀ sh ∈ List.range (2 ^ g), ∀ set ∈ List.range (2 ^ g), frI g (nI sh) < nI set → ¬ nI set &&& nI sh = 0 := by decide +kernel
theorem fre_nI : ∀ g ∈ List.range 7, ∀ sh ∈ List.range (2 ^ g), frI g (nI sh) = nI (2 ^ g - 1 - sh) := by decide +kernel
theorem cos_b {R : List Int32} {s : Int32} {c w : Nat} : ∀ m, (∀ k, k < m → ∃ x, x ≤ 99 ∧ rg R (c + w * k + 2) = nI x) → ∃ x, x ≤ 99 * m ∧ forN (cosF R s c w) m 0 = nI x
  | 0, _ => ⟨0, by omega, rfl⟩
  | m + 1, h => by
    obtain ⟨x, hx, ex⟩ := cos_b (s := s) m (fun k hk => h k (by omega))
    obtain ⟨y, hy, ey⟩ := h m (by omega)
    rw [forN_succ, ex]
    unfold cosF
    split
    · exact ⟨x + y, by omega, by rw [ey, nI_add]⟩
    · exact ⟨x, by omega, by rw [Int32.add_zero]⟩
/-- what the choice holds, by the best set so far -/
def Chs (H : List AC) (c : Int32 → Int32) (best : Int32) : Prop := (best = -2 ∧ fi H 43 2 = 0) ∨ (∃ b, b < 64 ∧ best = nI b ∧ fi H 43 2 = 1 ∧ fi H 43 3 = c (nI b) ∧ fi H 43 4 = nI (pc b) ∧ fi H 43 5 = nI b)
theorem mBet_1 {c : Int32 → Int32} {s b x y : Nat} (hs : s < 256) (hb : b < 256) (hx : c (nI s) = nI x) (hy : c (nI b) = nI y) (lx : x < 100000) (ly : y < 100000) : mBet c (nI s) (nI b) = decide (x < y ∨ (x = y ∧ pc s < pc b)) := by
  have p1 := pc_le 8 (by decide) s (List.mem_range.mpr hs)
  have p2 := pc_le 8 (by decide) b (List.mem_range.mpr hb)
  unfold mBet mor
  rw [if_neg (nI_pos (by omega)), hx, hy, ones_pc s (List.mem_range.mpr hs), ones_pc b (List.mem_range.mpr hb)]
  apply decide_eq_decide.mpr
  have e1 : (0 < nI x - nI y) ↔ y < x := by
    rw [Int32.lt_iff_toInt_lt, pk_sub_toInt (by omega) (by omega), Int32.toInt_zero]
    omega
  have e2 : (nI x - nI y = 0) ↔ x = y := by
    constructor
    · intro h
      have := congrArg Int32.toInt h
      rw [pk_sub_toInt (by omega) (by omega), Int32.toInt_zero] at this
      omega
    · intro h
      subst h
      exact Int32.sub_self _
  rw [e1, e2, nI_ltI (by omega) (by omega)]
  constructor
  · rintro ⟨h1, h2⟩
    rcases Nat.lt_or_ge x y with q | q
    · exact Or.inl q
    · have e : x = y := by omega
      exact Or.inr ⟨e, h2 e⟩
  · rintro (h | ⟨h1, h2⟩)
    · exact ⟨by omega, fun q => by omega⟩
    · exact ⟨by omega, fun _ => h2⟩
theorem mBet_0 {c : Int32 → Int32} {s : Int32} : mBet c s (-2) = true := by
  unfold mBet mor
  rw [if_pos (by decide)]
  exact decide_eq_true ⟨by decide, fun q => absurd q (by decide)⟩
section CCH
variable {scr : List Int32} {d n nS nW nG nU nN : Nat} {H : List AC} {R st ws : List Int32} {rum : Int32} {Q : Option Value → List AC → Prop}
theorem CSl.cG (hC : CSl H R n nS nW nG nU nN) (s : Int32) : ∃ x, x < 100000 ∧ forN (cosF R s 94 4) nG 0 = nI x := by
  obtain ⟨hS, ⟨c2, c3, c4, c5, c6, c7, b2, b3, b4, b5, b6, b7⟩, tR, tS, tW, tG, _⟩ := hC
  obtain ⟨x, hx, ex⟩ := cos_b (R := R) (s := s) (c := 94) (w := 4) nG (fun k hk => by
    obtain ⟨r, dd, c, _, _, h99, _, _, _, _, e2, _⟩ := tG k hk
    exact ⟨c, h99, e2⟩)
  exact ⟨x, by omega, ex⟩
theorem CSl.cW (hC : CSl H R n nS nW nG nU nN) (s : Int32) : ∃ x, x < 100000 ∧ forN (cosF R s 79 3) nW 0 = nI x := by
  obtain ⟨hS, ⟨c2, c3, c4, c5, c6, c7, b2, b3, b4, b5, b6, b7⟩, tR, tS, tW, tG, _⟩ := hC
  obtain ⟨x, hx, ex⟩ := cos_b (R := R) (s := s) (c := 79) (w := 3) nW (fun k hk => by
    obtain ⟨t, c, _, h99, _, _, _, _, e2, _⟩ := tW.1 k hk
    exact ⟨c, h99, e2⟩)
  exact ⟨x, by omega, ex⟩
theorem c_chCoins {c : Int32 → Int32} {best : Int32} (hS : Shp H) (hH : Chs H c best) : Wp scr d 8 0 [some (.ref 43)] [] H Q ↔ Q (some (.int (if best < 0 then -2 else c best))) H := by
  refine Wp_iff ?_
  rcases hH with ⟨h1, h2⟩ | ⟨b, hb, h1, h2, h3, h4, h5⟩
  · subst h1
    simp (maxDischargeDepth := 12) only [w8_0, w8_1, w8_4, w8_7, w8_8, w8_11, w8_14, w8_16, oK_some, cont_int, cont_intS, cont_none, cont_noneS, cont_long, cont_longS, true_and, and_true, false_and, and_false, true_implies, false_implies, not_true_eq_false, not_false_eq_true, eq_self, or_true, true_or, Option.isSome_some, hpf_length, hpa_length, bI_eq0, fi_hpa, fl_hpa, ar_hpf, fi_hpf_ne, fl_hpf_ne, ar_hpa_ne, hpa_hpa, hpf_hpf, nI_1, two_ne, fokZ, implies_true, Nat.reduceEqDiff, g_43_2, sf_43_2, fe_43_2, g_43_3, sf_43_3, fe_43_3, hS, h2]
    rfl
  · subst h1
    rw [if_neg (nI_pos (by omega))]
    simp (maxDischargeDepth := 12) only [w8_0, w8_1, w8_4, w8_7, w8_8, w8_11, w8_14, w8_16, oK_some, cont_int, cont_intS, cont_none, cont_noneS, cont_long, cont_longS, true_and, and_true, false_and, and_false, true_implies, false_implies, not_true_eq_false, not_false_eq_true, eq_self, or_true, true_or, Option.isSome_some, hpf_length, hpa_length, bI_eq0, fi_hpa, fl_hpa, ar_hpf, fi_hpf_ne, fl_hpf_ne, ar_hpa_ne, hpa_hpa, hpf_hpf, nI_1, two_ne, fokZ, implies_true, Nat.reduceEqDiff, g_43_2, sf_43_2, fe_43_2, g_43_3, sf_43_3, fe_43_3, hS, h2, h3, show ((1 : Int32) = 0) = False from eq_false (by decide)]
theorem c_chBits {c : Int32 → Int32} {best : Int32} (hS : Shp H) (hH : Chs H c best) : Wp scr d 9 0 [some (.ref 43)] [] H Q ↔ Q (some (.int best)) H := by
  refine Wp_iff ?_
  rcases hH with ⟨h1, h2⟩ | ⟨b, hb, h1, h2, h3, h4, h5⟩
  · subst h1
    simp (maxDischargeDepth := 12) only [w9_0, w9_1, w9_4, w9_7, w9_8, w9_11, w9_14, w9_16, oK_some, cont_int, cont_intS, cont_none, cont_noneS, cont_long, cont_longS, true_and, and_true, false_and, and_false, true_implies, false_implies, not_true_eq_false, not_false_eq_true, eq_self, or_true, true_or, Option.isSome_some, hpf_length, hpa_length, bI_eq0, fi_hpa, fl_hpa, ar_hpf, fi_hpf_ne, fl_hpf_ne, ar_hpa_ne, hpa_hpa, hpf_hpf, nI_1, two_ne, fokZ, implies_true, Nat.reduceEqDiff, g_43_2, sf_43_2, fe_43_2, g_43_5, sf_43_5, fe_43_5, hS, h2]
  · subst h1
    simp (maxDischargeDepth := 12) only [w9_0, w9_1, w9_4, w9_7, w9_8, w9_11, w9_14, w9_16, oK_some, cont_int, cont_intS, cont_none, cont_noneS, cont_long, cont_longS, true_and, and_true, false_and, and_false, true_implies, false_implies, not_true_eq_false, not_false_eq_true, eq_self, or_true, true_or, Option.isSome_some, hpf_length, hpa_length, bI_eq0, fi_hpa, fl_hpa, ar_hpf, fi_hpf_ne, fl_hpf_ne, ar_hpa_ne, hpa_hpa, hpf_hpf, nI_1, two_ne, fokZ, implies_true, Nat.reduceEqDiff, g_43_2, sf_43_2, fe_43_2, g_43_5, sf_43_5, fe_43_5, hS, h2, h5, show ((1 : Int32) = 0) = False from eq_false (by decide)]
theorem c_isBetterG {set : Nat} {best : Int32} (hC : CSl H R n nS nW nG nU nN) (hs : set < 64) (hH : Chs H (fun s => forN (cosF R s 94 4) nG 0) best) : Wp scr (d + 2) 12 0 [some (.ref 43), some (.ref 10), some (.int (nI set)), none] [] H Q ↔ Q (some (.int (bI (mBet (fun s => forN (cosF R s 94 4) nG 0) (nI set) best)))) H := by
  refine Wp_iff ?_
  have hS := hC.shp
  obtain ⟨x, hx, ex⟩ := hC.cG (nI set)
  rcases hH with ⟨h1, h2⟩ | ⟨b, hb, h1, h2, h3, h4, h5⟩
  · subst h1
    rw [mBet_0]
    simp (maxDischargeDepth := 12) only [w12_0, w12_1, w12_2, w12_5, w12_6, w12_7, w12_10, w12_13, w12_14, w12_15, w12_18, w12_21, w12_22, w12_23, w12_26, w12_29, w12_30, w12_33, w12_34, w12_37, w12_40, w12_41, w12_44, w12_45, oK_some, cont_int, cont_intS, cont_none, cont_noneS, cont_long, cont_longS, true_and, and_true, false_and, and_false, true_implies, false_implies, not_true_eq_false, not_false_eq_true, eq_self, or_true, true_or, Option.isSome_some, hpf_length, hpa_length, bI_eq0, fi_hpa, fl_hpa, ar_hpf, fi_hpf_ne, fl_hpf_ne, ar_hpa_ne, hpa_hpa, hpf_hpf, nI_1, two_ne, fokZ, implies_true, Nat.reduceEqDiff, rc_4, rc_6, rc_8, rc_10, rc_12, rc_14, rc_17, rc_19, rc_21, rc_23, rc_25, rc_27, g_43_2, sf_43_2, fe_43_2, g_43_3, sf_43_3, fe_43_3, g_43_4, sf_43_4, fe_43_4, hS, c_coinsG hC, h2]
    rfl
  · subst h1
    obtain ⟨y, hy, ey⟩ := hC.cG (nI b)
    rw [mBet_1 (c := fun s => forN (cosF R s 94 4) nG 0) (s := set) (b := b) (x := x) (y := y) (by omega) (by omega) ex ey hx hy]
    have p1 := pc_le 8 (by decide) set (List.mem_range.mpr (by omega))
    have p2 := pc_le 8 (by decide) b (List.mem_range.mpr (by omega))
    simp (maxDischargeDepth := 12) only [w12_0, w12_1, w12_2, w12_5, w12_6, w12_7, w12_10, w12_13, w12_14, w12_15, w12_18, w12_21, w12_22, w12_23, w12_26, w12_29, w12_30, w12_33, w12_34, w12_37, w12_40, w12_41, w12_44, w12_45, oK_some, cont_int, cont_intS, cont_none, cont_noneS, cont_long, cont_longS, true_and, and_true, false_and, and_false, true_implies, false_implies, not_true_eq_false, not_false_eq_true, eq_self, or_true, true_or, Option.isSome_some, hpf_length, hpa_length, bI_eq0, fi_hpa, fl_hpa, ar_hpf, fi_hpf_ne, fl_hpf_ne, ar_hpa_ne, hpa_hpa, hpf_hpf, nI_1, two_ne, fokZ, implies_true, Nat.reduceEqDiff, rc_4, rc_6, rc_8, rc_10, rc_12, rc_14, rc_17, rc_19, rc_21, rc_23, rc_25, rc_27, g_43_2, sf_43_2, fe_43_2, g_43_3, sf_43_3, fe_43_3, g_43_4, sf_43_4, fe_43_4, hS, c_coinsG hC, h2, h3, h4, ex, ey, show ((1 : Int32) = 0) = False from eq_false (by decide), c_bc (show set < 256 by omega), nI_ltI (show x < 2 ^ 31 by omega) (show y < 2 ^ 31 by omega), nI_eq (show x < 2 ^ 31 by omega) (show y < 2 ^ 31 by omega), nI_leI (show pc b < 2 ^ 31 by omega) (show pc set < 2 ^ 31 by omega)]
    by_cases c1 : x < y
    · simp [c1, bI]
    · by_cases c2 : x = y
      · by_cases c3 : pc b ≤ pc set
        · have c4 : ¬ pc set < pc b := by omega
          simp [c2, c3, c4, bI]
        · have c4 : pc set < pc b := by omega
          simp [c2, c3, c4, bI]
      · simp [c1, c2, bI]
theorem c_keepG (hgo : GoC) {set m : Nat} {wanted best : Int32} (hC : CSl H R n nS nW nG nU nN) (hW : Wk H ws rum n nS nW) (hg : Gb ws) (hm : m ≤ 40) (hs : set < 64) (hH : Chs H (fun s => forN (cosF R s 94 4) nG 0) best) (hQ : ∀ H', Fg [34, 36, 38, 40, 42, 43] [] H H' → Chs H' (fun s => forN (cosF R s 94 4) nG 0) (if dbt n (daysM R rum n nW nG nU m ws) &&& wanted = 0 then nI set else best) → Q none H') : Wp scr (d + 5) 13 0 [some (.ref 43), some (.ref 10), some (.int (nI set)), some (.int wanted), some (.int (nI m))] [] H Q := by
  have hS := hC.shp
  simp (maxDischargeDepth := 12) only [w13_0, w13_1, w13_4, w13_6, w13_9, w13_10, w13_13, w13_16, w13_17, w13_18, w13_21, w13_22, w13_23, w13_26, w13_27, w13_28, w13_29, w13_32, w13_35, w13_36, w13_37, w13_40, w13_43, w13_44, w13_45, w13_48, oK_some, cont_int, cont_intS, cont_none, cont_noneS, cont_long, cont_longS, true_and, and_true, false_and, and_false, true_implies, false_implies, not_true_eq_false, not_false_eq_true, eq_self, or_true, true_or, Option.isSome_some, hpf_length, hpa_length, bI_eq0, fi_hpa, fl_hpa, ar_hpf, fi_hpf_ne, fl_hpf_ne, ar_hpa_ne, hpa_hpa, hpf_hpf, nI_1, two_ne, fokZ, implies_true, Nat.reduceEqDiff, g_43_1, rc_33, g_43_2, sf_43_2, fe_43_2, rc_4, rc_6, rc_8, rc_10, rc_12, rc_14, rc_17, rc_19, rc_21, rc_23, rc_25, rc_27, g_43_3, sf_43_3, fe_43_3, g_43_4, sf_43_4, fe_43_4, g_43_5, sf_43_5, fe_43_5, hS]
  refine hgo _ _ _ _ R ws rum n nS nW nG nU nN m hC hW hg hm (fun H2 hF2 h2 => ?_)
  have hs2 := hF2.shp
  have hC2 := hC.of hF2 (by decide) (by decide)
  have t1 := sf_43_2 (v := 1) hs2
  have hC3 : CSl (hpf H2 43 2 (.int 1)) R n nS nW nG nU nN := hC2.of (S := []) (F := [(43, 2)]) (fg_hpf (a := 43) (f := 2) (ci := 1) hs2 rfl (by decide)) (by decide) (by decide)
  simp (maxDischargeDepth := 12) only [w13_0, w13_1, w13_4, w13_6, w13_9, w13_10, w13_13, w13_16, w13_17, w13_18, w13_21, w13_22, w13_23, w13_26, w13_27, w13_28, w13_29, w13_32, w13_35, w13_36, w13_37, w13_40, w13_43, w13_44, w13_45, w13_48, oK_some, cont_int, cont_intS, cont_none, cont_noneS, cont_long, cont_longS, true_and, and_true, false_and, and_false, true_implies, false_implies, not_true_eq_false, not_false_eq_true, eq_self, or_true, true_or, Option.isSome_some, hpf_length, hpa_length, bI_eq0, fi_hpa, fl_hpa, ar_hpf, fi_hpf_ne, fl_hpf_ne, ar_hpa_ne, hpa_hpa, hpf_hpf, nI_1, two_ne, fokZ, implies_true, Nat.reduceEqDiff, g_43_1, rc_33, g_43_2, sf_43_2, fe_43_2, rc_4, rc_6, rc_8, rc_10, rc_12, rc_14, rc_17, rc_19, rc_21, rc_23, rc_25, rc_27, g_43_3, sf_43_3, fe_43_3, g_43_4, sf_43_4, fe_43_4, g_43_5, sf_43_5, fe_43_5, hF2.len, hs2, w_doubting hC2 h2, c_coinsG hC3, c_bc (show set < 256 by omega)]
  by_cases hz : dbt n (daysM R rum n nW nG nU m ws) &&& wanted = 0
  · rw [if_pos hz] at hQ
    simp only [hz, oK_some, cont_int, cont_intS, cont_none, cont_noneS, cont_long, cont_longS, true_and, and_true, false_and, and_false, true_implies, false_implies, not_true_eq_false, not_false_eq_true, eq_self, or_true, true_or, Option.isSome_some, hpf_length, hpa_length, bI_eq0, fi_hpa, fl_hpa, ar_hpf, fi_hpf_ne, fl_hpf_ne, ar_hpa_ne, hpa_hpa, hpf_hpf, nI_1, two_ne, fokZ, implies_true, Nat.reduceEqDiff]
    have t2 := fun v => sf_43_3 (v := v) t1
    have t3 := fun v v' => sf_43_4 (v := v) (t2 v')
    refine hQ _ ((((hF2.mono (by decide) (by decide)).trans (fr_hpf (S := [34, 36, 38, 40, 42, 43]) (ci := 1) hs2 rfl (by decide)).fg).trans (fr_hpf (S := [34, 36, 38, 40, 42, 43]) (ci := 1) t1 rfl (by decide)).fg).trans ((fr_hpf (S := [34, 36, 38, 40, 42, 43]) (ci := 1) (t2 _) rfl (by decide)).fg.trans (fr_hpf (S := [34, 36, 38, 40, 42, 43]) (ci := 1) (t3 _ _) rfl (by decide)).fg)) (Or.inr ⟨set, hs, rfl, ?_, ?_, ?_, ?_⟩)
    · rw [fi_hpf_ne (by decide), fi_hpf_ne (by decide), fi_hpf_ne (by decide), fe_43_2 hs2]
    · rw [fi_hpf_ne (by decide), fi_hpf_ne (by decide), fe_43_3 t1]
    · rw [fi_hpf_ne (by decide), fe_43_4 (t2 _)]
    · rw [fe_43_5 (t3 _ _)]
  · rw [if_neg hz] at hQ
    simp only [hz, oK_some, cont_int, cont_intS, cont_none, cont_noneS, cont_long, cont_longS, true_and, and_true, false_and, and_false, true_implies, false_implies, not_true_eq_false, not_false_eq_true, eq_self, or_true, true_or, Option.isSome_some, hpf_length, hpa_length, bI_eq0, fi_hpa, fl_hpa, ar_hpf, fi_hpf_ne, fl_hpf_ne, ar_hpa_ne, hpa_hpa, hpf_hpf, nI_1, two_ne, fokZ, implies_true, Nat.reduceEqDiff]
    refine hQ H2 (hF2.mono (by decide) (by decide)) ?_
    unfold Chs at hH ⊢
    rw [hF2.int (by decide) (by decide), hF2.int (by decide) (by decide), hF2.int (by decide) (by decide), hF2.int (by decide) (by decide)]
    exact hH
theorem c_seekG (hgo : GoC) {m sh : Nat} {wanted : Int32} (hC : CIv H R st n nS nW nG nU nN) (hg : Gb st) (hm : m ≤ 40) (hsh : st.getD 7 0 = nI sh) (hs : sh < 2 ^ nG) (hQ : ∀ H', Fg [33, 34, 36, 38, 40, 42, 43] [] H H' → Chs H' (fun s => forN (cosF R s 94 4) nG 0) (forN (chF (fun s => forN (cosF R s 94 4) nG 0) (fun set => decide (dbt n (daysM R (allU nU) n nW nG nU m (wOr st (nI set) 0)) &&& wanted = 0)) (st.getD 7 0)) (2 ^ nG) (-2)) → Q none H') : Wp scr (d + 6) 10 0 [some (.ref 43), some (.ref 30), some (.int wanted), some (.int (nI m)), none, none] [] H Q := by
  have hS := hC.shp
  obtain ⟨c2, c3, c4, c5, c6, c7, b2, b3, b4, b5, b6, b7⟩ := id hC.1.2.1
  generalize hc : (fun s => forN (cosF R s 94 4) nG 0) = c at hQ
  generalize hT : (fun set => decide (dbt n (daysM R (allU nU) n nW nG nU m (wOr st (nI set) 0)) &&& wanted = 0)) = T at hQ
  have hTi : ∀ set : Nat, T set = decide (dbt n (daysM R (allU nU) n nW nG nU m (wOr st (nI set) 0)) &&& wanted = 0) := fun set => by rw [← hT]
  have hN : nG < 7 := by omega
  have hpw : 2 ^ nG ≤ 2 ^ 6 := p2_lt (by omega)
  have fnI := fre_nI nG (List.mem_range.mpr hN) sh (List.mem_range.mpr hs)
  have fv := hC.2.1.2.2.1
  have s1 := sf_43_2 (v := 0) hS
  have eF : ((1 <<< (nI nG &&& 31)) - 1) &&& (nI sh ^^^ (-1)) = nI (2 ^ nG - 1 - sh) := fnI
  simp (maxDischargeDepth := 12) only [w10_0, w10_1, w10_2, w10_5, w10_6, w10_9, w10_12, w10_15, w10_16, w10_19, w10_20, w10_21, w10_22, w10_24, w10_25, w10_29, w10_31, w10_34, w10_36, w10_38, w10_39, w10_40, w10_41, w10_44, w10_45, w10_46, w10_49, w10_52, w10_54, w10_57, w10_60, w10_61, w10_64, w10_65, w10_67, w10_68, w10_71, w10_72, w10_73, w10_76, w10_79, w10_81, w10_82, w10_83, w10_86, w10_89, w10_92, oK_some, cont_int, cont_intS, cont_none, cont_noneS, cont_long, cont_longS, true_and, and_true, false_and, and_false, true_implies, false_implies, not_true_eq_false, not_false_eq_true, eq_self, or_true, true_or, Option.isSome_some, hpf_length, hpa_length, bI_eq0, fi_hpa, fl_hpa, ar_hpf, fi_hpf_ne, fl_hpf_ne, ar_hpa_ne, hpa_hpa, hpf_hpf, nI_1, two_ne, fokZ, implies_true, Nat.reduceEqDiff, g_43_2, sf_43_2, fe_43_2, g_43_0, rc_3, g_3_5, rc_10, g_16_5, rc_23, rc_4, rc_6, rc_8, rc_12, rc_14, rc_17, rc_19, rc_21, rc_25, rc_27, g_30_2, sf_30_2, fe_30_2, g_34_2, sf_34_2, fe_34_2, g_45_2, sf_45_2, fe_45_2, rc_43, g_43_1, rc_33, hS, c_Table_allBits (g_10_2 s1), c5, fv, hsh, eF]
  have key := down (P := fun i => ∀ H2, Fg [33, 34, 36, 38, 40, 42, 43] [] H H2 → Chs H2 c (forN (chF c T (st.getD 7 0)) i (-2)) → Wp scr (d + 6) 10 27 [some (.ref 43), some (.ref 30), some (.int wanted), some (.int (nI m)), some (.int (nI (2 ^ nG - 1 - sh))), some (.int (nI i))] [] H2 Q) (2 ^ nG - 1 - sh + 1) ?_ ?_
  · exact key _ ((fr_hpf (S := [33, 34, 36, 38, 40, 42, 43]) (ci := 1) hS rfl (by decide)).fg) (Or.inl ⟨rfl, fe_43_2 hS⟩)
  · intro H2 hF2 hH2
    rw [w10_27]
    simp (maxDischargeDepth := 12) only [w10_0, w10_1, w10_2, w10_5, w10_6, w10_9, w10_12, w10_15, w10_16, w10_19, w10_20, w10_21, w10_22, w10_24, w10_25, w10_29, w10_31, w10_34, w10_36, w10_38, w10_39, w10_40, w10_41, w10_44, w10_45, w10_46, w10_49, w10_52, w10_54, w10_57, w10_60, w10_61, w10_64, w10_65, w10_67, w10_68, w10_71, w10_72, w10_73, w10_76, w10_79, w10_81, w10_82, w10_83, w10_86, w10_89, w10_92, oK_some, cont_int, cont_intS, cont_none, cont_noneS, cont_long, cont_longS, true_and, and_true, false_and, and_false, true_implies, false_implies, not_true_eq_false, not_false_eq_true, eq_self, or_true, true_or, Option.isSome_some, hpf_length, hpa_length, bI_eq0, fi_hpa, fl_hpa, ar_hpf, fi_hpf_ne, fl_hpf_ne, ar_hpa_ne, hpa_hpa, hpf_hpf, nI_1, two_ne, fokZ, implies_true, Nat.reduceEqDiff, g_43_2, sf_43_2, fe_43_2, g_43_0, rc_3, g_3_5, rc_10, g_16_5, rc_23, rc_4, rc_6, rc_8, rc_12, rc_14, rc_17, rc_19, rc_21, rc_25, rc_27, g_30_2, sf_30_2, fe_30_2, g_34_2, sf_34_2, fe_34_2, g_45_2, sf_45_2, fe_45_2, rc_43, g_43_1, rc_33, show (nI (2 ^ nG - 1 - sh) < nI (2 ^ nG - 1 - sh + 1)) = True from eq_true (nI_lt (by omega) (by omega))]
    have ext : ∀ j, 2 ^ nG - 1 - sh + 1 + j ≤ 2 ^ nG → forN (chF c T (st.getD 7 0)) (2 ^ nG - 1 - sh + 1 + j) (-2) = forN (chF c T (st.getD 7 0)) (2 ^ nG - 1 - sh + 1) (-2) := by
      intro j
      induction j with
      | zero => intro _; rfl
      | succ j ih =>
        intro hj
        rw [← Nat.add_assoc, forN_succ, ih (by omega)]
        unfold chF
        have hgt := fre_gt nG (List.mem_range.mpr hN) sh (List.mem_range.mpr hs) (2 ^ nG - 1 - sh + 1 + j) (List.mem_range.mpr (by omega)) (by rw [fnI]; exact nI_lt (by omega) (by omega))
        rw [hsh, if_neg hgt]
    have ee := ext sh (by omega)
    rw [show 2 ^ nG - 1 - sh + 1 + sh = 2 ^ nG by omega] at ee
    rw [ee] at hQ
    exact hQ H2 hF2 hH2
  · intro i hi hw H2 hF2 hH2
    have hC2 := hC.of hF2 (by decide) (by decide)
    have hs2 := hF2.shp
    have hi2 : i < 2 ^ nG := by omega
    rw [forN_succ] at hw
    generalize forN (chF c T (st.getD 7 0)) i (-2) = best at hw hH2
    have fa := fre_and nG (List.mem_range.mpr hN) sh (List.mem_range.mpr hs) i (List.mem_range.mpr hi2)
    rw [fnI] at fa
    have fa' : (nI i &&& (nI (2 ^ nG - 1 - sh) ^^^ (-1)) = 0) = (nI i &&& nI sh = 0) := propext (decide_eq_decide.mp fa)
    rw [← hc] at hH2
    rw [w10_27]
    simp (maxDischargeDepth := 12) only [w10_0, w10_1, w10_2, w10_5, w10_6, w10_9, w10_12, w10_15, w10_16, w10_19, w10_20, w10_21, w10_22, w10_24, w10_25, w10_29, w10_31, w10_34, w10_36, w10_38, w10_39, w10_40, w10_41, w10_44, w10_45, w10_46, w10_49, w10_52, w10_54, w10_57, w10_60, w10_61, w10_64, w10_65, w10_67, w10_68, w10_71, w10_72, w10_73, w10_76, w10_79, w10_81, w10_82, w10_83, w10_86, w10_89, w10_92, oK_some, cont_int, cont_intS, cont_none, cont_noneS, cont_long, cont_longS, true_and, and_true, false_and, and_false, true_implies, false_implies, not_true_eq_false, not_false_eq_true, eq_self, or_true, true_or, Option.isSome_some, hpf_length, hpa_length, bI_eq0, fi_hpa, fl_hpa, ar_hpf, fi_hpf_ne, fl_hpf_ne, ar_hpa_ne, hpa_hpa, hpf_hpf, nI_1, two_ne, fokZ, implies_true, Nat.reduceEqDiff, g_43_2, sf_43_2, fe_43_2, g_43_0, rc_3, g_3_5, rc_10, g_16_5, rc_23, rc_4, rc_6, rc_8, rc_12, rc_14, rc_17, rc_19, rc_21, rc_25, rc_27, g_30_2, sf_30_2, fe_30_2, g_34_2, sf_34_2, fe_34_2, g_45_2, sf_45_2, fe_45_2, rc_43, g_43_1, rc_33, hs2, show (nI (2 ^ nG - 1 - sh) < nI i) = False from eq_false (nI_nlt (by omega) (by omega)), fa', c_isBetterG hC2.1 (show i < 64 by omega) hH2, hc]
    unfold chF at hw
    rw [hsh] at hw
    by_cases hz : nI i &&& nI sh = 0
    · rw [if_pos hz] at hw
      simp only [hz, oK_some, cont_int, cont_intS, cont_none, cont_noneS, cont_long, cont_longS, true_and, and_true, false_and, and_false, true_implies, false_implies, not_true_eq_false, not_false_eq_true, eq_self, or_true, true_or, Option.isSome_some, hpf_length, hpa_length, bI_eq0, fi_hpa, fl_hpa, ar_hpf, fi_hpf_ne, fl_hpf_ne, ar_hpa_ne, hpa_hpa, hpf_hpf, nI_1, two_ne, fokZ, implies_true, Nat.reduceEqDiff]
      cases hmb : mBet c (nI i) best
      · rw [hmb] at hw
        simp only [Bool.false_eq_true, if_false] at hw
        simp only [oK_some, cont_int, cont_intS, cont_none, cont_noneS, cont_long, cont_longS, true_and, and_true, false_and, and_false, true_implies, false_implies, not_true_eq_false, not_false_eq_true, eq_self, or_true, true_or, Option.isSome_some, hpf_length, hpa_length, bI_eq0, fi_hpa, fl_hpa, ar_hpf, fi_hpf_ne, fl_hpf_ne, ar_hpa_ne, hpa_hpa, hpf_hpf, nI_1, two_ne, fokZ, implies_true, Nat.reduceEqDiff]
        rw [hc] at hH2
        exact hw H2 hF2 hH2
      · rw [hmb] at hw
        simp only [if_true] at hw
        simp only [oK_some, cont_int, cont_intS, cont_none, cont_noneS, cont_long, cont_longS, true_and, and_true, false_and, and_false, true_implies, false_implies, not_true_eq_false, not_false_eq_true, eq_self, or_true, true_or, Option.isSome_some, hpf_length, hpa_length, bI_eq0, fi_hpa, fl_hpa, ar_hpf, fi_hpf_ne, fl_hpf_ne, ar_hpa_ne, hpa_hpa, hpf_hpf, nI_1, two_ne, fokZ, implies_true, Nat.reduceEqDiff, Bool.true_eq_false]
        refine w_startWith hC2 (fun H3 hF3 hW3 => ?_)
        have hC3 := hC2.1.of hF3 (by decide) (by decide)
        have hs3 := hF3.shp
        have hH3 : Chs H3 (fun s => forN (cosF R s 94 4) nG 0) best := by
          unfold Chs at hH2 ⊢
          rw [hF3.int (by decide) (by decide), hF3.int (by decide) (by decide), hF3.int (by decide) (by decide), hF3.int (by decide) (by decide)]
          exact hH2
        simp (maxDischargeDepth := 12) only [w10_0, w10_1, w10_2, w10_5, w10_6, w10_9, w10_12, w10_15, w10_16, w10_19, w10_20, w10_21, w10_22, w10_24, w10_25, w10_29, w10_31, w10_34, w10_36, w10_38, w10_39, w10_40, w10_41, w10_44, w10_45, w10_46, w10_49, w10_52, w10_54, w10_57, w10_60, w10_61, w10_64, w10_65, w10_67, w10_68, w10_71, w10_72, w10_73, w10_76, w10_79, w10_81, w10_82, w10_83, w10_86, w10_89, w10_92, oK_some, cont_int, cont_intS, cont_none, cont_noneS, cont_long, cont_longS, true_and, and_true, false_and, and_false, true_implies, false_implies, not_true_eq_false, not_false_eq_true, eq_self, or_true, true_or, Option.isSome_some, hpf_length, hpa_length, bI_eq0, fi_hpa, fl_hpa, ar_hpf, fi_hpf_ne, fl_hpf_ne, ar_hpa_ne, hpa_hpa, hpf_hpf, nI_1, two_ne, fokZ, implies_true, Nat.reduceEqDiff, g_43_2, sf_43_2, fe_43_2, g_43_0, rc_3, g_3_5, rc_10, g_16_5, rc_23, rc_4, rc_6, rc_8, rc_12, rc_14, rc_17, rc_19, rc_21, rc_25, rc_27, g_30_2, sf_30_2, fe_30_2, g_34_2, sf_34_2, fe_34_2, g_45_2, sf_45_2, fe_45_2, rc_43, g_43_1, rc_33, hF3.len, hs3]
        refine c_keepG hgo hC3 hW3 hg.wOr hm (by omega) hH3 (fun H4 hF4 hH4 => ?_)
        simp (maxDischargeDepth := 12) only [w10_0, w10_1, w10_2, w10_5, w10_6, w10_9, w10_12, w10_15, w10_16, w10_19, w10_20, w10_21, w10_22, w10_24, w10_25, w10_29, w10_31, w10_34, w10_36, w10_38, w10_39, w10_40, w10_41, w10_44, w10_45, w10_46, w10_49, w10_52, w10_54, w10_57, w10_60, w10_61, w10_64, w10_65, w10_67, w10_68, w10_71, w10_72, w10_73, w10_76, w10_79, w10_81, w10_82, w10_83, w10_86, w10_89, w10_92, oK_some, cont_int, cont_intS, cont_none, cont_noneS, cont_long, cont_longS, true_and, and_true, false_and, and_false, true_implies, false_implies, not_true_eq_false, not_false_eq_true, eq_self, or_true, true_or, Option.isSome_some, hpf_length, hpa_length, bI_eq0, fi_hpa, fl_hpa, ar_hpf, fi_hpf_ne, fl_hpf_ne, ar_hpa_ne, hpa_hpa, hpf_hpf, nI_1, two_ne, fokZ, implies_true, Nat.reduceEqDiff, g_43_2, sf_43_2, fe_43_2, g_43_0, rc_3, g_3_5, rc_10, g_16_5, rc_23, rc_4, rc_6, rc_8, rc_12, rc_14, rc_17, rc_19, rc_21, rc_25, rc_27, g_30_2, sf_30_2, fe_30_2, g_34_2, sf_34_2, fe_34_2, g_45_2, sf_45_2, fe_45_2, rc_43, g_43_1, rc_33, hF4.len]
        refine hw H4 ((hF2.trans (hF3.mono (by decide) (by decide))).trans (hF4.mono (by decide) (by decide))) ?_
        rw [hc] at hH4
        rw [hTi]
        by_cases hzz : dbt n (daysM R (allU nU) n nW nG nU m (wOr st (nI i) 0)) &&& wanted = 0
        · rw [if_pos hzz] at hH4
          rw [if_pos (decide_eq_true hzz)]
          exact hH4
        · rw [if_neg hzz] at hH4
          rw [if_neg (by simpa using hzz)]
          exact hH4
    · rw [if_neg hz] at hw
      simp only [hz, oK_some, cont_int, cont_intS, cont_none, cont_noneS, cont_long, cont_longS, true_and, and_true, false_and, and_false, true_implies, false_implies, not_true_eq_false, not_false_eq_true, eq_self, or_true, true_or, Option.isSome_some, hpf_length, hpa_length, bI_eq0, fi_hpa, fl_hpa, ar_hpf, fi_hpf_ne, fl_hpf_ne, ar_hpa_ne, hpa_hpa, hpf_hpf, nI_1, two_ne, fokZ, implies_true, Nat.reduceEqDiff]
      rw [hc] at hH2
      exact hw H2 hF2 hH2
theorem c_isBetterW {set : Nat} {best : Int32} (hC : CSl H R n nS nW nG nU nN) (hs : set < 64) (hH : Chs H (fun s => forN (cosF R s 79 3) nW 0) best) : Wp scr (d + 2) 12 0 [some (.ref 43), some (.ref 8), some (.int (nI set)), none] [] H Q ↔ Q (some (.int (bI (mBet (fun s => forN (cosF R s 79 3) nW 0) (nI set) best)))) H := by
  refine Wp_iff ?_
  have hS := hC.shp
  obtain ⟨x, hx, ex⟩ := hC.cW (nI set)
  rcases hH with ⟨h1, h2⟩ | ⟨b, hb, h1, h2, h3, h4, h5⟩
  · subst h1
    rw [mBet_0]
    simp (maxDischargeDepth := 12) only [w12_0, w12_1, w12_2, w12_5, w12_6, w12_7, w12_10, w12_13, w12_14, w12_15, w12_18, w12_21, w12_22, w12_23, w12_26, w12_29, w12_30, w12_33, w12_34, w12_37, w12_40, w12_41, w12_44, w12_45, oK_some, cont_int, cont_intS, cont_none, cont_noneS, cont_long, cont_longS, true_and, and_true, false_and, and_false, true_implies, false_implies, not_true_eq_false, not_false_eq_true, eq_self, or_true, true_or, Option.isSome_some, hpf_length, hpa_length, bI_eq0, fi_hpa, fl_hpa, ar_hpf, fi_hpf_ne, fl_hpf_ne, ar_hpa_ne, hpa_hpa, hpf_hpf, nI_1, two_ne, fokZ, implies_true, Nat.reduceEqDiff, rc_4, rc_6, rc_8, rc_10, rc_12, rc_14, rc_17, rc_19, rc_21, rc_23, rc_25, rc_27, g_43_2, sf_43_2, fe_43_2, g_43_3, sf_43_3, fe_43_3, g_43_4, sf_43_4, fe_43_4, hS, c_coinsW hC, h2]
    rfl
  · subst h1
    obtain ⟨y, hy, ey⟩ := hC.cW (nI b)
    rw [mBet_1 (c := fun s => forN (cosF R s 79 3) nW 0) (s := set) (b := b) (x := x) (y := y) (by omega) (by omega) ex ey hx hy]
    have p1 := pc_le 8 (by decide) set (List.mem_range.mpr (by omega))
    have p2 := pc_le 8 (by decide) b (List.mem_range.mpr (by omega))
    simp (maxDischargeDepth := 12) only [w12_0, w12_1, w12_2, w12_5, w12_6, w12_7, w12_10, w12_13, w12_14, w12_15, w12_18, w12_21, w12_22, w12_23, w12_26, w12_29, w12_30, w12_33, w12_34, w12_37, w12_40, w12_41, w12_44, w12_45, oK_some, cont_int, cont_intS, cont_none, cont_noneS, cont_long, cont_longS, true_and, and_true, false_and, and_false, true_implies, false_implies, not_true_eq_false, not_false_eq_true, eq_self, or_true, true_or, Option.isSome_some, hpf_length, hpa_length, bI_eq0, fi_hpa, fl_hpa, ar_hpf, fi_hpf_ne, fl_hpf_ne, ar_hpa_ne, hpa_hpa, hpf_hpf, nI_1, two_ne, fokZ, implies_true, Nat.reduceEqDiff, rc_4, rc_6, rc_8, rc_10, rc_12, rc_14, rc_17, rc_19, rc_21, rc_23, rc_25, rc_27, g_43_2, sf_43_2, fe_43_2, g_43_3, sf_43_3, fe_43_3, g_43_4, sf_43_4, fe_43_4, hS, c_coinsW hC, h2, h3, h4, ex, ey, show ((1 : Int32) = 0) = False from eq_false (by decide), c_bc (show set < 256 by omega), nI_ltI (show x < 2 ^ 31 by omega) (show y < 2 ^ 31 by omega), nI_eq (show x < 2 ^ 31 by omega) (show y < 2 ^ 31 by omega), nI_leI (show pc b < 2 ^ 31 by omega) (show pc set < 2 ^ 31 by omega)]
    by_cases c1 : x < y
    · simp [c1, bI]
    · by_cases c2 : x = y
      · by_cases c3 : pc b ≤ pc set
        · have c4 : ¬ pc set < pc b := by omega
          simp [c2, c3, c4, bI]
        · have c4 : pc set < pc b := by omega
          simp [c2, c3, c4, bI]
      · simp [c1, c2, bI]
theorem c_keepW (hgo : GoC) {set m : Nat} {wanted best : Int32} (hC : CSl H R n nS nW nG nU nN) (hW : Wk H ws rum n nS nW) (hg : Gb ws) (hm : m ≤ 40) (hs : set < 64) (hH : Chs H (fun s => forN (cosF R s 79 3) nW 0) best) (hQ : ∀ H', Fg [34, 36, 38, 40, 42, 43] [] H H' → Chs H' (fun s => forN (cosF R s 79 3) nW 0) (if dbt n (daysM R rum n nW nG nU m ws) &&& wanted = 0 then nI set else best) → Q none H') : Wp scr (d + 5) 13 0 [some (.ref 43), some (.ref 8), some (.int (nI set)), some (.int wanted), some (.int (nI m))] [] H Q := by
  have hS := hC.shp
  simp (maxDischargeDepth := 12) only [w13_0, w13_1, w13_4, w13_6, w13_9, w13_10, w13_13, w13_16, w13_17, w13_18, w13_21, w13_22, w13_23, w13_26, w13_27, w13_28, w13_29, w13_32, w13_35, w13_36, w13_37, w13_40, w13_43, w13_44, w13_45, w13_48, oK_some, cont_int, cont_intS, cont_none, cont_noneS, cont_long, cont_longS, true_and, and_true, false_and, and_false, true_implies, false_implies, not_true_eq_false, not_false_eq_true, eq_self, or_true, true_or, Option.isSome_some, hpf_length, hpa_length, bI_eq0, fi_hpa, fl_hpa, ar_hpf, fi_hpf_ne, fl_hpf_ne, ar_hpa_ne, hpa_hpa, hpf_hpf, nI_1, two_ne, fokZ, implies_true, Nat.reduceEqDiff, g_43_1, rc_33, g_43_2, sf_43_2, fe_43_2, rc_4, rc_6, rc_8, rc_10, rc_12, rc_14, rc_17, rc_19, rc_21, rc_23, rc_25, rc_27, g_43_3, sf_43_3, fe_43_3, g_43_4, sf_43_4, fe_43_4, g_43_5, sf_43_5, fe_43_5, hS]
  refine hgo _ _ _ _ R ws rum n nS nW nG nU nN m hC hW hg hm (fun H2 hF2 h2 => ?_)
  have hs2 := hF2.shp
  have hC2 := hC.of hF2 (by decide) (by decide)
  have t1 := sf_43_2 (v := 1) hs2
  have hC3 : CSl (hpf H2 43 2 (.int 1)) R n nS nW nG nU nN := hC2.of (S := []) (F := [(43, 2)]) (fg_hpf (a := 43) (f := 2) (ci := 1) hs2 rfl (by decide)) (by decide) (by decide)
  simp (maxDischargeDepth := 12) only [w13_0, w13_1, w13_4, w13_6, w13_9, w13_10, w13_13, w13_16, w13_17, w13_18, w13_21, w13_22, w13_23, w13_26, w13_27, w13_28, w13_29, w13_32, w13_35, w13_36, w13_37, w13_40, w13_43, w13_44, w13_45, w13_48, oK_some, cont_int, cont_intS, cont_none, cont_noneS, cont_long, cont_longS, true_and, and_true, false_and, and_false, true_implies, false_implies, not_true_eq_false, not_false_eq_true, eq_self, or_true, true_or, Option.isSome_some, hpf_length, hpa_length, bI_eq0, fi_hpa, fl_hpa, ar_hpf, fi_hpf_ne, fl_hpf_ne, ar_hpa_ne, hpa_hpa, hpf_hpf, nI_1, two_ne, fokZ, implies_true, Nat.reduceEqDiff, g_43_1, rc_33, g_43_2, sf_43_2, fe_43_2, rc_4, rc_6, rc_8, rc_10, rc_12, rc_14, rc_17, rc_19, rc_21, rc_23, rc_25, rc_27, g_43_3, sf_43_3, fe_43_3, g_43_4, sf_43_4, fe_43_4, g_43_5, sf_43_5, fe_43_5, hF2.len, hs2, w_doubting hC2 h2, c_coinsW hC3, c_bc (show set < 256 by omega)]
  by_cases hz : dbt n (daysM R rum n nW nG nU m ws) &&& wanted = 0
  · rw [if_pos hz] at hQ
    simp only [hz, oK_some, cont_int, cont_intS, cont_none, cont_noneS, cont_long, cont_longS, true_and, and_true, false_and, and_false, true_implies, false_implies, not_true_eq_false, not_false_eq_true, eq_self, or_true, true_or, Option.isSome_some, hpf_length, hpa_length, bI_eq0, fi_hpa, fl_hpa, ar_hpf, fi_hpf_ne, fl_hpf_ne, ar_hpa_ne, hpa_hpa, hpf_hpf, nI_1, two_ne, fokZ, implies_true, Nat.reduceEqDiff]
    have t2 := fun v => sf_43_3 (v := v) t1
    have t3 := fun v v' => sf_43_4 (v := v) (t2 v')
    refine hQ _ ((((hF2.mono (by decide) (by decide)).trans (fr_hpf (S := [34, 36, 38, 40, 42, 43]) (ci := 1) hs2 rfl (by decide)).fg).trans (fr_hpf (S := [34, 36, 38, 40, 42, 43]) (ci := 1) t1 rfl (by decide)).fg).trans ((fr_hpf (S := [34, 36, 38, 40, 42, 43]) (ci := 1) (t2 _) rfl (by decide)).fg.trans (fr_hpf (S := [34, 36, 38, 40, 42, 43]) (ci := 1) (t3 _ _) rfl (by decide)).fg)) (Or.inr ⟨set, hs, rfl, ?_, ?_, ?_, ?_⟩)
    · rw [fi_hpf_ne (by decide), fi_hpf_ne (by decide), fi_hpf_ne (by decide), fe_43_2 hs2]
    · rw [fi_hpf_ne (by decide), fi_hpf_ne (by decide), fe_43_3 t1]
    · rw [fi_hpf_ne (by decide), fe_43_4 (t2 _)]
    · rw [fe_43_5 (t3 _ _)]
  · rw [if_neg hz] at hQ
    simp only [hz, oK_some, cont_int, cont_intS, cont_none, cont_noneS, cont_long, cont_longS, true_and, and_true, false_and, and_false, true_implies, false_implies, not_true_eq_false, not_false_eq_true, eq_self, or_true, true_or, Option.isSome_some, hpf_length, hpa_length, bI_eq0, fi_hpa, fl_hpa, ar_hpf, fi_hpf_ne, fl_hpf_ne, ar_hpa_ne, hpa_hpa, hpf_hpf, nI_1, two_ne, fokZ, implies_true, Nat.reduceEqDiff]
    refine hQ H2 (hF2.mono (by decide) (by decide)) ?_
    unfold Chs at hH ⊢
    rw [hF2.int (by decide) (by decide), hF2.int (by decide) (by decide), hF2.int (by decide) (by decide), hF2.int (by decide) (by decide)]
    exact hH
theorem c_seekW (hgo : GoC) {m sh : Nat} {wanted : Int32} (hC : CIv H R st n nS nW nG nU nN) (hg : Gb st) (hm : m ≤ 40) (hsh : st.getD 8 0 = nI sh) (hs : sh < 2 ^ nW) (hQ : ∀ H', Fg [33, 34, 36, 38, 40, 42, 43] [] H H' → Chs H' (fun s => forN (cosF R s 79 3) nW 0) (forN (chF (fun s => forN (cosF R s 79 3) nW 0) (fun set => decide (dbt n (daysM R (allU nU) n nW nG nU m (wOr st 0 (nI set))) &&& wanted = 0)) (st.getD 8 0)) (2 ^ nW) (-2)) → Q none H') : Wp scr (d + 6) 11 0 [some (.ref 43), some (.ref 30), some (.int wanted), some (.int (nI m)), none, none] [] H Q := by
  have hS := hC.shp
  obtain ⟨c2, c3, c4, c5, c6, c7, b2, b3, b4, b5, b6, b7⟩ := id hC.1.2.1
  generalize hc : (fun s => forN (cosF R s 79 3) nW 0) = c at hQ
  generalize hT : (fun set => decide (dbt n (daysM R (allU nU) n nW nG nU m (wOr st 0 (nI set))) &&& wanted = 0)) = T at hQ
  have hTi : ∀ set : Nat, T set = decide (dbt n (daysM R (allU nU) n nW nG nU m (wOr st 0 (nI set))) &&& wanted = 0) := fun set => by rw [← hT]
  have hN : nW < 7 := by omega
  have hpw : 2 ^ nW ≤ 2 ^ 6 := p2_lt (by omega)
  have fnI := fre_nI nW (List.mem_range.mpr hN) sh (List.mem_range.mpr hs)
  have fv := hC.2.1.2.2.2
  have s1 := sf_43_2 (v := 0) hS
  have eF : ((1 <<< (nI nW &&& 31)) - 1) &&& (nI sh ^^^ (-1)) = nI (2 ^ nW - 1 - sh) := fnI
  simp (maxDischargeDepth := 12) only [w11_0, w11_1, w11_2, w11_5, w11_6, w11_9, w11_12, w11_15, w11_16, w11_19, w11_20, w11_21, w11_22, w11_24, w11_25, w11_29, w11_31, w11_34, w11_36, w11_38, w11_39, w11_40, w11_41, w11_44, w11_45, w11_46, w11_49, w11_52, w11_54, w11_57, w11_60, w11_61, w11_64, w11_65, w11_66, w11_68, w11_71, w11_72, w11_73, w11_76, w11_79, w11_81, w11_82, w11_83, w11_86, w11_89, w11_92, oK_some, cont_int, cont_intS, cont_none, cont_noneS, cont_long, cont_longS, true_and, and_true, false_and, and_false, true_implies, false_implies, not_true_eq_false, not_false_eq_true, eq_self, or_true, true_or, Option.isSome_some, hpf_length, hpa_length, bI_eq0, fi_hpa, fl_hpa, ar_hpf, fi_hpf_ne, fl_hpf_ne, ar_hpa_ne, hpa_hpa, hpf_hpf, nI_1, two_ne, fokZ, implies_true, Nat.reduceEqDiff, g_43_2, sf_43_2, fe_43_2, g_43_0, rc_3, g_3_4, rc_8, g_16_4, rc_21, rc_4, rc_6, rc_10, rc_12, rc_14, rc_17, rc_19, rc_23, rc_25, rc_27, g_30_3, sf_30_3, fe_30_3, g_34_3, sf_34_3, fe_34_3, g_45_3, sf_45_3, fe_45_3, rc_43, g_43_1, rc_33, hS, c_Table_allBits (g_8_2 s1), c4, fv, hsh, eF]
  have key := down (P := fun i => ∀ H2, Fg [33, 34, 36, 38, 40, 42, 43] [] H H2 → Chs H2 c (forN (chF c T (st.getD 8 0)) i (-2)) → Wp scr (d + 6) 11 27 [some (.ref 43), some (.ref 30), some (.int wanted), some (.int (nI m)), some (.int (nI (2 ^ nW - 1 - sh))), some (.int (nI i))] [] H2 Q) (2 ^ nW - 1 - sh + 1) ?_ ?_
  · exact key _ ((fr_hpf (S := [33, 34, 36, 38, 40, 42, 43]) (ci := 1) hS rfl (by decide)).fg) (Or.inl ⟨rfl, fe_43_2 hS⟩)
  · intro H2 hF2 hH2
    rw [w11_27]
    simp (maxDischargeDepth := 12) only [w11_0, w11_1, w11_2, w11_5, w11_6, w11_9, w11_12, w11_15, w11_16, w11_19, w11_20, w11_21, w11_22, w11_24, w11_25, w11_29, w11_31, w11_34, w11_36, w11_38, w11_39, w11_40, w11_41, w11_44, w11_45, w11_46, w11_49, w11_52, w11_54, w11_57, w11_60, w11_61, w11_64, w11_65, w11_66, w11_68, w11_71, w11_72, w11_73, w11_76, w11_79, w11_81, w11_82, w11_83, w11_86, w11_89, w11_92, oK_some, cont_int, cont_intS, cont_none, cont_noneS, cont_long, cont_longS, true_and, and_true, false_and, and_false, true_implies, false_implies, not_true_eq_false, not_false_eq_true, eq_self, or_true, true_or, Option.isSome_some, hpf_length, hpa_length, bI_eq0, fi_hpa, fl_hpa, ar_hpf, fi_hpf_ne, fl_hpf_ne, ar_hpa_ne, hpa_hpa, hpf_hpf, nI_1, two_ne, fokZ, implies_true, Nat.reduceEqDiff, g_43_2, sf_43_2, fe_43_2, g_43_0, rc_3, g_3_4, rc_8, g_16_4, rc_21, rc_4, rc_6, rc_10, rc_12, rc_14, rc_17, rc_19, rc_23, rc_25, rc_27, g_30_3, sf_30_3, fe_30_3, g_34_3, sf_34_3, fe_34_3, g_45_3, sf_45_3, fe_45_3, rc_43, g_43_1, rc_33, show (nI (2 ^ nW - 1 - sh) < nI (2 ^ nW - 1 - sh + 1)) = True from eq_true (nI_lt (by omega) (by omega))]
    have ext : ∀ j, 2 ^ nW - 1 - sh + 1 + j ≤ 2 ^ nW → forN (chF c T (st.getD 8 0)) (2 ^ nW - 1 - sh + 1 + j) (-2) = forN (chF c T (st.getD 8 0)) (2 ^ nW - 1 - sh + 1) (-2) := by
      intro j
      induction j with
      | zero => intro _; rfl
      | succ j ih =>
        intro hj
        rw [← Nat.add_assoc, forN_succ, ih (by omega)]
        unfold chF
        have hgt := fre_gt nW (List.mem_range.mpr hN) sh (List.mem_range.mpr hs) (2 ^ nW - 1 - sh + 1 + j) (List.mem_range.mpr (by omega)) (by rw [fnI]; exact nI_lt (by omega) (by omega))
        rw [hsh, if_neg hgt]
    have ee := ext sh (by omega)
    rw [show 2 ^ nW - 1 - sh + 1 + sh = 2 ^ nW by omega] at ee
    rw [ee] at hQ
    exact hQ H2 hF2 hH2
  · intro i hi hw H2 hF2 hH2
    have hC2 := hC.of hF2 (by decide) (by decide)
    have hs2 := hF2.shp
    have hi2 : i < 2 ^ nW := by omega
    rw [forN_succ] at hw
    generalize forN (chF c T (st.getD 8 0)) i (-2) = best at hw hH2
    have fa := fre_and nW (List.mem_range.mpr hN) sh (List.mem_range.mpr hs) i (List.mem_range.mpr hi2)
    rw [fnI] at fa
    have fa' : (nI i &&& (nI (2 ^ nW - 1 - sh) ^^^ (-1)) = 0) = (nI i &&& nI sh = 0) := propext (decide_eq_decide.mp fa)
    rw [← hc] at hH2
    rw [w11_27]
    simp (maxDischargeDepth := 12) only [w11_0, w11_1, w11_2, w11_5, w11_6, w11_9, w11_12, w11_15, w11_16, w11_19, w11_20, w11_21, w11_22, w11_24, w11_25, w11_29, w11_31, w11_34, w11_36, w11_38, w11_39, w11_40, w11_41, w11_44, w11_45, w11_46, w11_49, w11_52, w11_54, w11_57, w11_60, w11_61, w11_64, w11_65, w11_66, w11_68, w11_71, w11_72, w11_73, w11_76, w11_79, w11_81, w11_82, w11_83, w11_86, w11_89, w11_92, oK_some, cont_int, cont_intS, cont_none, cont_noneS, cont_long, cont_longS, true_and, and_true, false_and, and_false, true_implies, false_implies, not_true_eq_false, not_false_eq_true, eq_self, or_true, true_or, Option.isSome_some, hpf_length, hpa_length, bI_eq0, fi_hpa, fl_hpa, ar_hpf, fi_hpf_ne, fl_hpf_ne, ar_hpa_ne, hpa_hpa, hpf_hpf, nI_1, two_ne, fokZ, implies_true, Nat.reduceEqDiff, g_43_2, sf_43_2, fe_43_2, g_43_0, rc_3, g_3_4, rc_8, g_16_4, rc_21, rc_4, rc_6, rc_10, rc_12, rc_14, rc_17, rc_19, rc_23, rc_25, rc_27, g_30_3, sf_30_3, fe_30_3, g_34_3, sf_34_3, fe_34_3, g_45_3, sf_45_3, fe_45_3, rc_43, g_43_1, rc_33, hs2, show (nI (2 ^ nW - 1 - sh) < nI i) = False from eq_false (nI_nlt (by omega) (by omega)), fa', c_isBetterW hC2.1 (show i < 64 by omega) hH2, hc]
    unfold chF at hw
    rw [hsh] at hw
    by_cases hz : nI i &&& nI sh = 0
    · rw [if_pos hz] at hw
      simp only [hz, oK_some, cont_int, cont_intS, cont_none, cont_noneS, cont_long, cont_longS, true_and, and_true, false_and, and_false, true_implies, false_implies, not_true_eq_false, not_false_eq_true, eq_self, or_true, true_or, Option.isSome_some, hpf_length, hpa_length, bI_eq0, fi_hpa, fl_hpa, ar_hpf, fi_hpf_ne, fl_hpf_ne, ar_hpa_ne, hpa_hpa, hpf_hpf, nI_1, two_ne, fokZ, implies_true, Nat.reduceEqDiff]
      cases hmb : mBet c (nI i) best
      · rw [hmb] at hw
        simp only [Bool.false_eq_true, if_false] at hw
        simp only [oK_some, cont_int, cont_intS, cont_none, cont_noneS, cont_long, cont_longS, true_and, and_true, false_and, and_false, true_implies, false_implies, not_true_eq_false, not_false_eq_true, eq_self, or_true, true_or, Option.isSome_some, hpf_length, hpa_length, bI_eq0, fi_hpa, fl_hpa, ar_hpf, fi_hpf_ne, fl_hpf_ne, ar_hpa_ne, hpa_hpa, hpf_hpf, nI_1, two_ne, fokZ, implies_true, Nat.reduceEqDiff]
        rw [hc] at hH2
        exact hw H2 hF2 hH2
      · rw [hmb] at hw
        simp only [if_true] at hw
        simp only [oK_some, cont_int, cont_intS, cont_none, cont_noneS, cont_long, cont_longS, true_and, and_true, false_and, and_false, true_implies, false_implies, not_true_eq_false, not_false_eq_true, eq_self, or_true, true_or, Option.isSome_some, hpf_length, hpa_length, bI_eq0, fi_hpa, fl_hpa, ar_hpf, fi_hpf_ne, fl_hpf_ne, ar_hpa_ne, hpa_hpa, hpf_hpf, nI_1, two_ne, fokZ, implies_true, Nat.reduceEqDiff, Bool.true_eq_false]
        refine w_startWith hC2 (fun H3 hF3 hW3 => ?_)
        have hC3 := hC2.1.of hF3 (by decide) (by decide)
        have hs3 := hF3.shp
        have hH3 : Chs H3 (fun s => forN (cosF R s 79 3) nW 0) best := by
          unfold Chs at hH2 ⊢
          rw [hF3.int (by decide) (by decide), hF3.int (by decide) (by decide), hF3.int (by decide) (by decide), hF3.int (by decide) (by decide)]
          exact hH2
        simp (maxDischargeDepth := 12) only [w11_0, w11_1, w11_2, w11_5, w11_6, w11_9, w11_12, w11_15, w11_16, w11_19, w11_20, w11_21, w11_22, w11_24, w11_25, w11_29, w11_31, w11_34, w11_36, w11_38, w11_39, w11_40, w11_41, w11_44, w11_45, w11_46, w11_49, w11_52, w11_54, w11_57, w11_60, w11_61, w11_64, w11_65, w11_66, w11_68, w11_71, w11_72, w11_73, w11_76, w11_79, w11_81, w11_82, w11_83, w11_86, w11_89, w11_92, oK_some, cont_int, cont_intS, cont_none, cont_noneS, cont_long, cont_longS, true_and, and_true, false_and, and_false, true_implies, false_implies, not_true_eq_false, not_false_eq_true, eq_self, or_true, true_or, Option.isSome_some, hpf_length, hpa_length, bI_eq0, fi_hpa, fl_hpa, ar_hpf, fi_hpf_ne, fl_hpf_ne, ar_hpa_ne, hpa_hpa, hpf_hpf, nI_1, two_ne, fokZ, implies_true, Nat.reduceEqDiff, g_43_2, sf_43_2, fe_43_2, g_43_0, rc_3, g_3_4, rc_8, g_16_4, rc_21, rc_4, rc_6, rc_10, rc_12, rc_14, rc_17, rc_19, rc_23, rc_25, rc_27, g_30_3, sf_30_3, fe_30_3, g_34_3, sf_34_3, fe_34_3, g_45_3, sf_45_3, fe_45_3, rc_43, g_43_1, rc_33, hF3.len, hs3]
        refine c_keepW hgo hC3 hW3 hg.wOr hm (by omega) hH3 (fun H4 hF4 hH4 => ?_)
        simp (maxDischargeDepth := 12) only [w11_0, w11_1, w11_2, w11_5, w11_6, w11_9, w11_12, w11_15, w11_16, w11_19, w11_20, w11_21, w11_22, w11_24, w11_25, w11_29, w11_31, w11_34, w11_36, w11_38, w11_39, w11_40, w11_41, w11_44, w11_45, w11_46, w11_49, w11_52, w11_54, w11_57, w11_60, w11_61, w11_64, w11_65, w11_66, w11_68, w11_71, w11_72, w11_73, w11_76, w11_79, w11_81, w11_82, w11_83, w11_86, w11_89, w11_92, oK_some, cont_int, cont_intS, cont_none, cont_noneS, cont_long, cont_longS, true_and, and_true, false_and, and_false, true_implies, false_implies, not_true_eq_false, not_false_eq_true, eq_self, or_true, true_or, Option.isSome_some, hpf_length, hpa_length, bI_eq0, fi_hpa, fl_hpa, ar_hpf, fi_hpf_ne, fl_hpf_ne, ar_hpa_ne, hpa_hpa, hpf_hpf, nI_1, two_ne, fokZ, implies_true, Nat.reduceEqDiff, g_43_2, sf_43_2, fe_43_2, g_43_0, rc_3, g_3_4, rc_8, g_16_4, rc_21, rc_4, rc_6, rc_10, rc_12, rc_14, rc_17, rc_19, rc_23, rc_25, rc_27, g_30_3, sf_30_3, fe_30_3, g_34_3, sf_34_3, fe_34_3, g_45_3, sf_45_3, fe_45_3, rc_43, g_43_1, rc_33, hF4.len]
        refine hw H4 ((hF2.trans (hF3.mono (by decide) (by decide))).trans (hF4.mono (by decide) (by decide))) ?_
        rw [hc] at hH4
        rw [hTi]
        by_cases hzz : dbt n (daysM R (allU nU) n nW nG nU m (wOr st 0 (nI i))) &&& wanted = 0
        · rw [if_pos hzz] at hH4
          rw [if_pos (decide_eq_true hzz)]
          exact hH4
        · rw [if_neg hzz] at hH4
          rw [if_neg (by simpa using hzz)]
          exact hH4
    · rw [if_neg hz] at hw
      simp only [hz, oK_some, cont_int, cont_intS, cont_none, cont_noneS, cont_long, cont_longS, true_and, and_true, false_and, and_false, true_implies, false_implies, not_true_eq_false, not_false_eq_true, eq_self, or_true, true_or, Option.isSome_some, hpf_length, hpa_length, bI_eq0, fi_hpa, fl_hpa, ar_hpf, fi_hpf_ne, fl_hpf_ne, ar_hpa_ne, hpa_hpa, hpf_hpf, nI_1, two_ne, fokZ, implies_true, Nat.reduceEqDiff]
      rw [hc] at hH2
      exact hw H2 hF2 hH2
theorem C_feign (hgo : GoC) {m : Int32} {sh : Nat} (hC : CIv H R st n nS nW nG nU nN) (hg : Gb st) (hsh : st.getD 7 0 = nI sh) (hs : sh < 2 ^ nG) (hQ : CR H Q (if whyF (decide (0 < n)) m 40 = 0 then (if sgB R st n nW nG nU m.toNatClampNeg ((1 <<< (nI n &&& 31)) - 1) < 0 then -2 else forN (cosF R (sgB R st n nW nG nU m.toNatClampNeg ((1 <<< (nI n &&& 31)) - 1)) 94 4) nG 0) else -1) (whyF (decide (0 < n)) m 40)) : Wp scr (d + 7) 147 0 [some (.ref 0), some (.int m)] [] H Q := by
  have hS := hC.shp
  obtain ⟨c2, c3, c4, c5, c6, c7, b2, b3, b4, b5, b6, b7⟩ := id hC.1.2.1
  have hs0 := sf_0_13 (v := 0) hS
  have hC0 := hC.tr (v := 0)
  by_cases hw : whyF (decide (0 < n)) m 40 = 0
  · rw [hw, if_pos rfl] at hQ
    obtain ⟨hk, hm⟩ := whyF_0 hw
    obtain ⟨em, lm⟩ := of_in (n := 40) hm (by omega)
    simp (maxDischargeDepth := 12) only [w147_0, w147_1, w147_2, w147_3, w147_6, w147_9, w147_10, w147_13, w147_16, w147_17, w147_18, w147_19, w147_22, w147_23, w147_26, w147_27, w147_30, w147_33, w147_36, w147_37, w147_40, w147_41, w147_44, w147_47, oK_some, cont_int, cont_intS, cont_none, cont_noneS, cont_long, cont_longS, true_and, and_true, false_and, and_false, true_implies, false_implies, not_true_eq_false, not_false_eq_true, eq_self, or_true, true_or, Option.isSome_some, hpf_length, hpa_length, bI_eq0, fi_hpa, fl_hpa, ar_hpf, fi_hpf_ne, fl_hpf_ne, ar_hpa_ne, hpa_hpa, hpf_hpf, nI_1, two_ne, fokZ, implies_true, Nat.reduceEqDiff, rc_0, g_0_13, sf_0_13, fe_0_13, g_0_7, rc_43, g_0_5, rc_30, g_0_2, rc_3, g_3_2, rc_4, g_16_2, rc_17, rc_6, rc_8, rc_10, rc_12, rc_14, rc_19, rc_21, rc_23, rc_25, rc_27, hS, c_daysTrouble hC, hw, hs0, c_Table_allBits (g_4_2 hs0), c2]
    generalize m.toNatClampNeg = mm at em lm hQ
    subst em
    refine c_seekG hgo hC0 hg lm hsh hs (fun H2 hF2 h2 => ?_)
    have hs2 := hF2.shp
    simp (maxDischargeDepth := 12) only [w147_0, w147_1, w147_2, w147_3, w147_6, w147_9, w147_10, w147_13, w147_16, w147_17, w147_18, w147_19, w147_22, w147_23, w147_26, w147_27, w147_30, w147_33, w147_36, w147_37, w147_40, w147_41, w147_44, w147_47, oK_some, cont_int, cont_intS, cont_none, cont_noneS, cont_long, cont_longS, true_and, and_true, false_and, and_false, true_implies, false_implies, not_true_eq_false, not_false_eq_true, eq_self, or_true, true_or, Option.isSome_some, hpf_length, hpa_length, bI_eq0, fi_hpa, fl_hpa, ar_hpf, fi_hpf_ne, fl_hpf_ne, ar_hpa_ne, hpa_hpa, hpf_hpf, nI_1, two_ne, fokZ, implies_true, Nat.reduceEqDiff, rc_0, g_0_13, sf_0_13, fe_0_13, g_0_7, rc_43, g_0_5, rc_30, g_0_2, rc_3, g_3_2, rc_4, g_16_2, rc_17, rc_6, rc_8, rc_10, rc_12, rc_14, rc_19, rc_21, rc_23, rc_25, rc_27, hF2.len, hs2, c_chCoins hs2 h2]
    exact cr_ok hS hF2 (by decide) (by decide) (by decide) (by decide) hQ
  · rw [if_neg hw] at hQ
    simp (maxDischargeDepth := 12) only [w147_0, w147_1, w147_2, w147_3, w147_6, w147_9, w147_10, w147_13, w147_16, w147_17, w147_18, w147_19, w147_22, w147_23, w147_26, w147_27, w147_30, w147_33, w147_36, w147_37, w147_40, w147_41, w147_44, w147_47, oK_some, cont_int, cont_intS, cont_none, cont_noneS, cont_long, cont_longS, true_and, and_true, false_and, and_false, true_implies, false_implies, not_true_eq_false, not_false_eq_true, eq_self, or_true, true_or, Option.isSome_some, hpf_length, hpa_length, bI_eq0, fi_hpa, fl_hpa, ar_hpf, fi_hpf_ne, fl_hpf_ne, ar_hpa_ne, hpa_hpa, hpf_hpf, nI_1, two_ne, fokZ, implies_true, Nat.reduceEqDiff, rc_0, g_0_13, sf_0_13, fe_0_13, g_0_7, rc_43, g_0_5, rc_30, g_0_2, rc_3, g_3_2, rc_4, g_16_2, rc_17, rc_6, rc_8, rc_10, rc_12, rc_14, rc_19, rc_21, rc_23, rc_25, rc_27, hS, c_daysTrouble hC, hw]
    exact cr_no hS hQ
theorem C_feignSigns (hgo : GoC) {m : Int32} {sh : Nat} (hC : CIv H R st n nS nW nG nU nN) (hg : Gb st) (hsh : st.getD 7 0 = nI sh) (hs : sh < 2 ^ nG) (hQ : CR H Q (if whyF (decide (0 < n)) m 40 = 0 then sgB R st n nW nG nU m.toNatClampNeg ((1 <<< (nI n &&& 31)) - 1) else -1) (whyF (decide (0 < n)) m 40)) : Wp scr (d + 7) 148 0 [some (.ref 0), some (.int m)] [] H Q := by
  have hS := hC.shp
  obtain ⟨c2, c3, c4, c5, c6, c7, b2, b3, b4, b5, b6, b7⟩ := id hC.1.2.1
  have hs0 := sf_0_13 (v := 0) hS
  have hC0 := hC.tr (v := 0)
  by_cases hw : whyF (decide (0 < n)) m 40 = 0
  · rw [hw, if_pos rfl] at hQ
    obtain ⟨hk, hm⟩ := whyF_0 hw
    obtain ⟨em, lm⟩ := of_in (n := 40) hm (by omega)
    simp (maxDischargeDepth := 12) only [w148_0, w148_1, w148_2, w148_3, w148_6, w148_9, w148_10, w148_13, w148_16, w148_17, w148_18, w148_19, w148_22, w148_23, w148_26, w148_27, w148_30, w148_33, w148_36, w148_37, w148_40, w148_41, w148_44, w148_47, oK_some, cont_int, cont_intS, cont_none, cont_noneS, cont_long, cont_longS, true_and, and_true, false_and, and_false, true_implies, false_implies, not_true_eq_false, not_false_eq_true, eq_self, or_true, true_or, Option.isSome_some, hpf_length, hpa_length, bI_eq0, fi_hpa, fl_hpa, ar_hpf, fi_hpf_ne, fl_hpf_ne, ar_hpa_ne, hpa_hpa, hpf_hpf, nI_1, two_ne, fokZ, implies_true, Nat.reduceEqDiff, rc_0, g_0_13, sf_0_13, fe_0_13, g_0_7, rc_43, g_0_5, rc_30, g_0_2, rc_3, g_3_2, rc_4, g_16_2, rc_17, rc_6, rc_8, rc_10, rc_12, rc_14, rc_19, rc_21, rc_23, rc_25, rc_27, hS, c_daysTrouble hC, hw, hs0, c_Table_allBits (g_4_2 hs0), c2]
    generalize m.toNatClampNeg = mm at em lm hQ
    subst em
    refine c_seekG hgo hC0 hg lm hsh hs (fun H2 hF2 h2 => ?_)
    have hs2 := hF2.shp
    simp (maxDischargeDepth := 12) only [w148_0, w148_1, w148_2, w148_3, w148_6, w148_9, w148_10, w148_13, w148_16, w148_17, w148_18, w148_19, w148_22, w148_23, w148_26, w148_27, w148_30, w148_33, w148_36, w148_37, w148_40, w148_41, w148_44, w148_47, oK_some, cont_int, cont_intS, cont_none, cont_noneS, cont_long, cont_longS, true_and, and_true, false_and, and_false, true_implies, false_implies, not_true_eq_false, not_false_eq_true, eq_self, or_true, true_or, Option.isSome_some, hpf_length, hpa_length, bI_eq0, fi_hpa, fl_hpa, ar_hpf, fi_hpf_ne, fl_hpf_ne, ar_hpa_ne, hpa_hpa, hpf_hpf, nI_1, two_ne, fokZ, implies_true, Nat.reduceEqDiff, rc_0, g_0_13, sf_0_13, fe_0_13, g_0_7, rc_43, g_0_5, rc_30, g_0_2, rc_3, g_3_2, rc_4, g_16_2, rc_17, rc_6, rc_8, rc_10, rc_12, rc_14, rc_19, rc_21, rc_23, rc_25, rc_27, hF2.len, hs2, c_chBits hs2 h2]
    exact cr_ok hS hF2 (by decide) (by decide) (by decide) (by decide) hQ
  · rw [if_neg hw] at hQ
    simp (maxDischargeDepth := 12) only [w148_0, w148_1, w148_2, w148_3, w148_6, w148_9, w148_10, w148_13, w148_16, w148_17, w148_18, w148_19, w148_22, w148_23, w148_26, w148_27, w148_30, w148_33, w148_36, w148_37, w148_40, w148_41, w148_44, w148_47, oK_some, cont_int, cont_intS, cont_none, cont_noneS, cont_long, cont_longS, true_and, and_true, false_and, and_false, true_implies, false_implies, not_true_eq_false, not_false_eq_true, eq_self, or_true, true_or, Option.isSome_some, hpf_length, hpa_length, bI_eq0, fi_hpa, fl_hpa, ar_hpf, fi_hpf_ne, fl_hpf_ne, ar_hpa_ne, hpa_hpa, hpf_hpf, nI_1, two_ne, fokZ, implies_true, Nat.reduceEqDiff, rc_0, g_0_13, sf_0_13, fe_0_13, g_0_7, rc_43, g_0_5, rc_30, g_0_2, rc_3, g_3_2, rc_4, g_16_2, rc_17, rc_6, rc_8, rc_10, rc_12, rc_14, rc_19, rc_21, rc_23, rc_25, rc_27, hS, c_daysTrouble hC, hw]
    exact cr_no hS hQ
theorem C_feignFor (hgo : GoC) {k m : Int32} {sh : Nat} (hC : CIv H R st n nS nW nG nU nN) (hg : Gb st) (hsh : st.getD 7 0 = nI sh) (hs : sh < 2 ^ nG) (hQ : CR H Q (if whyF (decide (0 ≤ k ∧ k < nI n)) m 40 = 0 then (if sgB R st n nW nG nU m.toNatClampNeg (1 <<< (k &&& 31)) < 0 then -2 else forN (cosF R (sgB R st n nW nG nU m.toNatClampNeg (1 <<< (k &&& 31))) 94 4) nG 0) else -1) (whyF (decide (0 ≤ k ∧ k < nI n)) m 40)) : Wp scr (d + 7) 149 0 [some (.ref 0), some (.int k), some (.int m)] [] H Q := by
  have hS := hC.shp
  obtain ⟨c2, c3, c4, c5, c6, c7, b2, b3, b4, b5, b6, b7⟩ := id hC.1.2.1
  have hs0 := sf_0_13 (v := 0) hS
  have hC0 := hC.tr (v := 0)
  by_cases hw : whyF (decide (0 ≤ k ∧ k < nI n)) m 40 = 0
  · rw [hw, if_pos rfl] at hQ
    obtain ⟨hk, hm⟩ := whyF_0 hw
    obtain ⟨em, lm⟩ := of_in (n := 40) hm (by omega)
    simp (maxDischargeDepth := 12) only [w149_0, w149_1, w149_2, w149_3, w149_4, w149_7, w149_10, w149_11, w149_14, w149_17, w149_18, w149_19, w149_20, w149_23, w149_24, w149_27, w149_28, w149_29, w149_30, w149_31, w149_34, w149_35, w149_38, w149_41, oK_some, cont_int, cont_intS, cont_none, cont_noneS, cont_long, cont_longS, true_and, and_true, false_and, and_false, true_implies, false_implies, not_true_eq_false, not_false_eq_true, eq_self, or_true, true_or, Option.isSome_some, hpf_length, hpa_length, bI_eq0, fi_hpa, fl_hpa, ar_hpf, fi_hpf_ne, fl_hpf_ne, ar_hpa_ne, hpa_hpa, hpf_hpf, nI_1, two_ne, fokZ, implies_true, Nat.reduceEqDiff, rc_0, g_0_13, sf_0_13, fe_0_13, g_0_7, rc_43, g_0_5, rc_30, hS, c_rowDaysTrouble hC, hw, hs0]
    generalize m.toNatClampNeg = mm at em lm hQ
    subst em
    refine c_seekG hgo hC0 hg lm hsh hs (fun H2 hF2 h2 => ?_)
    have hs2 := hF2.shp
    simp (maxDischargeDepth := 12) only [w149_0, w149_1, w149_2, w149_3, w149_4, w149_7, w149_10, w149_11, w149_14, w149_17, w149_18, w149_19, w149_20, w149_23, w149_24, w149_27, w149_28, w149_29, w149_30, w149_31, w149_34, w149_35, w149_38, w149_41, oK_some, cont_int, cont_intS, cont_none, cont_noneS, cont_long, cont_longS, true_and, and_true, false_and, and_false, true_implies, false_implies, not_true_eq_false, not_false_eq_true, eq_self, or_true, true_or, Option.isSome_some, hpf_length, hpa_length, bI_eq0, fi_hpa, fl_hpa, ar_hpf, fi_hpf_ne, fl_hpf_ne, ar_hpa_ne, hpa_hpa, hpf_hpf, nI_1, two_ne, fokZ, implies_true, Nat.reduceEqDiff, rc_0, g_0_13, sf_0_13, fe_0_13, g_0_7, rc_43, g_0_5, rc_30, hF2.len, hs2, c_chCoins hs2 h2]
    exact cr_ok hS hF2 (by decide) (by decide) (by decide) (by decide) hQ
  · rw [if_neg hw] at hQ
    simp (maxDischargeDepth := 12) only [w149_0, w149_1, w149_2, w149_3, w149_4, w149_7, w149_10, w149_11, w149_14, w149_17, w149_18, w149_19, w149_20, w149_23, w149_24, w149_27, w149_28, w149_29, w149_30, w149_31, w149_34, w149_35, w149_38, w149_41, oK_some, cont_int, cont_intS, cont_none, cont_noneS, cont_long, cont_longS, true_and, and_true, false_and, and_false, true_implies, false_implies, not_true_eq_false, not_false_eq_true, eq_self, or_true, true_or, Option.isSome_some, hpf_length, hpa_length, bI_eq0, fi_hpa, fl_hpa, ar_hpf, fi_hpf_ne, fl_hpf_ne, ar_hpa_ne, hpa_hpa, hpf_hpf, nI_1, two_ne, fokZ, implies_true, Nat.reduceEqDiff, rc_0, g_0_13, sf_0_13, fe_0_13, g_0_7, rc_43, g_0_5, rc_30, hS, c_rowDaysTrouble hC, hw]
    exact cr_no hS hQ
theorem waT_eq {m : Nat} (hn : n ≤ 7) : waT R st n nW nG nU m = (fun set => decide (dbt n (daysM R (allU nU) n nW nG nU m (wOr st 0 (nI set))) &&& ((1 <<< (nI n &&& 31)) - 1) = 0)) := by
  funext set
  unfold waT
  have h := dbN_lt (n := n) (ws := daysM R (allU nU) n nW nG nU m (wOr st 0 (nI set)))
  have hp : 0 < 2 ^ n := Nat.pow_pos (by decide)
  have h2 : 2 ^ n ≤ 2 ^ 7 := p2_lt hn
  rw [dbN_dbt (by omega), p2 (by omega), show (1 : Int32) = nI 1 from rfl, pk_sub hp, pk_andN (by omega) n (pk_tn (by omega)), Nat.mod_eq_of_lt h]
theorem C_walls (hgo : GoC) {m : Int32} {up : Nat} (hC : CIv H R st n nS nW nG nU nN) (hg : Gb st) (hsh : st.getD 8 0 = nI up) (hs : up < 2 ^ nW) (hQ : CR H Q (if whyF (decide (0 < n)) m 40 = 0 then (if waB R st n nW nG nU m.toNatClampNeg < 0 then -2 else forN (cosF R (waB R st n nW nG nU m.toNatClampNeg) 79 3) nW 0) else -1) (whyF (decide (0 < n)) m 40)) : Wp scr (d + 7) 151 0 [some (.ref 0), some (.int m)] [] H Q := by
  have hS := hC.shp
  obtain ⟨c2, c3, c4, c5, c6, c7, b2, b3, b4, b5, b6, b7⟩ := id hC.1.2.1
  have hs0 := sf_0_13 (v := 0) hS
  have hC0 := hC.tr (v := 0)
  by_cases hw : whyF (decide (0 < n)) m 40 = 0
  · rw [hw, if_pos rfl] at hQ
    obtain ⟨hk, hm⟩ := whyF_0 hw
    obtain ⟨em, lm⟩ := of_in (n := 40) hm (by omega)
    simp (maxDischargeDepth := 12) only [w151_0, w151_1, w151_2, w151_3, w151_6, w151_9, w151_10, w151_13, w151_16, w151_17, w151_18, w151_19, w151_22, w151_23, w151_26, w151_27, w151_30, w151_33, w151_36, w151_37, w151_40, w151_41, w151_44, w151_47, oK_some, cont_int, cont_intS, cont_none, cont_noneS, cont_long, cont_longS, true_and, and_true, false_and, and_false, true_implies, false_implies, not_true_eq_false, not_false_eq_true, eq_self, or_true, true_or, Option.isSome_some, hpf_length, hpa_length, bI_eq0, fi_hpa, fl_hpa, ar_hpf, fi_hpf_ne, fl_hpf_ne, ar_hpa_ne, hpa_hpa, hpf_hpf, nI_1, two_ne, fokZ, implies_true, Nat.reduceEqDiff, rc_0, g_0_13, sf_0_13, fe_0_13, g_0_7, rc_43, g_0_5, rc_30, g_0_2, rc_3, g_3_2, rc_4, g_16_2, rc_17, rc_6, rc_8, rc_10, rc_12, rc_14, rc_19, rc_21, rc_23, rc_25, rc_27, hS, c_daysTrouble hC, hw, hs0, c_Table_allBits (g_4_2 hs0), c2]
    generalize m.toNatClampNeg = mm at em lm hQ
    subst em
    unfold waB at hQ
    rw [waT_eq b2] at hQ
    refine c_seekW hgo hC0 hg lm hsh hs (fun H2 hF2 h2 => ?_)
    have hs2 := hF2.shp
    simp (maxDischargeDepth := 12) only [w151_0, w151_1, w151_2, w151_3, w151_6, w151_9, w151_10, w151_13, w151_16, w151_17, w151_18, w151_19, w151_22, w151_23, w151_26, w151_27, w151_30, w151_33, w151_36, w151_37, w151_40, w151_41, w151_44, w151_47, oK_some, cont_int, cont_intS, cont_none, cont_noneS, cont_long, cont_longS, true_and, and_true, false_and, and_false, true_implies, false_implies, not_true_eq_false, not_false_eq_true, eq_self, or_true, true_or, Option.isSome_some, hpf_length, hpa_length, bI_eq0, fi_hpa, fl_hpa, ar_hpf, fi_hpf_ne, fl_hpf_ne, ar_hpa_ne, hpa_hpa, hpf_hpf, nI_1, two_ne, fokZ, implies_true, Nat.reduceEqDiff, rc_0, g_0_13, sf_0_13, fe_0_13, g_0_7, rc_43, g_0_5, rc_30, g_0_2, rc_3, g_3_2, rc_4, g_16_2, rc_17, rc_6, rc_8, rc_10, rc_12, rc_14, rc_19, rc_21, rc_23, rc_25, rc_27, hF2.len, hs2, c_chCoins hs2 h2]
    exact cr_ok hS hF2 (by decide) (by decide) (by decide) (by decide) hQ
  · rw [if_neg hw] at hQ
    simp (maxDischargeDepth := 12) only [w151_0, w151_1, w151_2, w151_3, w151_6, w151_9, w151_10, w151_13, w151_16, w151_17, w151_18, w151_19, w151_22, w151_23, w151_26, w151_27, w151_30, w151_33, w151_36, w151_37, w151_40, w151_41, w151_44, w151_47, oK_some, cont_int, cont_intS, cont_none, cont_noneS, cont_long, cont_longS, true_and, and_true, false_and, and_false, true_implies, false_implies, not_true_eq_false, not_false_eq_true, eq_self, or_true, true_or, Option.isSome_some, hpf_length, hpa_length, bI_eq0, fi_hpa, fl_hpa, ar_hpf, fi_hpf_ne, fl_hpf_ne, ar_hpa_ne, hpa_hpa, hpf_hpf, nI_1, two_ne, fokZ, implies_true, Nat.reduceEqDiff, rc_0, g_0_13, sf_0_13, fe_0_13, g_0_7, rc_43, g_0_5, rc_30, g_0_2, rc_3, g_3_2, rc_4, g_16_2, rc_17, rc_6, rc_8, rc_10, rc_12, rc_14, rc_19, rc_21, rc_23, rc_25, rc_27, hS, c_daysTrouble hC, hw]
    exact cr_no hS hQ
theorem C_wallsUp (hgo : GoC) {m : Int32} {up : Nat} (hC : CIv H R st n nS nW nG nU nN) (hg : Gb st) (hsh : st.getD 8 0 = nI up) (hs : up < 2 ^ nW) (hQ : CR H Q (if whyF (decide (0 < n)) m 40 = 0 then waB R st n nW nG nU m.toNatClampNeg else -1) (whyF (decide (0 < n)) m 40)) : Wp scr (d + 7) 152 0 [some (.ref 0), some (.int m)] [] H Q := by
  have hS := hC.shp
  obtain ⟨c2, c3, c4, c5, c6, c7, b2, b3, b4, b5, b6, b7⟩ := id hC.1.2.1
  have hs0 := sf_0_13 (v := 0) hS
  have hC0 := hC.tr (v := 0)
  by_cases hw : whyF (decide (0 < n)) m 40 = 0
  · rw [hw, if_pos rfl] at hQ
    obtain ⟨hk, hm⟩ := whyF_0 hw
    obtain ⟨em, lm⟩ := of_in (n := 40) hm (by omega)
    simp (maxDischargeDepth := 12) only [w152_0, w152_1, w152_2, w152_3, w152_6, w152_9, w152_10, w152_13, w152_16, w152_17, w152_18, w152_19, w152_22, w152_23, w152_26, w152_27, w152_30, w152_33, w152_36, w152_37, w152_40, w152_41, w152_44, w152_47, oK_some, cont_int, cont_intS, cont_none, cont_noneS, cont_long, cont_longS, true_and, and_true, false_and, and_false, true_implies, false_implies, not_true_eq_false, not_false_eq_true, eq_self, or_true, true_or, Option.isSome_some, hpf_length, hpa_length, bI_eq0, fi_hpa, fl_hpa, ar_hpf, fi_hpf_ne, fl_hpf_ne, ar_hpa_ne, hpa_hpa, hpf_hpf, nI_1, two_ne, fokZ, implies_true, Nat.reduceEqDiff, rc_0, g_0_13, sf_0_13, fe_0_13, g_0_7, rc_43, g_0_5, rc_30, g_0_2, rc_3, g_3_2, rc_4, g_16_2, rc_17, rc_6, rc_8, rc_10, rc_12, rc_14, rc_19, rc_21, rc_23, rc_25, rc_27, hS, c_daysTrouble hC, hw, hs0, c_Table_allBits (g_4_2 hs0), c2]
    generalize m.toNatClampNeg = mm at em lm hQ
    subst em
    unfold waB at hQ
    rw [waT_eq b2] at hQ
    refine c_seekW hgo hC0 hg lm hsh hs (fun H2 hF2 h2 => ?_)
    have hs2 := hF2.shp
    simp (maxDischargeDepth := 12) only [w152_0, w152_1, w152_2, w152_3, w152_6, w152_9, w152_10, w152_13, w152_16, w152_17, w152_18, w152_19, w152_22, w152_23, w152_26, w152_27, w152_30, w152_33, w152_36, w152_37, w152_40, w152_41, w152_44, w152_47, oK_some, cont_int, cont_intS, cont_none, cont_noneS, cont_long, cont_longS, true_and, and_true, false_and, and_false, true_implies, false_implies, not_true_eq_false, not_false_eq_true, eq_self, or_true, true_or, Option.isSome_some, hpf_length, hpa_length, bI_eq0, fi_hpa, fl_hpa, ar_hpf, fi_hpf_ne, fl_hpf_ne, ar_hpa_ne, hpa_hpa, hpf_hpf, nI_1, two_ne, fokZ, implies_true, Nat.reduceEqDiff, rc_0, g_0_13, sf_0_13, fe_0_13, g_0_7, rc_43, g_0_5, rc_30, g_0_2, rc_3, g_3_2, rc_4, g_16_2, rc_17, rc_6, rc_8, rc_10, rc_12, rc_14, rc_19, rc_21, rc_23, rc_25, rc_27, hF2.len, hs2, c_chBits hs2 h2]
    exact cr_ok hS hF2 (by decide) (by decide) (by decide) (by decide) hQ
  · rw [if_neg hw] at hQ
    simp (maxDischargeDepth := 12) only [w152_0, w152_1, w152_2, w152_3, w152_6, w152_9, w152_10, w152_13, w152_16, w152_17, w152_18, w152_19, w152_22, w152_23, w152_26, w152_27, w152_30, w152_33, w152_36, w152_37, w152_40, w152_41, w152_44, w152_47, oK_some, cont_int, cont_intS, cont_none, cont_noneS, cont_long, cont_longS, true_and, and_true, false_and, and_false, true_implies, false_implies, not_true_eq_false, not_false_eq_true, eq_self, or_true, true_or, Option.isSome_some, hpf_length, hpa_length, bI_eq0, fi_hpa, fl_hpa, ar_hpf, fi_hpf_ne, fl_hpf_ne, ar_hpa_ne, hpa_hpa, hpf_hpf, nI_1, two_ne, fokZ, implies_true, Nat.reduceEqDiff, rc_0, g_0_13, sf_0_13, fe_0_13, g_0_7, rc_43, g_0_5, rc_30, g_0_2, rc_3, g_3_2, rc_4, g_16_2, rc_17, rc_6, rc_8, rc_10, rc_12, rc_14, rc_19, rc_21, rc_23, rc_25, rc_27, hS, c_daysTrouble hC, hw]
    exact cr_no hS hQ
end CCH
