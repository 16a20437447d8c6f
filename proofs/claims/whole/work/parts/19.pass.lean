/-! ===== Walk.pass; State.copy, begin; Walk.startWith ===== -/
def z7 : List Int32 := List.replicate 7 0
/-- a day: the new faiths, whether any changed -/
def hdA (sg ru rw : List Int32) (nG nU : Nat) (sh rum gone : Int32) : List Int32 := if 20 < gone then z7 else forN (hruF ru rw rum gone) nU (forN (hsgF sg sh gone) nG z7)
def dayA (sg ru rw ss : List Int32) (nG nU nS n : Nat) (sh rum op gone : Int32) (f : List Int32) : List Int32 × Bool :=
  forN (setF rw (forN (seeF ss op f) nS (z7, z7)).1 (forN (seeF ss op f) nS (z7, z7)).2 (hdA sg ru rw nG nU sh rum gone)) n (f, false)
theorem dayA_len {sg ru rw ss : List Int32} {nG nU nS n : Nat} {sh rum op gone : Int32} {f : List Int32} : (dayA sg ru rw ss nG nU nS n sh rum op gone f).1.length = f.length := by
  unfold dayA; rw [setF_len]
/-- the counts of told's tables -/
def Cn (H : List AC) (n nS nW nG nU nN : Nat) : Prop := fi H 4 2 = nI n ∧ fi H 6 2 = nI nS ∧ fi H 8 2 = nI nW ∧ fi H 10 2 = nI nG ∧ fi H 12 2 = nI nU ∧ fi H 14 2 = nI nN ∧ n ≤ 7 ∧ nS ≤ 10 ∧ nW ≤ 5 ∧ nG ≤ 6 ∧ nU ≤ 5 ∧ nN ≤ 5
theorem Cn.of {S : List Nat} {H H' : List AC} {n nS nW nG nU nN : Nat} (h : Cn H n nS nW nG nU nN) (hF : Fr S H H') (h4 : 4 ∉ S) (h6 : 6 ∉ S) (h8 : 8 ∉ S) (h10 : 10 ∉ S) (h12 : 12 ∉ S) (h14 : 14 ∉ S) : Cn H' n nS nW nG nU nN := by
  unfold Cn at h ⊢
  rw [hF.int h4, hF.int h6, hF.int h8, hF.int h10, hF.int h12, hF.int h14]
  exact h
section PASS
variable {scr : List Int32} {d n nS nW nG nU nN : Nat} {H : List AC} {Q : Option Value → List AC → Prop}
theorem c_pass (hS : Shp H) (hc : Cn H n nS nW nG nU nN)
    (hQ : ∀ H', Fr [34, 36, 38, 40, 42] H H' → ar H' 36 = (dayA (ar H 11) (ar H 13) (ar H 5) (ar H 7) nG nU nS n (fi H 34 2) (fi H 33 6) (fi H 33 5) (fi H 34 1) (ar H 36)).1 → fi H' 34 1 = fi H 34 1 + 1 → fi H' 34 2 = fi H 34 2 → fi H' 34 3 = fi H 34 3 → Q (some (.int (bI (dayA (ar H 11) (ar H 13) (ar H 5) (ar H 7) nG nU nS n (fi H 34 2) (fi H 33 6) (fi H 33 5) (fi H 34 1) (ar H 36)).2))) H') : Wp scr (d + 3) 112 0 [some (.ref 33)] [] H Q := by
  obtain ⟨c4, c6, c8, c10, c12, c14, b4, b6, b8, b10, b12, b14⟩ := hc
  have z38 : List.replicate (ar H 38).length (0 : Int32) = z7 := by rw [gn_38 hS]; rfl
  have hs1 : Shp (hpa H 38 z7) := shp_hpa hS (by rw [gn_38 hS]; rfl)
  have z40 : List.replicate (ar (hpa H 38 z7) 40).length (0 : Int32) = z7 := by rw [gn_40 hs1]; rfl
  have hs2 : Shp (hpa (hpa H 38 z7) 40 z7) := shp_hpa hs1 (by rw [gn_40 hs1]; rfl)
  have z42 : List.replicate (ar (hpa (hpa H 38 z7) 40 z7) 42).length (0 : Int32) = z7 := by rw [gn_42 hs2]; rfl
  have hs3 : Shp (hpa (hpa (hpa H 38 z7) 40 z7) 42 z7) := shp_hpa hs2 (by rw [gn_42 hs2]; rfl)
  have x38 : (ar H 38).length < 2147483648 := by rw [gn_38 hS]; decide
  have x40 : (ar (hpa H 38 z7) 40).length < 2147483648 := by rw [gn_40 hs1]; decide
  have x42 : (ar (hpa (hpa H 38 z7) 40 z7) 42).length < 2147483648 := by rw [gn_42 hs2]; decide
  -- what is the same for both roads: from seeOthers on
  have tail : ∀ hd : List Int32, hd.length = 7 → hd = hdA (ar H 11) (ar H 13) (ar H 5) nG nU (fi H 34 2) (fi H 33 6) (fi H 34 1) → Wp scr (d + 3) 112 41 [some (.ref 33)] [] (hpa (hpa (hpa H 38 hd) 40 z7) 42 z7) Q := by
    intro hd hl he
    have t1 : Shp (hpa H 38 hd) := shp_hpa hS (by rw [hl, gn_38 hS])
    have t2 : Shp (hpa (hpa H 38 hd) 40 z7) := shp_hpa t1 (by rw [gn_40 t1]; rfl)
    have t3 : Shp (hpa (hpa (hpa H 38 hd) 40 z7) 42 z7) := shp_hpa t2 (by rw [gn_42 t2]; rfl)
    have e6 : fi (hpa (hpa (hpa H 38 hd) 40 z7) 42 z7) 6 2 = nI nS := by rw [fi_hpa, fi_hpa, fi_hpa]; exact c6
    have a40 : ar (hpa (hpa (hpa H 38 hd) 40 z7) 42 z7) 40 = z7 := by rw [ar_hpa_ne (by decide), ar_hpa_eq (ga_40 t1)]
    have a42 : ar (hpa (hpa (hpa H 38 hd) 40 z7) 42 z7) 42 = z7 := by rw [ar_hpa_eq (ga_42 t2)]
    have a7 : ar (hpa (hpa (hpa H 38 hd) 40 z7) 42 z7) 7 = ar H 7 := by rw [ar_hpa_ne (by decide), ar_hpa_ne (by decide), ar_hpa_ne (by decide)]
    have a36 : ar (hpa (hpa (hpa H 38 hd) 40 z7) 42 z7) 36 = ar H 36 := by rw [ar_hpa_ne (by decide), ar_hpa_ne (by decide), ar_hpa_ne (by decide)]
    have f5 : fi (hpa (hpa (hpa H 38 hd) 40 z7) 42 z7) 33 5 = fi H 33 5 := by rw [fi_hpa, fi_hpa, fi_hpa]
    simp only [w112_41, w112_42, rc_33 t3, c_seeOthers t3 e6 (by omega), true_and, a40, a42, a7, a36, f5, cont_none, hpa_length]
    have hl2 := seeF_len (ss := ar H 7) (f := ar H 36) (op := fi H 33 5) nS (z7, z7)
    generalize hq : forN (seeF (ar H 7) (fi H 33 5) (ar H 36)) nS (z7, z7) = q at hl2 ⊢
    have e1 : hpa (hpa (hpa (hpa (hpa H 38 hd) 40 z7) 42 z7) 40 q.1) 42 q.2 = hpa (hpa (hpa H 38 hd) 40 q.1) 42 q.2 := by
      rw [hpa_comm (a := 42) (b := 40) (by decide), hpa_hpa, hpa_hpa]
    rw [e1]
    have u2 : Shp (hpa (hpa H 38 hd) 40 q.1) := shp_hpa t1 (by rw [gn_40 t1, hl2.1]; rfl)
    have u3 : Shp (hpa (hpa (hpa H 38 hd) 40 q.1) 42 q.2) := shp_hpa u2 (by rw [gn_42 u2, hl2.2]; rfl)
    generalize hU : hpa (hpa (hpa H 38 hd) 40 q.1) 42 q.2 = U at u3 ⊢
    have fU : ∀ a f, fi U a f = fi H a f := fun a f => by rw [← hU, fi_hpa, fi_hpa, fi_hpa]
    have u4 : Shp (hpf U 34 1 (.int (fi U 34 1 + 1))) := shp_hpf u3 (ci := 8) rfl
    have e4 : fi (hpf U 34 1 (.int (fi U 34 1 + 1))) 4 2 = nI n := by rw [fi_hpf_ne (by decide), fU]; exact c4
    simp only [w112_45, w112_46, w112_49, w112_50, w112_53, w112_54, w112_55, w112_58, w112_59, w112_62, g_33_1 u3, g_34_1 u3, oK_some, Option.isSome_some, true_and, rc_33 u4, c_settle u4 e4 (by omega), cont_int, bI_or, hpa_length, ar_hpf]
    have aU5 : ar U 5 = ar H 5 := by rw [← hU, ar_hpa_ne (by decide), ar_hpa_ne (by decide), ar_hpa_ne (by decide)]
    have aU36 : ar U 36 = ar H 36 := by rw [← hU, ar_hpa_ne (by decide), ar_hpa_ne (by decide), ar_hpa_ne (by decide)]
    have aU38 : ar U 38 = hd := by rw [← hU, ar_hpa_ne (by decide), ar_hpa_ne (by decide), ar_hpa_eq (ga_38 hS)]
    have aU40 : ar U 40 = q.1 := by rw [← hU, ar_hpa_ne (by decide), ar_hpa_eq (ga_40 t1)]
    have aU42 : ar U 42 = q.2 := by rw [← hU, ar_hpa_eq (ga_42 u2)]
    have eD : dayA (ar H 11) (ar H 13) (ar H 5) (ar H 7) nG nU nS n (fi H 34 2) (fi H 33 6) (fi H 33 5) (fi H 34 1) (ar H 36) = forN (setF (ar H 5) q.1 q.2 hd) n (ar H 36, false) := by
      unfold dayA
      rw [hq, ← he]
    rw [eD] at hQ
    rw [aU5, aU36, aU38, aU40, aU42]
    have hlD : (forN (setF (ar H 5) q.1 q.2 hd) n (ar H 36, false)).1.length = 7 := by rw [setF_len, gn_36 hS]
    generalize forN (setF (ar H 5) q.1 q.2 hd) n (ar H 36, false) = p at hQ hlD ⊢
    have frU : Fr [34, 36, 38, 40, 42] H U := by
      rw [← hU]
      exact ((fr_hpa hS (by rw [hl, gn_38 hS]) (by decide)).trans (fr_hpa t1 (by rw [gn_40 t1, hl2.1]; rfl) (by decide))).trans (fr_hpa u2 (by rw [gn_42 u2, hl2.2]; rfl) (by decide))
    refine hQ _ ((frU.trans (fr_hpf u3 (ci := 8) rfl (by decide))).trans (fr_hpa u4 (by rw [hlD, gn_36 u4]) (by decide))) ?_ ?_ ?_ ?_
    · rw [ar_hpa_eq (ga_36 u4)]
    · rw [fi_hpa, fi_hpf_eq (g_34_1 u3), fU]
    · rw [fi_hpa, fi_hpf_ne (by decide), fU]
    · rw [fi_hpa, fi_hpf_ne (by decide), fU]
  simp only [w112_0, w112_1, w112_4, w112_7, w112_8, w112_11, w112_14, w112_15, w112_18, w112_21, w112_22, w112_25, w112_28, w112_30, g_33_2 hS, g_33_3 hs1, g_33_4 hs2, g_33_1 hs3, g_34_1 hs3, rc_37 hS, rc_39 hs1, rc_41 hs2, c_Cells_clear (g_37_0 hS) (ga_38 hS) x38, c_Cells_clear (g_39_0 hs1) (ga_40 hs1) x40, c_Cells_clear (g_41_0 hs2) (ga_42 hs2) x42, z38, z40, z42, oK_some, true_and, cont_none, hpa_length, fi_hpa]
  refine ⟨fun hg => ?_, fun hg => ?_⟩
  · exact tail z7 rfl (by unfold hdA; rw [if_pos hg])
  · have e10 : fi (hpa (hpa (hpa H 38 z7) 40 z7) 42 z7) 10 2 = nI nG := by rw [fi_hpa, fi_hpa, fi_hpa]; exact c10
    have a38 : ar (hpa (hpa (hpa H 38 z7) 40 z7) 42 z7) 38 = z7 := by rw [ar_hpa_ne (by decide), ar_hpa_ne (by decide), ar_hpa_eq (ga_38 hS)]
    have a11 : ar (hpa (hpa (hpa H 38 z7) 40 z7) 42 z7) 11 = ar H 11 := by rw [ar_hpa_ne (by decide), ar_hpa_ne (by decide), ar_hpa_ne (by decide)]
    simp only [w112_33, w112_34, rc_33 hs3, c_hearSigns hs3 e10 (by omega), a38, a11, fi_hpa, true_and, cont_none, hpa_length]
    have l1 : (forN (hsgF (ar H 11) (fi H 34 2) (fi H 34 1)) nG z7).length = 7 := by rw [forN_len hsgF_len]; rfl
    have e1 : ∀ q : List Int32, hpa (hpa (hpa (hpa H 38 z7) 40 z7) 42 z7) 38 q = hpa (hpa (hpa H 38 q) 40 z7) 42 z7 := fun q => by
      rw [hpa_comm (a := 42) (b := 38) (by decide), hpa_comm (a := 40) (b := 38) (by decide), hpa_hpa]
    rw [e1]
    generalize hA1 : forN (hsgF (ar H 11) (fi H 34 2) (fi H 34 1)) nG z7 = q1 at l1 ⊢
    have t1 : Shp (hpa H 38 q1) := shp_hpa hS (by rw [l1, gn_38 hS])
    have t2 : Shp (hpa (hpa H 38 q1) 40 z7) := shp_hpa t1 (by rw [gn_40 t1]; rfl)
    have t3 : Shp (hpa (hpa (hpa H 38 q1) 40 z7) 42 z7) := shp_hpa t2 (by rw [gn_42 t2]; rfl)
    have e12 : fi (hpa (hpa (hpa H 38 q1) 40 z7) 42 z7) 12 2 = nI nU := by rw [fi_hpa, fi_hpa, fi_hpa]; exact c12
    have b38 : ar (hpa (hpa (hpa H 38 q1) 40 z7) 42 z7) 38 = q1 := by rw [ar_hpa_ne (by decide), ar_hpa_ne (by decide), ar_hpa_eq (ga_38 hS)]
    have b13 : ar (hpa (hpa (hpa H 38 q1) 40 z7) 42 z7) 13 = ar H 13 := by rw [ar_hpa_ne (by decide), ar_hpa_ne (by decide), ar_hpa_ne (by decide)]
    have b5 : ar (hpa (hpa (hpa H 38 q1) 40 z7) 42 z7) 5 = ar H 5 := by rw [ar_hpa_ne (by decide), ar_hpa_ne (by decide), ar_hpa_ne (by decide)]
    simp only [w112_37, w112_38, rc_33 t3, c_hearRumours t3 e12 (by omega), b38, b13, b5, fi_hpa, true_and, cont_none, hpa_length]
    have l2 : (forN (hruF (ar H 13) (ar H 5) (fi H 33 6) (fi H 34 1)) nU q1).length = 7 := by rw [forN_len hruF_len, l1]
    have e2 : ∀ q : List Int32, hpa (hpa (hpa (hpa H 38 q1) 40 z7) 42 z7) 38 q = hpa (hpa (hpa H 38 q) 40 z7) 42 z7 := fun q => by
      rw [hpa_comm (a := 42) (b := 38) (by decide), hpa_comm (a := 40) (b := 38) (by decide), hpa_hpa]
    rw [e2]
    exact tail _ l2 (by unfold hdA; rw [if_neg hg, hA1])
end PASS
