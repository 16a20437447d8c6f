/-! ===== State.copy, State.begin, Walk.startWith, start, hearOnly, tellState ===== -/
section START
variable {scr : List Int32} {d n nS nW nG nU nN : Nat} {H : List AC} {Q : Option Value → List AC → Prop}
/-- a state's contents -/
def SA (H : List AC) (s b : Nat) (f : List Int32) (g sh up : Int32) : Prop := ar H b = f ∧ fi H s 1 = g ∧ fi H s 2 = sh ∧ fi H s 3 = up
/-- State.copy, from one state of the three to another -/
theorem c_State_copy {s c b s' c' b' : Nat} {S : List Nat} (hS : Shp H) (g0 : gfl SH s 8 0 = some (.ref c)) (g1 : gfl SH c 0 0 = some (.ref b)) (gb : SH[b]? = some (.inr (.inl (List.replicate 7 0)))) (hb : b < 84) (f1 : gfl SH s 8 1 = some (.int 0)) (f2 : gfl SH s 8 2 = some (.int 0)) (f3 : gfl SH s 8 3 = some (.int 0))
    (k0 : gfl SH s' 8 0 = some (.ref c')) (k1 : gfl SH c' 0 0 = some (.ref b')) (kb : SH[b']? = some (.inr (.inl (List.replicate 7 0)))) (hb' : b' < 84) (m1 : gfl SH s' 8 1 = some (.int 0)) (m2 : gfl SH s' 8 2 = some (.int 0)) (m3 : gfl SH s' 8 3 = some (.int 0)) (hne : b ≠ b') (hns : s ≠ s') (hsS : s ∈ S) (hbS : b ∈ S)
    (hQ : ∀ H', Fr S H H' → SA H' s b (ar H b') (fi H s' 1) (fi H s' 2) (fi H s' 3) → Q none H') : Wp scr (d + 2) 86 0 [some (.ref s), some (.ref s')] [] H Q := by
  have A1 := shp_arr hS hb gb
  have A2 := shp_arr hS hb' kb
  have hs1 : Shp (hpa H b (ar H b')) := shp_hpa hS (by rw [A1.2, A2.2])
  have hs2 : Shp (hpf (hpa H b (ar H b')) s 1 (.int (fi H s' 1))) := shp_hpf hs1 f1
  have hs3 : Shp (hpf (hpf (hpa H b (ar H b')) s 1 (.int (fi H s' 1))) s 2 (.int (fi H s' 2))) := shp_hpf hs2 f2
  have e2 : fi (hpf (hpa H b (ar H b')) s 1 (.int (fi H s' 1))) s' 2 = fi H s' 2 := by rw [fi_hpf_ne (fun q => hns q.1), fi_hpa]
  have e3 : fi (hpf (hpf (hpa H b (ar H b')) s 1 (.int (fi H s' 1))) s 2 (.int (fi H s' 2))) s' 3 = fi H s' 3 := by rw [fi_hpf_ne (fun q => hns q.1), fi_hpf_ne (fun q => hns q.1), fi_hpa]
  have r0 := rcv_of (shp_ref hS g1)
  simp only [w86_0, w86_1, w86_4, w86_5, w86_8, w86_11, w86_12, w86_13, w86_16, w86_19, w86_20, w86_21, w86_24, w86_27, w86_28, w86_29, w86_32, w86_35, shp_ref hS g0, shp_ref hS k0, r0, c_Cells_copy (shp_ref hS g1) A1.1 (by rw [A1.2]; decide) (shp_ref hS k1) A2.1 hne (by rw [A1.2, A2.2]), oK_some, true_and, cont_none, hpa_length, shp_int hs1 m1, shp_int hs1 f1, fi_hpa, shp_int hs2 m2, shp_int hs2 f2, e2, shp_int hs3 m3, shp_int hs3 f3, e3, Option.isSome_some]
  refine hQ _ ((((fr_hpa hS (by rw [A1.2, A2.2]) hbS).trans (fr_hpf hs1 f1 hsS)).trans (fr_hpf hs2 f2 hsS)).trans (fr_hpf hs3 f3 hsS)) ⟨?_, ?_, ?_, ?_⟩
  · rw [ar_hpf, ar_hpf, ar_hpf, ar_hpa_eq A1.1]
  · rw [fi_hpf_ne (by simp), fi_hpf_ne (by simp), fi_hpf_eq (shp_int hs1 f1)]
  · rw [fi_hpf_ne (by simp), fi_hpf_eq (shp_int hs2 f2)]
  · rw [fi_hpf_eq (shp_int hs3 f3)]
/-- Walk.startWith -/
theorem c_startWith {s c b : Nat} {signs walls : Int32} (hS : Shp H) (hc : Cn H n nS nW nG nU nN) (k0 : gfl SH s 8 0 = some (.ref c)) (k1 : gfl SH c 0 0 = some (.ref b)) (kb : SH[b]? = some (.inr (.inl (List.replicate 7 0)))) (hb' : b < 84) (m1 : gfl SH s 8 1 = some (.int 0)) (m2 : gfl SH s 8 2 = some (.int 0)) (m3 : gfl SH s 8 3 = some (.int 0)) (hne : 36 ≠ b) (hns : 34 ≠ s)
    (hQ : ∀ H', Fr [33, 34, 36] H H' → SA H' 34 36 (ar H b) (fi H s 1) (fi H s 2 ||| signs) (fi H s 3 ||| walls) → fi H' 33 5 = opn nS nW (ar H 9) (fi H s 3 ||| walls) → fi H' 33 6 = (1 <<< (nI nU &&& 31)) - 1 → Q none H') : Wp scr (d + 3) 100 0 [some (.ref 33), some (.ref s), some (.int signs), some (.int walls)] [] H Q := by
  simp only [w100_0, w100_1, w100_4, w100_5, g_33_1 hS, rc_34 hS, oK_some, true_and]
  refine c_State_copy (S := [33, 34, 36]) hS (s := 34) (c := 35) (b := 36) rfl rfl rfl (by decide) rfl rfl rfl k0 k1 kb hb' m1 m2 m3 hne hns (by decide) (by decide) (fun H1 hF1 hA1 => ?_)
  have hs1 := hF1.2.1
  obtain ⟨q1, q2, q3, q4⟩ := hA1
  have hs2 : Shp (hpf H1 34 2 (.int (fi H1 34 2 ||| signs))) := shp_hpf hs1 (ci := 8) rfl
  have e3 : fi (hpf H1 34 2 (.int (fi H1 34 2 ||| signs))) 34 3 = fi H1 34 3 := fi_hpf_ne (by decide)
  have hs3 : Shp (hpf (hpf H1 34 2 (.int (fi H1 34 2 ||| signs))) 34 3 (.int (fi H1 34 3 ||| walls))) := shp_hpf hs2 (ci := 8) rfl
  have hc1 := hc.of hF1 (by decide) (by decide) (by decide) (by decide) (by decide) (by decide)
  generalize hU : hpf (hpf H1 34 2 (.int (fi H1 34 2 ||| signs))) 34 3 (.int (fi H1 34 3 ||| walls)) = U at hs3
  have fU : ∀ a f, a ≠ 34 → fi U a f = fi H1 a f := fun a f h => by rw [← hU, fi_hpf_ne (fun q => h q.1.symm), fi_hpf_ne (fun q => h q.1.symm)]
  have aU : ∀ a, ar U a = ar H1 a := fun a => by rw [← hU, ar_hpf, ar_hpf]
  have u3 : fi U 34 3 = fi H1 34 3 ||| walls := by rw [← hU, fi_hpf_eq (g_34_3 hs2)]
  have u2 : fi U 34 2 = fi H1 34 2 ||| signs := by rw [← hU, fi_hpf_ne (by decide), fi_hpf_eq (g_34_2 hs1)]
  have u1 : fi U 34 1 = fi H1 34 1 := by rw [← hU, fi_hpf_ne (by decide), fi_hpf_ne (by decide)]
  have c6 : fi U 6 2 = nI nS := by rw [fU _ _ (by decide)]; exact hc1.2.1
  have c8 : fi U 8 2 = nI nW := by rw [fU _ _ (by decide)]; exact hc1.2.2.1
  have b8 := hc1.2.2.2.2.2.2.2.2.1
  have a9 : ar U 9 = ar H 9 := by rw [aU, hF1.arr (by decide)]
  have hs4 : Shp (hpf U 33 5 (.int (opn nS nW (ar H 9) (fi H1 34 3 ||| walls)))) := shp_hpf hs3 (ci := 10) rfl
  have c12 : fi (hpf U 33 5 (.int (opn nS nW (ar H 9) (fi H1 34 3 ||| walls)))) 12 2 = nI nU := by rw [fi_hpf_ne (by decide), fU _ _ (by decide)]; exact hc1.2.2.2.2.1
  simp only [cont_none, hF1.1, true_and, w100_8, w100_9, w100_12, w100_13, w100_16, w100_17, w100_18, w100_21, w100_22, w100_25, w100_26, w100_29, w100_30, w100_31, g_33_1 hs1, g_34_2 hs1, g_33_1 hs2, g_34_3 hs2, e3, oK_some, Option.isSome_some, hU, w100_34, w100_35, w100_36, w100_39, w100_40, w100_43, w100_46, g_33_0 hs3, g_33_1 hs3, g_34_3 hs3, u3, rc_3 hs3, c_openSights hs3 c6 c8 (by omega), a9, cont_int, w100_49, g_33_5 hs3, w100_52, w100_53, w100_54, w100_57, w100_60, w100_63, w100_66, g_33_0 hs4, g_3_6 hs4, rc_12 hs4, c_Table_allBits (g_12_2 hs4), c12, g_33_6 hs4]
  have fr2 : Fr [33, 34, 36] H1 U := by
    rw [← hU]
    exact (fr_hpf hs1 (ci := 8) rfl (by decide)).trans (fr_hpf hs2 (ci := 8) rfl (by decide))
  refine hQ _ (((hF1.trans fr2).trans (fr_hpf hs3 (ci := 10) rfl (by decide))).trans (fr_hpf hs4 (ci := 10) rfl (by decide))) ⟨?_, ?_, ?_, ?_⟩ ?_ ?_
  · rw [ar_hpf, ar_hpf, aU, q1]
  · rw [fi_hpf_ne (by decide), fi_hpf_ne (by decide), u1, q2]
  · rw [fi_hpf_ne (by decide), fi_hpf_ne (by decide), u2, q3]
  · rw [fi_hpf_ne (by decide), fi_hpf_ne (by decide), u3, q4]
  · rw [fi_hpf_ne (by decide), fi_hpf_eq (g_33_5 hs3), q4]
  · rw [fi_hpf_eq (g_33_6 hs4)]
end START
