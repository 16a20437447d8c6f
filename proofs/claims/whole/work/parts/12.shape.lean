/-! ===== the shape of the heap: references and lengths never change ===== -/
def shv (v : Value) : Value := match v with
  | .int _ => .int 0
  | .long _ => .long 0
  | v => v
def shc (c : AC) : AC := match c with
  | .inl (ci, fs) => .inl (ci, fs.map shv)
  | .inr (.inl xs) => .inr (.inl (List.replicate xs.length 0))
  | .inr (.inr xs) => .inr (.inr (List.replicate xs.length 0))
def SH : List AC := [.inl (11, [.ref 1, .int 0, .ref 3, .ref 16, .ref 29, .ref 30, .ref 33, .ref 43, .ref 44, .ref 52, .ref 61, .ref 62, .ref 65, .int 0, .int 0, .int 0]),
  .inl (0, [.ref 2]),
  .inr (.inl (List.replicate 900 0)),
  .inl (6, [.int 0, .int 0, .ref 4, .ref 6, .ref 8, .ref 10, .ref 12, .ref 14]),
  .inl (9, [.int 0, .ref 5, .int 0]),
  .inr (.inl (List.replicate 28 0)),
  .inl (9, [.int 0, .ref 7, .int 0]),
  .inr (.inl (List.replicate 40 0)),
  .inl (9, [.int 0, .ref 9, .int 0]),
  .inr (.inl (List.replicate 20 0)),
  .inl (9, [.int 0, .ref 11, .int 0]),
  .inr (.inl (List.replicate 24 0)),
  .inl (9, [.int 0, .ref 13, .int 0]),
  .inr (.inl (List.replicate 20 0)),
  .inl (9, [.int 0, .ref 15, .int 0]),
  .inr (.inl (List.replicate 20 0)),
  .inl (6, [.int 0, .int 0, .ref 17, .ref 19, .ref 21, .ref 23, .ref 25, .ref 27]),
  .inl (9, [.int 0, .ref 18, .int 0]),
  .inr (.inl (List.replicate 28 0)),
  .inl (9, [.int 0, .ref 20, .int 0]),
  .inr (.inl (List.replicate 40 0)),
  .inl (9, [.int 0, .ref 22, .int 0]),
  .inr (.inl (List.replicate 20 0)),
  .inl (9, [.int 0, .ref 24, .int 0]),
  .inr (.inl (List.replicate 24 0)),
  .inl (9, [.int 0, .ref 26, .int 0]),
  .inr (.inl (List.replicate 20 0)),
  .inl (9, [.int 0, .ref 28, .int 0]),
  .inr (.inl (List.replicate 20 0)),
  .inl (4, [.ref 1, .ref 16, .int 0, .int 0, .int 0, .int 0, .int 0, .int 0, .int 0]),
  .inl (8, [.ref 31, .int 0, .int 0, .int 0]),
  .inl (0, [.ref 32]),
  .inr (.inl (List.replicate 7 0)),
  .inl (10, [.ref 3, .ref 34, .ref 37, .ref 39, .ref 41, .int 0, .int 0]),
  .inl (8, [.ref 35, .int 0, .int 0, .int 0]),
  .inl (0, [.ref 36]),
  .inr (.inl (List.replicate 7 0)),
  .inl (0, [.ref 38]),
  .inr (.inl (List.replicate 7 0)),
  .inl (0, [.ref 40]),
  .inr (.inl (List.replicate 7 0)),
  .inl (0, [.ref 42]),
  .inr (.inl (List.replicate 7 0)),
  .inl (1, [.ref 3, .ref 33, .int 0, .int 0, .int 0, .int 0]),
  .inl (7, [.ref 3, .ref 33, .ref 45, .ref 48, .ref 50, .int 0, .int 0, .int 0]),
  .inl (8, [.ref 46, .int 0, .int 0, .int 0]),
  .inl (0, [.ref 47]),
  .inr (.inl (List.replicate 7 0)),
  .inl (0, [.ref 49]),
  .inr (.inl (List.replicate 21 0)),
  .inl (0, [.ref 51]),
  .inr (.inl (List.replicate 147 0)),
  .inl (2, [.ref 3, .ref 33, .ref 53, .ref 55, .ref 57, .ref 59, .int 0, .int 0]),
  .inl (0, [.ref 54]),
  .inr (.inl (List.replicate 6 0)),
  .inl (0, [.ref 56]),
  .inr (.inl (List.replicate 64 0)),
  .inl (0, [.ref 58]),
  .inr (.inl (List.replicate 729 0)),
  .inl (0, [.ref 60]),
  .inr (.inl (List.replicate 729 0)),
  .inl (3, [.ref 3, .ref 33, .long 0, .long 0]),
  .inl (5, [.int 0, .ref 63, .int 0, .int 0]),
  .inl (0, [.ref 64]),
  .inr (.inl (List.replicate 160 0)),
  .inl (5, [.int 0, .ref 66, .int 0, .int 0]),
  .inl (0, [.ref 67]),
  .inr (.inl (List.replicate 30 0)),
  .inl (12, [.int 0, .ref 69, .int 0, .int 0, .int 0, .int 0, .int 0, .int 0, .int 0, .int 0, .int 0, .int 0, .ref 70, .int 0, .int 0, .ref 71, .ref 72, .ref 73, .ref 74, .ref 75, .int 0, .int 0, .int 0, .ref 76, .ref 77, .ref 78, .ref 79, .ref 80, .int 0, .int 0, .int 0, .int 0, .int 0, .ref 81, .ref 82, .long 0, .long 0, .long 0, .long 0, .int 0]),
  .inr (.inl (List.replicate 900 0)),
  .inr (.inl (List.replicate 8 0)),
  .inr (.inl (List.replicate 211 0)),
  .inr (.inl (List.replicate 211 0)),
  .inr (.inl (List.replicate 10 0)),
  .inr (.inl (List.replicate 160 0)),
  .inr (.inl (List.replicate 30 0)),
  .inr (.inl (List.replicate 7 0)),
  .inr (.inl (List.replicate 10 0)),
  .inr (.inl (List.replicate 10 0)),
  .inr (.inl (List.replicate 21 0)),
  .inr (.inl (List.replicate 147 0)),
  .inr (.inl (List.replicate 64 0)),
  .inr (.inl (List.replicate 16384 0)),
  .inr (.inr (List.replicate 1 0))]
def Shp (H : List AC) : Prop := (H.take 84).map shc = SH
/-- an int field, a row of ints, a long field -/
def fi (H : List AC) (a f : Nat) : Int32 := match H[a]? with
  | some (.inl (_, fs)) => match fs[f]? with
    | some (.int x) => x
    | _ => 0
  | _ => 0
def fl (H : List AC) (a f : Nat) : Int64 := match H[a]? with
  | some (.inl (_, fs)) => match fs[f]? with
    | some (.long x) => x
    | _ => 0
  | _ => 0
def ar (H : List AC) (a : Nat) : List Int32 := match garr H a with
  | some xs => xs
  | none => []
section SHAPE
variable {H : List AC} {a b f g ci : Nat}
theorem shp_len (h : Shp H) : 84 ≤ H.length := by
  have h1 := congrArg List.length h
  rw [List.length_map, List.length_take, show SH.length = 84 from rfl] at h1
  omega
theorem shp_get (h : Shp H) (ha : a < 84) : (H[a]?).map shc = SH[a]? := by
  have h1 : ((H.take 84).map shc)[a]? = SH[a]? := by rw [h]
  rw [List.getElem?_map, List.getElem?_take, if_pos ha] at h1
  exact h1
theorem sh_lt {v : Value} (h : gfl SH a ci f = some v) : a < 84 := by
  unfold gfl at h
  split at h
  · rename_i h1
    exact (List.getElem?_eq_some_iff.mp h1).1
  · cases h
theorem shp_gfl {v : Value} (h : Shp H) (hs : gfl SH a ci f = some v) : ∃ u, gfl H a ci f = some u ∧ shv u = v := by
  have ha : a < 84 := sh_lt hs
  have h1 := shp_get h ha
  unfold gfl at hs ⊢
  rw [← h1] at hs
  cases hc : H[a]? with
  | none => simp [hc] at hs
  | some c =>
    rw [hc] at hs
    rcases c with ⟨c, fs⟩ | xs | xs
    · simp only [Option.map_some, shc] at hs ⊢
      split at hs
      · rename_i e
        rw [if_pos e]
        rw [List.getElem?_map] at hs
        cases hf : fs[f]? with
        | none => simp [hf] at hs
        | some u =>
          rw [hf] at hs
          exact ⟨u, rfl, Option.some.inj hs⟩
      · cases hs
    · simp [shc] at hs
    · simp [shc] at hs
theorem shp_ref {r : Nat} (h : Shp H) (hs : gfl SH a ci f = some (.ref r)) : gfl H a ci f = some (.ref r) := by
  obtain ⟨u, h1, h2⟩ := shp_gfl h hs
  cases u <;> simp [shv] at h2
  rw [h1, h2]
theorem shp_int (h : Shp H) (hs : gfl SH a ci f = some (.int 0)) : gfl H a ci f = some (.int (fi H a f)) := by
  obtain ⟨u, h1, h2⟩ := shp_gfl h hs
  cases u <;> simp [shv] at h2
  rename_i x
  rw [h1]
  unfold gfl at h1
  unfold fi
  split at h1
  · rename_i c fs hc
    split at h1
    · simp only [hc, h1]
    · cases h1
  · cases h1
theorem shp_long (h : Shp H) (hs : gfl SH a ci f = some (.long 0)) : gfl H a ci f = some (.long (fl H a f)) := by
  obtain ⟨u, h1, h2⟩ := shp_gfl h hs
  cases u <;> simp [shv] at h2
  rename_i x
  rw [h1]
  unfold gfl at h1
  unfold fl
  split at h1
  · rename_i c fs hc
    split at h1
    · simp only [hc, h1]
    · cases h1
  · cases h1
theorem shp_arr {n : Nat} (h : Shp H) (ha : a < 84) (hs : SH[a]? = some (.inr (.inl (List.replicate n 0)))) : garr H a = some (ar H a) ∧ (ar H a).length = n := by
  have h1 := shp_get h ha
  rw [hs] at h1
  unfold ar
  cases hc : H[a]? with
  | none => simp [hc] at h1
  | some c =>
    rw [hc] at h1
    rcases c with ⟨c, fs⟩ | xs | xs
    · simp [shc] at h1
    · simp only [Option.map_some, shc, Option.some.injEq, Sum.inr.injEq, Sum.inl.injEq] at h1
      have hl := congrArg List.length h1
      simp only [List.length_replicate] at hl
      unfold garr
      simp only [hc]
      exact ⟨trivial, hl⟩
    · simp [shc] at h1
theorem shp_set {c c0 : AC} (h : Shp H) (hc : H[a]? = some c0) (he : shc c = shc c0) : Shp (H.set a c) := by
  unfold Shp at h ⊢
  rw [← h]
  apply List.ext_getElem?
  intro j
  rw [List.getElem?_map, List.getElem?_map, List.getElem?_take, List.getElem?_take]
  split
  · rw [List.getElem?_set]
    split
    · rename_i e
      subst e
      rw [if_pos (List.getElem?_eq_some_iff.mp hc).1, hc, Option.map_some, Option.map_some, he]
    · rfl
  · rfl
theorem shp_hpf {v : Int32} (h : Shp H) (hs : gfl SH a ci f = some (.int 0)) : Shp (hpf H a f (.int v)) := by
  obtain ⟨u, h1, h2⟩ := shp_gfl h hs
  unfold gfl at h1
  split at h1
  · rename_i c fs hc
    split at h1
    · unfold hpf
      simp only [hc]
      refine shp_set h hc ?_
      simp only [shc, List.map_set]
      congr 2
      apply List.ext_getElem?
      intro j
      rw [List.getElem?_set]
      split
      · rename_i e
        subst e
        rw [List.getElem?_map, h1, List.length_map, if_pos (List.getElem?_eq_some_iff.mp h1).1, Option.map_some, h2]
        rfl
      · rfl
    · cases h1
  · cases h1
theorem shp_hpfl {v : Int64} (h : Shp H) (hs : gfl SH a ci f = some (.long 0)) : Shp (hpf H a f (.long v)) := by
  obtain ⟨u, h1, h2⟩ := shp_gfl h hs
  unfold gfl at h1
  split at h1
  · rename_i c fs hc
    split at h1
    · unfold hpf
      simp only [hc]
      refine shp_set h hc ?_
      simp only [shc, List.map_set]
      congr 2
      apply List.ext_getElem?
      intro j
      rw [List.getElem?_set]
      split
      · rename_i e
        subst e
        rw [List.getElem?_map, h1, List.length_map, if_pos (List.getElem?_eq_some_iff.mp h1).1, Option.map_some, h2]
        rfl
      · rfl
    · cases h1
  · cases h1
theorem shp_hpa {xs : List Int32} (h : Shp H) (hl : xs.length = (ar H a).length) : Shp (hpa H a xs) := by
  unfold hpa
  split
  · rename_i ys hc
    refine shp_set h hc ?_
    have : ar H a = ys := by unfold ar garr; simp only [hc]
    simp only [shc, hl, this]
  · exact h
theorem fi_hpf_ne {v : Value} (hn : ¬ (a = b ∧ f = g)) : fi (hpf H a f v) b g = fi H b g := by
  unfold hpf
  split
  · rename_i c fs hc
    unfold fi
    rw [List.getElem?_set]
    by_cases e : a = b
    · subst e
      have hl : a < H.length := (List.getElem?_eq_some_iff.mp hc).1
      have hfg : f ≠ g := fun q => hn ⟨rfl, q⟩
      simp only [hl, if_true, hc, List.getElem?_set_ne hfg]
    · simp only [e, if_false]
  · rfl
theorem fi_hpf_eq {v : Int32} {u : Value} (hs : gfl H a ci f = some u) : fi (hpf H a f (.int v)) a f = v := by
  unfold gfl at hs
  split at hs
  · rename_i c fs hc
    split at hs
    · unfold hpf
      simp only [hc]
      unfold fi
      have hl : a < H.length := (List.getElem?_eq_some_iff.mp hc).1
      have hl2 : f < fs.length := (List.getElem?_eq_some_iff.mp hs).1
      simp [hl, hl2]
    · cases hs
  · cases hs
theorem fi_hpa {xs : List Int32} : fi (hpa H a xs) b g = fi H b g := by
  unfold hpa
  split
  · rename_i ys hc
    unfold fi
    rw [List.getElem?_set]
    by_cases e : a = b
    · subst e
      have hl : a < H.length := (List.getElem?_eq_some_iff.mp hc).1
      simp only [hl, if_true, hc]
    · simp only [e, if_false]
  · rfl
theorem ar_hpf {v : Value} : ar (hpf H a f v) b = ar H b := by
  unfold ar; rw [garr_hpf]
theorem ar_hpa_ne {xs : List Int32} (hn : ¬ a = b) : ar (hpa H a xs) b = ar H b := by
  unfold ar; rw [garr_hpa, if_neg hn]
theorem ar_hpa_eq {xs ys : List Int32} (hs : garr H a = some ys) : ar (hpa H a xs) a = xs := by
  unfold ar; rw [garr_hpa, if_pos rfl, hs]; rfl
end SHAPE
/-- a part of the heap may have changed -/
def Fr (S : List Nat) (H H' : List AC) : Prop := H'.length = H.length ∧ Shp H' ∧ ∀ a, a ∉ S → H'[a]? = H[a]?
section FRAME
variable {S T : List Nat} {H H' H2 : List AC} {a b f g ci : Nat}
theorem Fr.rfl' (h : Shp H) : Fr S H H := ⟨rfl, h, fun _ _ => rfl⟩
theorem Fr.trans (h1 : Fr S H H') (h2 : Fr S H' H2) : Fr S H H2 := ⟨h2.1.trans h1.1, h2.2.1, fun a ha => (h2.2.2 a ha).trans (h1.2.2 a ha)⟩
theorem Fr.mono (h : Fr S H H') (hs : ∀ a ∈ S, a ∈ T) : Fr T H H' := ⟨h.1, h.2.1, fun a ha => h.2.2 a (fun q => ha (hs a q))⟩
theorem Fr.int (h : Fr S H H') (ha : a ∉ S) : fi H' a f = fi H a f := by
  unfold fi
  rw [h.2.2 a ha]
theorem Fr.arr (h : Fr S H H') (ha : a ∉ S) : ar H' a = ar H a := by
  unfold ar garr
  rw [h.2.2 a ha]
theorem fr_hpf {v : Int32} (h : Shp H) (hs : gfl SH a ci f = some (.int 0)) (ha : a ∈ S) : Fr S H (hpf H a f (.int v)) := by
  refine ⟨hpf_length, shp_hpf h hs, fun b hb => ?_⟩
  unfold hpf
  split
  · rw [List.getElem?_set_ne (fun (e : a = b) => hb (by rw [← e]; exact ha))]
  · rfl
theorem fr_hpfl {v : Int64} (h : Shp H) (hs : gfl SH a ci f = some (.long 0)) (ha : a ∈ S) : Fr S H (hpf H a f (.long v)) := by
  refine ⟨hpf_length, shp_hpfl h hs, fun b hb => ?_⟩
  unfold hpf
  split
  · rw [List.getElem?_set_ne (fun (e : a = b) => hb (by rw [← e]; exact ha))]
  · rfl
theorem fr_hpa {xs : List Int32} (h : Shp H) (hl : xs.length = (ar H a).length) (ha : a ∈ S) : Fr S H (hpa H a xs) := by
  refine ⟨hpa_length, shp_hpa h hl, fun b hb => ?_⟩
  unfold hpa
  split
  · rw [List.getElem?_set_ne (fun (e : a = b) => hb (by rw [← e]; exact ha))]
  · rfl
end FRAME
theorem g_0_0 {H : List AC} (h : Shp H) : gfl H 0 11 0 = some (.ref 1) := shp_ref h rfl
theorem g_0_1 {H : List AC} (h : Shp H) : gfl H 0 11 1 = some (.int (fi H 0 1)) := shp_int h rfl
theorem g_0_2 {H : List AC} (h : Shp H) : gfl H 0 11 2 = some (.ref 3) := shp_ref h rfl
theorem g_0_3 {H : List AC} (h : Shp H) : gfl H 0 11 3 = some (.ref 16) := shp_ref h rfl
theorem g_0_4 {H : List AC} (h : Shp H) : gfl H 0 11 4 = some (.ref 29) := shp_ref h rfl
theorem g_0_5 {H : List AC} (h : Shp H) : gfl H 0 11 5 = some (.ref 30) := shp_ref h rfl
theorem g_0_6 {H : List AC} (h : Shp H) : gfl H 0 11 6 = some (.ref 33) := shp_ref h rfl
theorem g_0_7 {H : List AC} (h : Shp H) : gfl H 0 11 7 = some (.ref 43) := shp_ref h rfl
theorem g_0_8 {H : List AC} (h : Shp H) : gfl H 0 11 8 = some (.ref 44) := shp_ref h rfl
theorem g_0_9 {H : List AC} (h : Shp H) : gfl H 0 11 9 = some (.ref 52) := shp_ref h rfl
theorem g_0_10 {H : List AC} (h : Shp H) : gfl H 0 11 10 = some (.ref 61) := shp_ref h rfl
theorem g_0_11 {H : List AC} (h : Shp H) : gfl H 0 11 11 = some (.ref 62) := shp_ref h rfl
theorem g_0_12 {H : List AC} (h : Shp H) : gfl H 0 11 12 = some (.ref 65) := shp_ref h rfl
theorem g_0_13 {H : List AC} (h : Shp H) : gfl H 0 11 13 = some (.int (fi H 0 13)) := shp_int h rfl
theorem g_0_14 {H : List AC} (h : Shp H) : gfl H 0 11 14 = some (.int (fi H 0 14)) := shp_int h rfl
theorem g_0_15 {H : List AC} (h : Shp H) : gfl H 0 11 15 = some (.int (fi H 0 15)) := shp_int h rfl
theorem rc_0 {H : List AC} (h : Shp H) : rcv H (some (.ref 0)) 11 = true := rcv_of (g_0_0 h)
theorem g_1_0 {H : List AC} (h : Shp H) : gfl H 1 0 0 = some (.ref 2) := shp_ref h rfl
theorem rc_1 {H : List AC} (h : Shp H) : rcv H (some (.ref 1)) 0 = true := rcv_of (g_1_0 h)
theorem ga_2 {H : List AC} (h : Shp H) : garr H 2 = some (ar H 2) := (shp_arr h (by decide) rfl).1
theorem gn_2 {H : List AC} (h : Shp H) : (ar H 2).length = 900 := (shp_arr h (by decide) rfl).2
theorem g_3_0 {H : List AC} (h : Shp H) : gfl H 3 6 0 = some (.int (fi H 3 0)) := shp_int h rfl
theorem g_3_1 {H : List AC} (h : Shp H) : gfl H 3 6 1 = some (.int (fi H 3 1)) := shp_int h rfl
theorem g_3_2 {H : List AC} (h : Shp H) : gfl H 3 6 2 = some (.ref 4) := shp_ref h rfl
theorem g_3_3 {H : List AC} (h : Shp H) : gfl H 3 6 3 = some (.ref 6) := shp_ref h rfl
theorem g_3_4 {H : List AC} (h : Shp H) : gfl H 3 6 4 = some (.ref 8) := shp_ref h rfl
theorem g_3_5 {H : List AC} (h : Shp H) : gfl H 3 6 5 = some (.ref 10) := shp_ref h rfl
theorem g_3_6 {H : List AC} (h : Shp H) : gfl H 3 6 6 = some (.ref 12) := shp_ref h rfl
theorem g_3_7 {H : List AC} (h : Shp H) : gfl H 3 6 7 = some (.ref 14) := shp_ref h rfl
theorem rc_3 {H : List AC} (h : Shp H) : rcv H (some (.ref 3)) 6 = true := rcv_of (g_3_0 h)
theorem g_4_0 {H : List AC} (h : Shp H) : gfl H 4 9 0 = some (.int (fi H 4 0)) := shp_int h rfl
theorem g_4_1 {H : List AC} (h : Shp H) : gfl H 4 9 1 = some (.ref 5) := shp_ref h rfl
theorem g_4_2 {H : List AC} (h : Shp H) : gfl H 4 9 2 = some (.int (fi H 4 2)) := shp_int h rfl
theorem rc_4 {H : List AC} (h : Shp H) : rcv H (some (.ref 4)) 9 = true := rcv_of (g_4_0 h)
theorem ga_5 {H : List AC} (h : Shp H) : garr H 5 = some (ar H 5) := (shp_arr h (by decide) rfl).1
theorem gn_5 {H : List AC} (h : Shp H) : (ar H 5).length = 28 := (shp_arr h (by decide) rfl).2
theorem g_6_0 {H : List AC} (h : Shp H) : gfl H 6 9 0 = some (.int (fi H 6 0)) := shp_int h rfl
theorem g_6_1 {H : List AC} (h : Shp H) : gfl H 6 9 1 = some (.ref 7) := shp_ref h rfl
theorem g_6_2 {H : List AC} (h : Shp H) : gfl H 6 9 2 = some (.int (fi H 6 2)) := shp_int h rfl
theorem rc_6 {H : List AC} (h : Shp H) : rcv H (some (.ref 6)) 9 = true := rcv_of (g_6_0 h)
theorem ga_7 {H : List AC} (h : Shp H) : garr H 7 = some (ar H 7) := (shp_arr h (by decide) rfl).1
theorem gn_7 {H : List AC} (h : Shp H) : (ar H 7).length = 40 := (shp_arr h (by decide) rfl).2
theorem g_8_0 {H : List AC} (h : Shp H) : gfl H 8 9 0 = some (.int (fi H 8 0)) := shp_int h rfl
theorem g_8_1 {H : List AC} (h : Shp H) : gfl H 8 9 1 = some (.ref 9) := shp_ref h rfl
theorem g_8_2 {H : List AC} (h : Shp H) : gfl H 8 9 2 = some (.int (fi H 8 2)) := shp_int h rfl
theorem rc_8 {H : List AC} (h : Shp H) : rcv H (some (.ref 8)) 9 = true := rcv_of (g_8_0 h)
theorem ga_9 {H : List AC} (h : Shp H) : garr H 9 = some (ar H 9) := (shp_arr h (by decide) rfl).1
theorem gn_9 {H : List AC} (h : Shp H) : (ar H 9).length = 20 := (shp_arr h (by decide) rfl).2
theorem g_10_0 {H : List AC} (h : Shp H) : gfl H 10 9 0 = some (.int (fi H 10 0)) := shp_int h rfl
theorem g_10_1 {H : List AC} (h : Shp H) : gfl H 10 9 1 = some (.ref 11) := shp_ref h rfl
theorem g_10_2 {H : List AC} (h : Shp H) : gfl H 10 9 2 = some (.int (fi H 10 2)) := shp_int h rfl
theorem rc_10 {H : List AC} (h : Shp H) : rcv H (some (.ref 10)) 9 = true := rcv_of (g_10_0 h)
theorem ga_11 {H : List AC} (h : Shp H) : garr H 11 = some (ar H 11) := (shp_arr h (by decide) rfl).1
theorem gn_11 {H : List AC} (h : Shp H) : (ar H 11).length = 24 := (shp_arr h (by decide) rfl).2
theorem g_12_0 {H : List AC} (h : Shp H) : gfl H 12 9 0 = some (.int (fi H 12 0)) := shp_int h rfl
theorem g_12_1 {H : List AC} (h : Shp H) : gfl H 12 9 1 = some (.ref 13) := shp_ref h rfl
theorem g_12_2 {H : List AC} (h : Shp H) : gfl H 12 9 2 = some (.int (fi H 12 2)) := shp_int h rfl
theorem rc_12 {H : List AC} (h : Shp H) : rcv H (some (.ref 12)) 9 = true := rcv_of (g_12_0 h)
theorem ga_13 {H : List AC} (h : Shp H) : garr H 13 = some (ar H 13) := (shp_arr h (by decide) rfl).1
theorem gn_13 {H : List AC} (h : Shp H) : (ar H 13).length = 20 := (shp_arr h (by decide) rfl).2
theorem g_14_0 {H : List AC} (h : Shp H) : gfl H 14 9 0 = some (.int (fi H 14 0)) := shp_int h rfl
theorem g_14_1 {H : List AC} (h : Shp H) : gfl H 14 9 1 = some (.ref 15) := shp_ref h rfl
theorem g_14_2 {H : List AC} (h : Shp H) : gfl H 14 9 2 = some (.int (fi H 14 2)) := shp_int h rfl
theorem rc_14 {H : List AC} (h : Shp H) : rcv H (some (.ref 14)) 9 = true := rcv_of (g_14_0 h)
theorem ga_15 {H : List AC} (h : Shp H) : garr H 15 = some (ar H 15) := (shp_arr h (by decide) rfl).1
theorem gn_15 {H : List AC} (h : Shp H) : (ar H 15).length = 20 := (shp_arr h (by decide) rfl).2
theorem g_16_0 {H : List AC} (h : Shp H) : gfl H 16 6 0 = some (.int (fi H 16 0)) := shp_int h rfl
theorem g_16_1 {H : List AC} (h : Shp H) : gfl H 16 6 1 = some (.int (fi H 16 1)) := shp_int h rfl
theorem g_16_2 {H : List AC} (h : Shp H) : gfl H 16 6 2 = some (.ref 17) := shp_ref h rfl
theorem g_16_3 {H : List AC} (h : Shp H) : gfl H 16 6 3 = some (.ref 19) := shp_ref h rfl
theorem g_16_4 {H : List AC} (h : Shp H) : gfl H 16 6 4 = some (.ref 21) := shp_ref h rfl
theorem g_16_5 {H : List AC} (h : Shp H) : gfl H 16 6 5 = some (.ref 23) := shp_ref h rfl
theorem g_16_6 {H : List AC} (h : Shp H) : gfl H 16 6 6 = some (.ref 25) := shp_ref h rfl
theorem g_16_7 {H : List AC} (h : Shp H) : gfl H 16 6 7 = some (.ref 27) := shp_ref h rfl
theorem rc_16 {H : List AC} (h : Shp H) : rcv H (some (.ref 16)) 6 = true := rcv_of (g_16_0 h)
theorem g_17_0 {H : List AC} (h : Shp H) : gfl H 17 9 0 = some (.int (fi H 17 0)) := shp_int h rfl
theorem g_17_1 {H : List AC} (h : Shp H) : gfl H 17 9 1 = some (.ref 18) := shp_ref h rfl
theorem g_17_2 {H : List AC} (h : Shp H) : gfl H 17 9 2 = some (.int (fi H 17 2)) := shp_int h rfl
theorem rc_17 {H : List AC} (h : Shp H) : rcv H (some (.ref 17)) 9 = true := rcv_of (g_17_0 h)
theorem ga_18 {H : List AC} (h : Shp H) : garr H 18 = some (ar H 18) := (shp_arr h (by decide) rfl).1
theorem gn_18 {H : List AC} (h : Shp H) : (ar H 18).length = 28 := (shp_arr h (by decide) rfl).2
theorem g_19_0 {H : List AC} (h : Shp H) : gfl H 19 9 0 = some (.int (fi H 19 0)) := shp_int h rfl
theorem g_19_1 {H : List AC} (h : Shp H) : gfl H 19 9 1 = some (.ref 20) := shp_ref h rfl
theorem g_19_2 {H : List AC} (h : Shp H) : gfl H 19 9 2 = some (.int (fi H 19 2)) := shp_int h rfl
theorem rc_19 {H : List AC} (h : Shp H) : rcv H (some (.ref 19)) 9 = true := rcv_of (g_19_0 h)
theorem ga_20 {H : List AC} (h : Shp H) : garr H 20 = some (ar H 20) := (shp_arr h (by decide) rfl).1
theorem gn_20 {H : List AC} (h : Shp H) : (ar H 20).length = 40 := (shp_arr h (by decide) rfl).2
theorem g_21_0 {H : List AC} (h : Shp H) : gfl H 21 9 0 = some (.int (fi H 21 0)) := shp_int h rfl
theorem g_21_1 {H : List AC} (h : Shp H) : gfl H 21 9 1 = some (.ref 22) := shp_ref h rfl
theorem g_21_2 {H : List AC} (h : Shp H) : gfl H 21 9 2 = some (.int (fi H 21 2)) := shp_int h rfl
theorem rc_21 {H : List AC} (h : Shp H) : rcv H (some (.ref 21)) 9 = true := rcv_of (g_21_0 h)
theorem ga_22 {H : List AC} (h : Shp H) : garr H 22 = some (ar H 22) := (shp_arr h (by decide) rfl).1
theorem gn_22 {H : List AC} (h : Shp H) : (ar H 22).length = 20 := (shp_arr h (by decide) rfl).2
theorem g_23_0 {H : List AC} (h : Shp H) : gfl H 23 9 0 = some (.int (fi H 23 0)) := shp_int h rfl
theorem g_23_1 {H : List AC} (h : Shp H) : gfl H 23 9 1 = some (.ref 24) := shp_ref h rfl
theorem g_23_2 {H : List AC} (h : Shp H) : gfl H 23 9 2 = some (.int (fi H 23 2)) := shp_int h rfl
theorem rc_23 {H : List AC} (h : Shp H) : rcv H (some (.ref 23)) 9 = true := rcv_of (g_23_0 h)
theorem ga_24 {H : List AC} (h : Shp H) : garr H 24 = some (ar H 24) := (shp_arr h (by decide) rfl).1
theorem gn_24 {H : List AC} (h : Shp H) : (ar H 24).length = 24 := (shp_arr h (by decide) rfl).2
theorem g_25_0 {H : List AC} (h : Shp H) : gfl H 25 9 0 = some (.int (fi H 25 0)) := shp_int h rfl
theorem g_25_1 {H : List AC} (h : Shp H) : gfl H 25 9 1 = some (.ref 26) := shp_ref h rfl
theorem g_25_2 {H : List AC} (h : Shp H) : gfl H 25 9 2 = some (.int (fi H 25 2)) := shp_int h rfl
theorem rc_25 {H : List AC} (h : Shp H) : rcv H (some (.ref 25)) 9 = true := rcv_of (g_25_0 h)
theorem ga_26 {H : List AC} (h : Shp H) : garr H 26 = some (ar H 26) := (shp_arr h (by decide) rfl).1
theorem gn_26 {H : List AC} (h : Shp H) : (ar H 26).length = 20 := (shp_arr h (by decide) rfl).2
theorem g_27_0 {H : List AC} (h : Shp H) : gfl H 27 9 0 = some (.int (fi H 27 0)) := shp_int h rfl
theorem g_27_1 {H : List AC} (h : Shp H) : gfl H 27 9 1 = some (.ref 28) := shp_ref h rfl
theorem g_27_2 {H : List AC} (h : Shp H) : gfl H 27 9 2 = some (.int (fi H 27 2)) := shp_int h rfl
theorem rc_27 {H : List AC} (h : Shp H) : rcv H (some (.ref 27)) 9 = true := rcv_of (g_27_0 h)
theorem ga_28 {H : List AC} (h : Shp H) : garr H 28 = some (ar H 28) := (shp_arr h (by decide) rfl).1
theorem gn_28 {H : List AC} (h : Shp H) : (ar H 28).length = 20 := (shp_arr h (by decide) rfl).2
theorem g_29_0 {H : List AC} (h : Shp H) : gfl H 29 4 0 = some (.ref 1) := shp_ref h rfl
theorem g_29_1 {H : List AC} (h : Shp H) : gfl H 29 4 1 = some (.ref 16) := shp_ref h rfl
theorem g_29_2 {H : List AC} (h : Shp H) : gfl H 29 4 2 = some (.int (fi H 29 2)) := shp_int h rfl
theorem g_29_3 {H : List AC} (h : Shp H) : gfl H 29 4 3 = some (.int (fi H 29 3)) := shp_int h rfl
theorem g_29_4 {H : List AC} (h : Shp H) : gfl H 29 4 4 = some (.int (fi H 29 4)) := shp_int h rfl
theorem g_29_5 {H : List AC} (h : Shp H) : gfl H 29 4 5 = some (.int (fi H 29 5)) := shp_int h rfl
theorem g_29_6 {H : List AC} (h : Shp H) : gfl H 29 4 6 = some (.int (fi H 29 6)) := shp_int h rfl
theorem g_29_7 {H : List AC} (h : Shp H) : gfl H 29 4 7 = some (.int (fi H 29 7)) := shp_int h rfl
theorem g_29_8 {H : List AC} (h : Shp H) : gfl H 29 4 8 = some (.int (fi H 29 8)) := shp_int h rfl
theorem rc_29 {H : List AC} (h : Shp H) : rcv H (some (.ref 29)) 4 = true := rcv_of (g_29_0 h)
theorem g_30_0 {H : List AC} (h : Shp H) : gfl H 30 8 0 = some (.ref 31) := shp_ref h rfl
theorem g_30_1 {H : List AC} (h : Shp H) : gfl H 30 8 1 = some (.int (fi H 30 1)) := shp_int h rfl
theorem g_30_2 {H : List AC} (h : Shp H) : gfl H 30 8 2 = some (.int (fi H 30 2)) := shp_int h rfl
theorem g_30_3 {H : List AC} (h : Shp H) : gfl H 30 8 3 = some (.int (fi H 30 3)) := shp_int h rfl
theorem rc_30 {H : List AC} (h : Shp H) : rcv H (some (.ref 30)) 8 = true := rcv_of (g_30_0 h)
theorem g_31_0 {H : List AC} (h : Shp H) : gfl H 31 0 0 = some (.ref 32) := shp_ref h rfl
theorem rc_31 {H : List AC} (h : Shp H) : rcv H (some (.ref 31)) 0 = true := rcv_of (g_31_0 h)
theorem ga_32 {H : List AC} (h : Shp H) : garr H 32 = some (ar H 32) := (shp_arr h (by decide) rfl).1
theorem gn_32 {H : List AC} (h : Shp H) : (ar H 32).length = 7 := (shp_arr h (by decide) rfl).2
theorem g_33_0 {H : List AC} (h : Shp H) : gfl H 33 10 0 = some (.ref 3) := shp_ref h rfl
theorem g_33_1 {H : List AC} (h : Shp H) : gfl H 33 10 1 = some (.ref 34) := shp_ref h rfl
theorem g_33_2 {H : List AC} (h : Shp H) : gfl H 33 10 2 = some (.ref 37) := shp_ref h rfl
theorem g_33_3 {H : List AC} (h : Shp H) : gfl H 33 10 3 = some (.ref 39) := shp_ref h rfl
theorem g_33_4 {H : List AC} (h : Shp H) : gfl H 33 10 4 = some (.ref 41) := shp_ref h rfl
theorem g_33_5 {H : List AC} (h : Shp H) : gfl H 33 10 5 = some (.int (fi H 33 5)) := shp_int h rfl
theorem g_33_6 {H : List AC} (h : Shp H) : gfl H 33 10 6 = some (.int (fi H 33 6)) := shp_int h rfl
theorem rc_33 {H : List AC} (h : Shp H) : rcv H (some (.ref 33)) 10 = true := rcv_of (g_33_0 h)
theorem g_34_0 {H : List AC} (h : Shp H) : gfl H 34 8 0 = some (.ref 35) := shp_ref h rfl
theorem g_34_1 {H : List AC} (h : Shp H) : gfl H 34 8 1 = some (.int (fi H 34 1)) := shp_int h rfl
theorem g_34_2 {H : List AC} (h : Shp H) : gfl H 34 8 2 = some (.int (fi H 34 2)) := shp_int h rfl
theorem g_34_3 {H : List AC} (h : Shp H) : gfl H 34 8 3 = some (.int (fi H 34 3)) := shp_int h rfl
theorem rc_34 {H : List AC} (h : Shp H) : rcv H (some (.ref 34)) 8 = true := rcv_of (g_34_0 h)
theorem g_35_0 {H : List AC} (h : Shp H) : gfl H 35 0 0 = some (.ref 36) := shp_ref h rfl
theorem rc_35 {H : List AC} (h : Shp H) : rcv H (some (.ref 35)) 0 = true := rcv_of (g_35_0 h)
theorem ga_36 {H : List AC} (h : Shp H) : garr H 36 = some (ar H 36) := (shp_arr h (by decide) rfl).1
theorem gn_36 {H : List AC} (h : Shp H) : (ar H 36).length = 7 := (shp_arr h (by decide) rfl).2
theorem g_37_0 {H : List AC} (h : Shp H) : gfl H 37 0 0 = some (.ref 38) := shp_ref h rfl
theorem rc_37 {H : List AC} (h : Shp H) : rcv H (some (.ref 37)) 0 = true := rcv_of (g_37_0 h)
theorem ga_38 {H : List AC} (h : Shp H) : garr H 38 = some (ar H 38) := (shp_arr h (by decide) rfl).1
theorem gn_38 {H : List AC} (h : Shp H) : (ar H 38).length = 7 := (shp_arr h (by decide) rfl).2
theorem g_39_0 {H : List AC} (h : Shp H) : gfl H 39 0 0 = some (.ref 40) := shp_ref h rfl
theorem rc_39 {H : List AC} (h : Shp H) : rcv H (some (.ref 39)) 0 = true := rcv_of (g_39_0 h)
theorem ga_40 {H : List AC} (h : Shp H) : garr H 40 = some (ar H 40) := (shp_arr h (by decide) rfl).1
theorem gn_40 {H : List AC} (h : Shp H) : (ar H 40).length = 7 := (shp_arr h (by decide) rfl).2
theorem g_41_0 {H : List AC} (h : Shp H) : gfl H 41 0 0 = some (.ref 42) := shp_ref h rfl
theorem rc_41 {H : List AC} (h : Shp H) : rcv H (some (.ref 41)) 0 = true := rcv_of (g_41_0 h)
theorem ga_42 {H : List AC} (h : Shp H) : garr H 42 = some (ar H 42) := (shp_arr h (by decide) rfl).1
theorem gn_42 {H : List AC} (h : Shp H) : (ar H 42).length = 7 := (shp_arr h (by decide) rfl).2
theorem g_43_0 {H : List AC} (h : Shp H) : gfl H 43 1 0 = some (.ref 3) := shp_ref h rfl
theorem g_43_1 {H : List AC} (h : Shp H) : gfl H 43 1 1 = some (.ref 33) := shp_ref h rfl
theorem g_43_2 {H : List AC} (h : Shp H) : gfl H 43 1 2 = some (.int (fi H 43 2)) := shp_int h rfl
theorem g_43_3 {H : List AC} (h : Shp H) : gfl H 43 1 3 = some (.int (fi H 43 3)) := shp_int h rfl
theorem g_43_4 {H : List AC} (h : Shp H) : gfl H 43 1 4 = some (.int (fi H 43 4)) := shp_int h rfl
theorem g_43_5 {H : List AC} (h : Shp H) : gfl H 43 1 5 = some (.int (fi H 43 5)) := shp_int h rfl
theorem rc_43 {H : List AC} (h : Shp H) : rcv H (some (.ref 43)) 1 = true := rcv_of (g_43_0 h)
theorem g_44_0 {H : List AC} (h : Shp H) : gfl H 44 7 0 = some (.ref 3) := shp_ref h rfl
theorem g_44_1 {H : List AC} (h : Shp H) : gfl H 44 7 1 = some (.ref 33) := shp_ref h rfl
theorem g_44_2 {H : List AC} (h : Shp H) : gfl H 44 7 2 = some (.ref 45) := shp_ref h rfl
theorem g_44_3 {H : List AC} (h : Shp H) : gfl H 44 7 3 = some (.ref 48) := shp_ref h rfl
theorem g_44_4 {H : List AC} (h : Shp H) : gfl H 44 7 4 = some (.ref 50) := shp_ref h rfl
theorem g_44_5 {H : List AC} (h : Shp H) : gfl H 44 7 5 = some (.int (fi H 44 5)) := shp_int h rfl
theorem g_44_6 {H : List AC} (h : Shp H) : gfl H 44 7 6 = some (.int (fi H 44 6)) := shp_int h rfl
theorem g_44_7 {H : List AC} (h : Shp H) : gfl H 44 7 7 = some (.int (fi H 44 7)) := shp_int h rfl
theorem rc_44 {H : List AC} (h : Shp H) : rcv H (some (.ref 44)) 7 = true := rcv_of (g_44_0 h)
theorem g_45_0 {H : List AC} (h : Shp H) : gfl H 45 8 0 = some (.ref 46) := shp_ref h rfl
theorem g_45_1 {H : List AC} (h : Shp H) : gfl H 45 8 1 = some (.int (fi H 45 1)) := shp_int h rfl
theorem g_45_2 {H : List AC} (h : Shp H) : gfl H 45 8 2 = some (.int (fi H 45 2)) := shp_int h rfl
theorem g_45_3 {H : List AC} (h : Shp H) : gfl H 45 8 3 = some (.int (fi H 45 3)) := shp_int h rfl
theorem rc_45 {H : List AC} (h : Shp H) : rcv H (some (.ref 45)) 8 = true := rcv_of (g_45_0 h)
theorem g_46_0 {H : List AC} (h : Shp H) : gfl H 46 0 0 = some (.ref 47) := shp_ref h rfl
theorem rc_46 {H : List AC} (h : Shp H) : rcv H (some (.ref 46)) 0 = true := rcv_of (g_46_0 h)
theorem ga_47 {H : List AC} (h : Shp H) : garr H 47 = some (ar H 47) := (shp_arr h (by decide) rfl).1
theorem gn_47 {H : List AC} (h : Shp H) : (ar H 47).length = 7 := (shp_arr h (by decide) rfl).2
theorem g_48_0 {H : List AC} (h : Shp H) : gfl H 48 0 0 = some (.ref 49) := shp_ref h rfl
theorem rc_48 {H : List AC} (h : Shp H) : rcv H (some (.ref 48)) 0 = true := rcv_of (g_48_0 h)
theorem ga_49 {H : List AC} (h : Shp H) : garr H 49 = some (ar H 49) := (shp_arr h (by decide) rfl).1
theorem gn_49 {H : List AC} (h : Shp H) : (ar H 49).length = 21 := (shp_arr h (by decide) rfl).2
theorem g_50_0 {H : List AC} (h : Shp H) : gfl H 50 0 0 = some (.ref 51) := shp_ref h rfl
theorem rc_50 {H : List AC} (h : Shp H) : rcv H (some (.ref 50)) 0 = true := rcv_of (g_50_0 h)
theorem ga_51 {H : List AC} (h : Shp H) : garr H 51 = some (ar H 51) := (shp_arr h (by decide) rfl).1
theorem gn_51 {H : List AC} (h : Shp H) : (ar H 51).length = 147 := (shp_arr h (by decide) rfl).2
theorem g_52_0 {H : List AC} (h : Shp H) : gfl H 52 2 0 = some (.ref 3) := shp_ref h rfl
theorem g_52_1 {H : List AC} (h : Shp H) : gfl H 52 2 1 = some (.ref 33) := shp_ref h rfl
theorem g_52_2 {H : List AC} (h : Shp H) : gfl H 52 2 2 = some (.ref 53) := shp_ref h rfl
theorem g_52_3 {H : List AC} (h : Shp H) : gfl H 52 2 3 = some (.ref 55) := shp_ref h rfl
theorem g_52_4 {H : List AC} (h : Shp H) : gfl H 52 2 4 = some (.ref 57) := shp_ref h rfl
theorem g_52_5 {H : List AC} (h : Shp H) : gfl H 52 2 5 = some (.ref 59) := shp_ref h rfl
theorem g_52_6 {H : List AC} (h : Shp H) : gfl H 52 2 6 = some (.int (fi H 52 6)) := shp_int h rfl
theorem g_52_7 {H : List AC} (h : Shp H) : gfl H 52 2 7 = some (.int (fi H 52 7)) := shp_int h rfl
theorem rc_52 {H : List AC} (h : Shp H) : rcv H (some (.ref 52)) 2 = true := rcv_of (g_52_0 h)
theorem g_53_0 {H : List AC} (h : Shp H) : gfl H 53 0 0 = some (.ref 54) := shp_ref h rfl
theorem rc_53 {H : List AC} (h : Shp H) : rcv H (some (.ref 53)) 0 = true := rcv_of (g_53_0 h)
theorem ga_54 {H : List AC} (h : Shp H) : garr H 54 = some (ar H 54) := (shp_arr h (by decide) rfl).1
theorem gn_54 {H : List AC} (h : Shp H) : (ar H 54).length = 6 := (shp_arr h (by decide) rfl).2
theorem g_55_0 {H : List AC} (h : Shp H) : gfl H 55 0 0 = some (.ref 56) := shp_ref h rfl
theorem rc_55 {H : List AC} (h : Shp H) : rcv H (some (.ref 55)) 0 = true := rcv_of (g_55_0 h)
theorem ga_56 {H : List AC} (h : Shp H) : garr H 56 = some (ar H 56) := (shp_arr h (by decide) rfl).1
theorem gn_56 {H : List AC} (h : Shp H) : (ar H 56).length = 64 := (shp_arr h (by decide) rfl).2
theorem g_57_0 {H : List AC} (h : Shp H) : gfl H 57 0 0 = some (.ref 58) := shp_ref h rfl
theorem rc_57 {H : List AC} (h : Shp H) : rcv H (some (.ref 57)) 0 = true := rcv_of (g_57_0 h)
theorem ga_58 {H : List AC} (h : Shp H) : garr H 58 = some (ar H 58) := (shp_arr h (by decide) rfl).1
theorem gn_58 {H : List AC} (h : Shp H) : (ar H 58).length = 729 := (shp_arr h (by decide) rfl).2
theorem g_59_0 {H : List AC} (h : Shp H) : gfl H 59 0 0 = some (.ref 60) := shp_ref h rfl
theorem rc_59 {H : List AC} (h : Shp H) : rcv H (some (.ref 59)) 0 = true := rcv_of (g_59_0 h)
theorem ga_60 {H : List AC} (h : Shp H) : garr H 60 = some (ar H 60) := (shp_arr h (by decide) rfl).1
theorem gn_60 {H : List AC} (h : Shp H) : (ar H 60).length = 729 := (shp_arr h (by decide) rfl).2
theorem g_61_0 {H : List AC} (h : Shp H) : gfl H 61 3 0 = some (.ref 3) := shp_ref h rfl
theorem g_61_1 {H : List AC} (h : Shp H) : gfl H 61 3 1 = some (.ref 33) := shp_ref h rfl
theorem g_61_2 {H : List AC} (h : Shp H) : gfl H 61 3 2 = some (.long (fl H 61 2)) := shp_long h rfl
theorem g_61_3 {H : List AC} (h : Shp H) : gfl H 61 3 3 = some (.long (fl H 61 3)) := shp_long h rfl
theorem rc_61 {H : List AC} (h : Shp H) : rcv H (some (.ref 61)) 3 = true := rcv_of (g_61_0 h)
theorem g_62_0 {H : List AC} (h : Shp H) : gfl H 62 5 0 = some (.int (fi H 62 0)) := shp_int h rfl
theorem g_62_1 {H : List AC} (h : Shp H) : gfl H 62 5 1 = some (.ref 63) := shp_ref h rfl
theorem g_62_2 {H : List AC} (h : Shp H) : gfl H 62 5 2 = some (.int (fi H 62 2)) := shp_int h rfl
theorem g_62_3 {H : List AC} (h : Shp H) : gfl H 62 5 3 = some (.int (fi H 62 3)) := shp_int h rfl
theorem rc_62 {H : List AC} (h : Shp H) : rcv H (some (.ref 62)) 5 = true := rcv_of (g_62_0 h)
theorem g_63_0 {H : List AC} (h : Shp H) : gfl H 63 0 0 = some (.ref 64) := shp_ref h rfl
theorem rc_63 {H : List AC} (h : Shp H) : rcv H (some (.ref 63)) 0 = true := rcv_of (g_63_0 h)
theorem ga_64 {H : List AC} (h : Shp H) : garr H 64 = some (ar H 64) := (shp_arr h (by decide) rfl).1
theorem gn_64 {H : List AC} (h : Shp H) : (ar H 64).length = 160 := (shp_arr h (by decide) rfl).2
theorem g_65_0 {H : List AC} (h : Shp H) : gfl H 65 5 0 = some (.int (fi H 65 0)) := shp_int h rfl
theorem g_65_1 {H : List AC} (h : Shp H) : gfl H 65 5 1 = some (.ref 66) := shp_ref h rfl
theorem g_65_2 {H : List AC} (h : Shp H) : gfl H 65 5 2 = some (.int (fi H 65 2)) := shp_int h rfl
theorem g_65_3 {H : List AC} (h : Shp H) : gfl H 65 5 3 = some (.int (fi H 65 3)) := shp_int h rfl
theorem rc_65 {H : List AC} (h : Shp H) : rcv H (some (.ref 65)) 5 = true := rcv_of (g_65_0 h)
theorem g_66_0 {H : List AC} (h : Shp H) : gfl H 66 0 0 = some (.ref 67) := shp_ref h rfl
theorem rc_66 {H : List AC} (h : Shp H) : rcv H (some (.ref 66)) 0 = true := rcv_of (g_66_0 h)
theorem ga_67 {H : List AC} (h : Shp H) : garr H 67 = some (ar H 67) := (shp_arr h (by decide) rfl).1
theorem gn_67 {H : List AC} (h : Shp H) : (ar H 67).length = 30 := (shp_arr h (by decide) rfl).2
theorem g_68_0 {H : List AC} (h : Shp H) : gfl H 68 12 0 = some (.int (fi H 68 0)) := shp_int h rfl
theorem g_68_1 {H : List AC} (h : Shp H) : gfl H 68 12 1 = some (.ref 69) := shp_ref h rfl
theorem g_68_2 {H : List AC} (h : Shp H) : gfl H 68 12 2 = some (.int (fi H 68 2)) := shp_int h rfl
theorem g_68_3 {H : List AC} (h : Shp H) : gfl H 68 12 3 = some (.int (fi H 68 3)) := shp_int h rfl
theorem g_68_4 {H : List AC} (h : Shp H) : gfl H 68 12 4 = some (.int (fi H 68 4)) := shp_int h rfl
theorem g_68_5 {H : List AC} (h : Shp H) : gfl H 68 12 5 = some (.int (fi H 68 5)) := shp_int h rfl
theorem g_68_6 {H : List AC} (h : Shp H) : gfl H 68 12 6 = some (.int (fi H 68 6)) := shp_int h rfl
theorem g_68_7 {H : List AC} (h : Shp H) : gfl H 68 12 7 = some (.int (fi H 68 7)) := shp_int h rfl
theorem g_68_8 {H : List AC} (h : Shp H) : gfl H 68 12 8 = some (.int (fi H 68 8)) := shp_int h rfl
theorem g_68_9 {H : List AC} (h : Shp H) : gfl H 68 12 9 = some (.int (fi H 68 9)) := shp_int h rfl
theorem g_68_10 {H : List AC} (h : Shp H) : gfl H 68 12 10 = some (.int (fi H 68 10)) := shp_int h rfl
theorem g_68_11 {H : List AC} (h : Shp H) : gfl H 68 12 11 = some (.int (fi H 68 11)) := shp_int h rfl
theorem g_68_12 {H : List AC} (h : Shp H) : gfl H 68 12 12 = some (.ref 70) := shp_ref h rfl
theorem g_68_13 {H : List AC} (h : Shp H) : gfl H 68 12 13 = some (.int (fi H 68 13)) := shp_int h rfl
theorem g_68_14 {H : List AC} (h : Shp H) : gfl H 68 12 14 = some (.int (fi H 68 14)) := shp_int h rfl
theorem g_68_15 {H : List AC} (h : Shp H) : gfl H 68 12 15 = some (.ref 71) := shp_ref h rfl
theorem g_68_16 {H : List AC} (h : Shp H) : gfl H 68 12 16 = some (.ref 72) := shp_ref h rfl
theorem g_68_17 {H : List AC} (h : Shp H) : gfl H 68 12 17 = some (.ref 73) := shp_ref h rfl
theorem g_68_18 {H : List AC} (h : Shp H) : gfl H 68 12 18 = some (.ref 74) := shp_ref h rfl
theorem g_68_19 {H : List AC} (h : Shp H) : gfl H 68 12 19 = some (.ref 75) := shp_ref h rfl
theorem g_68_20 {H : List AC} (h : Shp H) : gfl H 68 12 20 = some (.int (fi H 68 20)) := shp_int h rfl
theorem g_68_21 {H : List AC} (h : Shp H) : gfl H 68 12 21 = some (.int (fi H 68 21)) := shp_int h rfl
theorem g_68_22 {H : List AC} (h : Shp H) : gfl H 68 12 22 = some (.int (fi H 68 22)) := shp_int h rfl
theorem g_68_23 {H : List AC} (h : Shp H) : gfl H 68 12 23 = some (.ref 76) := shp_ref h rfl
theorem g_68_24 {H : List AC} (h : Shp H) : gfl H 68 12 24 = some (.ref 77) := shp_ref h rfl
theorem g_68_25 {H : List AC} (h : Shp H) : gfl H 68 12 25 = some (.ref 78) := shp_ref h rfl
theorem g_68_26 {H : List AC} (h : Shp H) : gfl H 68 12 26 = some (.ref 79) := shp_ref h rfl
theorem g_68_27 {H : List AC} (h : Shp H) : gfl H 68 12 27 = some (.ref 80) := shp_ref h rfl
theorem g_68_28 {H : List AC} (h : Shp H) : gfl H 68 12 28 = some (.int (fi H 68 28)) := shp_int h rfl
theorem g_68_29 {H : List AC} (h : Shp H) : gfl H 68 12 29 = some (.int (fi H 68 29)) := shp_int h rfl
theorem g_68_30 {H : List AC} (h : Shp H) : gfl H 68 12 30 = some (.int (fi H 68 30)) := shp_int h rfl
theorem g_68_31 {H : List AC} (h : Shp H) : gfl H 68 12 31 = some (.int (fi H 68 31)) := shp_int h rfl
theorem g_68_32 {H : List AC} (h : Shp H) : gfl H 68 12 32 = some (.int (fi H 68 32)) := shp_int h rfl
theorem g_68_33 {H : List AC} (h : Shp H) : gfl H 68 12 33 = some (.ref 81) := shp_ref h rfl
theorem g_68_34 {H : List AC} (h : Shp H) : gfl H 68 12 34 = some (.ref 82) := shp_ref h rfl
theorem g_68_35 {H : List AC} (h : Shp H) : gfl H 68 12 35 = some (.long (fl H 68 35)) := shp_long h rfl
theorem g_68_36 {H : List AC} (h : Shp H) : gfl H 68 12 36 = some (.long (fl H 68 36)) := shp_long h rfl
theorem g_68_37 {H : List AC} (h : Shp H) : gfl H 68 12 37 = some (.long (fl H 68 37)) := shp_long h rfl
theorem g_68_38 {H : List AC} (h : Shp H) : gfl H 68 12 38 = some (.long (fl H 68 38)) := shp_long h rfl
theorem g_68_39 {H : List AC} (h : Shp H) : gfl H 68 12 39 = some (.int (fi H 68 39)) := shp_int h rfl
theorem rc_68 {H : List AC} (h : Shp H) : rcv H (some (.ref 68)) 12 = true := rcv_of (g_68_0 h)
theorem ga_69 {H : List AC} (h : Shp H) : garr H 69 = some (ar H 69) := (shp_arr h (by decide) rfl).1
theorem gn_69 {H : List AC} (h : Shp H) : (ar H 69).length = 900 := (shp_arr h (by decide) rfl).2
theorem ga_70 {H : List AC} (h : Shp H) : garr H 70 = some (ar H 70) := (shp_arr h (by decide) rfl).1
theorem gn_70 {H : List AC} (h : Shp H) : (ar H 70).length = 8 := (shp_arr h (by decide) rfl).2
theorem ga_71 {H : List AC} (h : Shp H) : garr H 71 = some (ar H 71) := (shp_arr h (by decide) rfl).1
theorem gn_71 {H : List AC} (h : Shp H) : (ar H 71).length = 211 := (shp_arr h (by decide) rfl).2
theorem ga_72 {H : List AC} (h : Shp H) : garr H 72 = some (ar H 72) := (shp_arr h (by decide) rfl).1
theorem gn_72 {H : List AC} (h : Shp H) : (ar H 72).length = 211 := (shp_arr h (by decide) rfl).2
theorem ga_73 {H : List AC} (h : Shp H) : garr H 73 = some (ar H 73) := (shp_arr h (by decide) rfl).1
theorem gn_73 {H : List AC} (h : Shp H) : (ar H 73).length = 10 := (shp_arr h (by decide) rfl).2
theorem ga_74 {H : List AC} (h : Shp H) : garr H 74 = some (ar H 74) := (shp_arr h (by decide) rfl).1
theorem gn_74 {H : List AC} (h : Shp H) : (ar H 74).length = 160 := (shp_arr h (by decide) rfl).2
theorem ga_75 {H : List AC} (h : Shp H) : garr H 75 = some (ar H 75) := (shp_arr h (by decide) rfl).1
theorem gn_75 {H : List AC} (h : Shp H) : (ar H 75).length = 30 := (shp_arr h (by decide) rfl).2
theorem ga_76 {H : List AC} (h : Shp H) : garr H 76 = some (ar H 76) := (shp_arr h (by decide) rfl).1
theorem gn_76 {H : List AC} (h : Shp H) : (ar H 76).length = 7 := (shp_arr h (by decide) rfl).2
theorem ga_77 {H : List AC} (h : Shp H) : garr H 77 = some (ar H 77) := (shp_arr h (by decide) rfl).1
theorem gn_77 {H : List AC} (h : Shp H) : (ar H 77).length = 10 := (shp_arr h (by decide) rfl).2
theorem ga_78 {H : List AC} (h : Shp H) : garr H 78 = some (ar H 78) := (shp_arr h (by decide) rfl).1
theorem gn_78 {H : List AC} (h : Shp H) : (ar H 78).length = 10 := (shp_arr h (by decide) rfl).2
theorem ga_79 {H : List AC} (h : Shp H) : garr H 79 = some (ar H 79) := (shp_arr h (by decide) rfl).1
theorem gn_79 {H : List AC} (h : Shp H) : (ar H 79).length = 21 := (shp_arr h (by decide) rfl).2
theorem ga_80 {H : List AC} (h : Shp H) : garr H 80 = some (ar H 80) := (shp_arr h (by decide) rfl).1
theorem gn_80 {H : List AC} (h : Shp H) : (ar H 80).length = 147 := (shp_arr h (by decide) rfl).2
theorem ga_81 {H : List AC} (h : Shp H) : garr H 81 = some (ar H 81) := (shp_arr h (by decide) rfl).1
theorem gn_81 {H : List AC} (h : Shp H) : (ar H 81).length = 64 := (shp_arr h (by decide) rfl).2
theorem ga_82 {H : List AC} (h : Shp H) : garr H 82 = some (ar H 82) := (shp_arr h (by decide) rfl).1
theorem gn_82 {H : List AC} (h : Shp H) : (ar H 82).length = 16384 := (shp_arr h (by decide) rfl).2
