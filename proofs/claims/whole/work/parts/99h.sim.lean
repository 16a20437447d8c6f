/-! ===== the abstract machine's steps are the machine's ===== -/
def skf (skA : Nat → Nat) (v9 : Value) (j : Nat) : Value := if j < 200 ∨ j = 1000 then .ref (skA j) else v9
def cv (skA : Nat → Nat) (v9 : Value) (ad : List Nat) (v : Value) : Value := match v with
  | .ref i => .ref (ad.getD i 0)
  | .retAddr j => skf skA v9 j
  | .int x => .int x
  | .long x => .long x
  | .float x => .float x
  | .double x => .double x
  | .null => .null
def ce (cI cL : ClassId) (skA : Nat → Nat) (v9 : Value) (ad : List Nat) (c : AC) : va_E := match c with
  | .inl (ci, fs) => .inr (ci, fs.map (cv skA v9 ad))
  | .inr (.inl xs) => .inl (cI, xs.length, .inl (fun j => xs.getD j 0))
  | .inr (.inr xs) => .inl (cL, xs.length, .inr (.inl (fun j => xs.getD j 0)))
def wsA (cI cL : ClassId) (skA : Nat → Nat) (v9 : Value) (ad : List Nat) (H : List AC) : va_W := List.zipWith (fun a c => (a, ce cI cL skA v9 ad c)) ad H
section PURE
variable {cI cL : ClassId} {skA : Nat → Nat} {v9 : Value} {ad : List Nat} {H : List AC} {i a : Nat} {c c0 : AC}
theorem cv_cat (h9 : v9.category = 1) (v : Value) : (cv skA v9 ad v).category = v.category := by
  cases v <;> try rfl
  show (skf skA v9 _).category = 1
  unfold skf
  split
  · rfl
  · exact h9
theorem wsA_get (hl : ad.length = H.length) (h : H[i]? = some c) : (wsA cI cL skA v9 ad H)[i]? = some (ad.getD i 0, ce cI cL skA v9 ad c) := by
  have hi : i < ad.length := by rw [hl]; exact (List.getElem?_eq_some_iff.mp h).1
  unfold wsA
  rw [List.getElem?_zipWith, h, List.getElem?_eq_getElem hi]
  simp [List.getD_eq_getElem?_getD, List.getElem?_eq_getElem hi]
theorem wsA_inv (hl : ad.length = H.length) {q : Nat × va_E} (h : (wsA cI cL skA v9 ad H)[i]? = some q) : ∃ c, H[i]? = some c ∧ q = (ad.getD i 0, ce cI cL skA v9 ad c) := by
  cases hc : H[i]? with
  | none =>
    unfold wsA at h
    rw [List.getElem?_zipWith, hc] at h
    cases hq : ad[i]? <;> simp [hq] at h
  | some c =>
    rw [wsA_get hl hc] at h
    cases h
    exact ⟨c, rfl, rfl⟩
theorem wsA_set (hl : ad.length = H.length) (h : H[i]? = some c0) : (wsA cI cL skA v9 ad H).set i (ad.getD i 0, ce cI cL skA v9 ad c) = wsA cI cL skA v9 ad (H.set i c) := by
  have hi : i < H.length := (List.getElem?_eq_some_iff.mp h).1
  apply List.ext_getElem?
  intro j
  have hlen : (wsA cI cL skA v9 ad H).length = H.length := by simp [wsA, hl]
  rw [List.getElem?_set]
  by_cases hij : i = j
  · subst hij
    rw [if_pos rfl, if_pos (by rw [hlen]; exact hi)]
    exact (wsA_get (by simp [hl]) (by rw [List.getElem?_set_self hi])).symm
  · rw [if_neg hij]
    unfold wsA
    rw [List.getElem?_zipWith, List.getElem?_zipWith, List.getElem?_set_ne hij]
theorem gfl_spec {ci f : Nat} {v : Value} (h : gfl H a ci f = some v) : ∃ fs, H[a]? = some (.inl (ci, fs)) ∧ fs[f]? = some v := by
  unfold gfl at h
  split at h
  · rename_i c fs h1
    split at h
    · rename_i hc
      subst hc
      exact ⟨fs, h1, h⟩
    · cases h
  · cases h
theorem garr_spec {xs : List Int32} (h : garr H a = some xs) : H[a]? = some (.inr (.inl xs)) := by
  unfold garr at h
  split at h
  · rename_i ys h1
    cases h
    exact h1
  · cases h
theorem garl_spec {xs : List Int64} (h : garl H a = some xs) : H[a]? = some (.inr (.inr xs)) := by
  unfold garl at h
  split at h
  · rename_i ys h1
    cases h
    exact h1
  · cases h
theorem hpf_eq {ci f : Nat} {fs : List Value} {v : Value} (h : H[a]? = some (.inl (ci, fs))) : hpf H a f v = H.set a (.inl (ci, fs.set f v)) := by
  unfold hpf; rw [h]
theorem hpa_eq {xs ys : List Int32} (h : H[a]? = some (.inr (.inl ys))) : hpa H a xs = H.set a (.inr (.inl xs)) := by
  unfold hpa; rw [h]
theorem hpl_eq {xs ys : List Int64} (h : H[a]? = some (.inr (.inr ys))) : hpl H a xs = H.set a (.inr (.inr xs)) := by
  unfold hpl; rw [h]
theorem sum_set {L : List Nat} {i x y : Nat} (h : L[i]? = some y) (e : x = y) : (L.set i x).sum = L.sum := by
  subst e
  have : L.set i x = L := by
    apply List.ext_getElem?
    intro j
    rw [List.getElem?_set]
    by_cases hij : i = j
    · subst hij
      rw [if_pos rfl, if_pos (List.getElem?_eq_some_iff.mp h).1, h]
    · rw [if_neg hij]
  rw [this]
theorem hsz_set (h : H[i]? = some c0) (e : csz c = csz c0) : hsz (H.set i c) = hsz H := by
  unfold hsz
  rw [List.map_set]
  exact sum_set (by rw [List.getElem?_map, h]; rfl) e
theorem hsz_push : hsz (H ++ [c]) = hsz H + csz c := by simp [hsz]
theorem cv_ok {q : Nat} {v : Value} (h : vok ad.length v = true) : cv skA v9 (ad ++ [q]) v = cv skA v9 ad v := by
  cases v <;> try rfl
  rename_i j
  have hj : j < ad.length := by simpa [vok] using h
  simp [cv, List.getD_eq_getElem?_getD, List.getElem?_append_left hj]
theorem cv_pre {ad' : List Nat} (hp : ad <+: ad') {v : Value} (h : vok ad.length v = true) : cv skA v9 ad' v = cv skA v9 ad v := by
  obtain ⟨t, rfl⟩ := hp
  cases v <;> try rfl
  rename_i j
  have hj : j < ad.length := by simpa [vok] using h
  simp [cv, List.getD_eq_getElem?_getD, List.getElem?_append_left hj]
theorem map_pre {ad' : List Nat} (hp : ad <+: ad') {st : List Value} (h : sok ad.length st = true) : st.map (cv skA v9 ad') = st.map (cv skA v9 ad) := by
  apply List.map_congr_left
  intro v hv
  exact cv_pre hp (List.all_eq_true.mp h v hv)
theorem ce_pre {ad' : List Nat} (hp : ad <+: ad') (h : ∀ ci fs, c = .inl (ci, fs) → fs.all (vok ad.length) = true) : ce cI cL skA v9 ad' c = ce cI cL skA v9 ad c := by
  rcases c with ⟨ci, fs⟩ | xs | xs
  · show (Sum.inr _ : va_E) = Sum.inr _
    rw [show fs.map (cv skA v9 ad') = fs.map (cv skA v9 ad) from map_pre hp (h ci fs rfl)]
  · rfl
  · rfl
theorem wsA_push {q : Nat} (hl : ad.length = H.length) (hok' : hok H.length H = true) : wsA cI cL skA v9 (ad ++ [q]) (H ++ [c]) = wsA cI cL skA v9 ad H ++ [(q, ce cI cL skA v9 (ad ++ [q]) c)] := by
  unfold wsA
  rw [List.zipWith_append hl]
  congr 1
  apply List.ext_getElem?
  intro j
  rw [List.getElem?_zipWith, List.getElem?_zipWith]
  cases h1 : ad[j]? with
  | none => rfl
  | some a =>
    cases h2 : H[j]? with
    | none => rfl
    | some c =>
      simp only
      rw [ce_pre (List.prefix_append ad [q])]
      intro ci fs hc
      have := List.all_eq_true.mp hok' c (List.mem_of_getElem? h2)
      rw [hc] at this
      rw [hl]
      exact this
end PURE
/-- the locals -/
def LR (skA : Nat → Nat) (v9 : Value) (ad : List Nat) (ls : ALs) (lsC : Array Jvm.Slot) (nL : Nat) : Prop := ls.length = nL ∧ lsC.size = nL ∧ lv_wf lsC ∧ ∀ (i : Nat) (v : Value), ls[i]? = some (some v) → lsC[i]? = some (Jvm.Slot.val (cv skA v9 ad v))
def lvL (skA : Nat → Nat) (v9 : Value) (ad : List Nat) (ls : ALs) : List (Nat × Value) := (List.range ls.length).filterMap (fun i => (lgt ls i).map (fun v => (i, cv skA v9 ad v)))
section LRS
variable {skA : Nat → Nat} {v9 : Value} {ad : List Nat} {ls : ALs} {lsC : Array Jvm.Slot} {nL : Nat}
theorem lgt_some {i : Nat} {v : Value} : lgt ls i = some v ↔ ls[i]? = some (some v) := by
  unfold lgt
  cases h : ls[i]? with
  | none => simp
  | some o => simp
theorem LR.get (h : LR skA v9 ad ls lsC nL) {i : Nat} {v : Value} (hv : lgt ls i = some v) : lsC[i]? = some (Jvm.Slot.val (cv skA v9 ad v)) := h.2.2.2 i v (lgt_some.mp hv)
theorem mem_lvL {i : Nat} {x : Value} : (i, x) ∈ lvL skA v9 ad ls ↔ ∃ v, ls[i]? = some (some v) ∧ x = cv skA v9 ad v := by
  unfold lvL
  rw [List.mem_filterMap]
  constructor
  · rintro ⟨j, -, hj⟩
    cases hg : lgt ls j with
    | none => simp [hg] at hj
    | some v =>
      simp only [hg, Option.map_some, Option.some.injEq, Prod.mk.injEq] at hj
      obtain ⟨rfl, rfl⟩ := hj
      exact ⟨v, lgt_some.mp hg, rfl⟩
  · rintro ⟨v, hv, rfl⟩
    exact ⟨i, List.mem_range.mpr (List.getElem?_eq_some_iff.mp hv).1, by rw [lgt_some.mpr hv]; rfl⟩
theorem LR.has (h : LR skA v9 ad ls lsC nL) : lv_has lsC nL (lvL skA v9 ad ls) := by
  refine ⟨h.2.1, h.2.2.1, ?_⟩
  rintro ⟨i, x⟩ hq
  obtain ⟨v, hv, rfl⟩ := mem_lvL.mp hq
  exact h.2.2.2 i v hv
theorem lcl_length {i : Nat} : (lcl ls i).length = ls.length := by
  unfold lcl
  split
  · rfl
  · split
    · split <;> simp
    · rfl
theorem lcl_get {i j : Nat} {w : Value} (h : (lcl ls i)[j]? = some (some w)) : ls[j]? = some (some w) ∧ ¬ (j + 1 = i ∧ w.category = 2) := by
  unfold lcl at h
  split at h
  · exact ⟨h, fun q => by omega⟩
  · rename_i n
    split at h
    · rename_i v hv
      split at h
      · rename_i hc
        rw [List.getElem?_set] at h
        split at h
        · split at h <;> cases h
        · rename_i hne
          exact ⟨h, fun q => hne (by omega)⟩
      · rename_i hc
        refine ⟨h, fun q => hc ?_⟩
        have : j = n := by omega
        subst this
        rw [hv] at h
        cases h
        exact q.2
    · rename_i hv
      refine ⟨h, fun q => ?_⟩
      have : j = n := by omega
      subst this
      exact hv w h
theorem LR.st1 (h9 : v9.category = 1) (h : LR skA v9 ad ls lsC nL) {i : Nat} {v : Value} {ls' : Array Jvm.Slot} (hi : i < ls.length) (h' : lv_has ls' nL ((i, cv skA v9 ad v) :: (lvL skA v9 ad ls).filter (fun q => !(q.1 == i) && !(q.1 + 1 == i && q.2.category == 2)))) : LR skA v9 ad (lst1 ls i v) ls' nL := by
  refine ⟨by rw [lst1, List.length_set, lcl_length]; exact h.1, h'.1, h'.2.1, fun j w hj => ?_⟩
  unfold lst1 at hj
  rw [List.getElem?_set] at hj
  split at hj
  · rename_i e
    subst e
    split at hj
    · cases hj
      exact h'.2.2 (i, _) List.mem_cons_self
    · cases hj
  · rename_i hne
    obtain ⟨h1, h2⟩ := lcl_get hj
    refine h'.2.2 (j, cv skA v9 ad w) (List.mem_cons_of_mem _ (List.mem_filter.mpr ⟨mem_lvL.mpr ⟨w, h1, rfl⟩, ?_⟩))
    simp only [cv_cat h9, Bool.and_eq_true, Bool.not_eq_true', beq_eq_false_iff_ne, Bool.and_eq_false_iff, ne_eq]
    refine ⟨fun e => hne e.symm, ?_⟩
    by_cases hj1 : j + 1 = i
    · exact Or.inr (fun e => h2 ⟨hj1, e⟩)
    · exact Or.inl hj1
theorem LR.st2 (h9 : v9.category = 1) (h : LR skA v9 ad ls lsC nL) {i : Nat} {v : Value} {ls' : Array Jvm.Slot} (hi : i + 1 < ls.length) (h' : lv_has ls' nL ((i, cv skA v9 ad v) :: (lvL skA v9 ad ls).filter (fun q => !(q.1 == i) && (!(q.1 == i + 1) && !(q.1 + 1 == i && q.2.category == 2))))) : LR skA v9 ad (lst2 ls i v) ls' nL := by
  refine ⟨by rw [lst2, List.length_set, List.length_set, lcl_length]; exact h.1, h'.1, h'.2.1, fun j w hj => ?_⟩
  unfold lst2 at hj
  rw [List.getElem?_set] at hj
  split at hj
  · split at hj <;> cases hj
  · rename_i hne1
    rw [List.getElem?_set] at hj
    split at hj
    · rename_i e
      subst e
      split at hj
      · cases hj
        exact h'.2.2 (i, _) List.mem_cons_self
      · cases hj
    · rename_i hne
      obtain ⟨h1, h2⟩ := lcl_get hj
      refine h'.2.2 (j, cv skA v9 ad w) (List.mem_cons_of_mem _ (List.mem_filter.mpr ⟨mem_lvL.mpr ⟨w, h1, rfl⟩, ?_⟩))
      simp only [cv_cat h9, Bool.and_eq_true, Bool.not_eq_true', beq_eq_false_iff_ne, Bool.and_eq_false_iff, ne_eq]
      refine ⟨fun e => hne e.symm, fun e => hne1 e.symm, ?_⟩
      by_cases hj1 : j + 1 = i
      · exact Or.inr (fun e => h2 ⟨hj1, e⟩)
      · exact Or.inl hj1
theorem LR.pre {ad' : List Nat} (hp : ad <+: ad') (hk : lok ad.length ls = true) (h : LR skA v9 ad ls lsC nL) : LR skA v9 ad' ls lsC nL := by
  refine ⟨h.1, h.2.1, h.2.2.1, fun i v hv => ?_⟩
  have h1 := List.all_eq_true.mp hk (some v) (List.mem_of_getElem? hv)
  rw [cv_pre hp h1]
  exact h.2.2.2 i v hv
end LRS
/-- what is the same in all states: classes, rows' classes, nest words; strings and statics -/
def DCL : List MethodName := [Bundle.init0 "java/lang/RuntimeException", Bundle.init0 "java/lang/Exception", Bundle.init0 Bundle.tN]
def Dc (U : State) : Prop := ∀ x ∈ DCL, (Cond.declares x).before #[] U = true
theorem dc_any {args : Array Value} {s : State} {x : MethodName} (h : (Cond.declares x).before #[] s = true) : (Cond.declares x).before args s = true := by
  have e := Cond.onTables_vm (A := args) (A' := #[]) (U := s) (U' := s) s.vm (.declares x) rfl
  exact (show (Cond.declares x).before args s = (Cond.declares x).before #[] s from e).trans h
theorem Dc.alike {s U : State} (hA : s.vm.Alike U.vm) (h : Dc s) : Dc U := fun x hx => by
  have e := Cond.onTables_vm (A := #[]) (A' := #[]) (U := U) (U' := s) U.vm (.declares x) rfl
  exact (show (Cond.declares x).before #[] U = (Cond.declares x).before #[] (s.setVm U.vm) from e).trans ((Cond.declares_setVm hA x).trans (h x hx))
def Wd (D : va_G) (cI cL : ClassId) (U : State) : Prop := va_K D vwC [(cI, .int), (cL, .long)] U ∧ (∀ w ∈ NTB, va_Nw w U) ∧ Dc U
def Sd (skA : Nat → Nat) (v9 : Value) (A : Nat → Prop) (U : State) (H : Heap) : Prop := (∀ i : Nat, i < 19 → va_O "java/lang/String" (skA i) A U H ∧ va_OF "java/lang/String" "coder" "B" (.int 0) (skA i) A U H ∧ va_OF "java/lang/String" "value" "[B" (.ref (skA (100 + i))) (skA i) A U H ∧ va_T .byte (skA (100 + i)) ((bytS.map List.length).getD i 0) (fun j => .int ((bytS.getD i []).getD j 0)) A U H) ∧ (∀ own n j, j < 19 → Cond.stringRef own n (txs.getD j "") ∈ lw_tbl → vk_R own n (txs.getD j "") (skA j) U) ∧ va_Z "java/lang/String" "COMPACT_STRINGS" "Z" (.int 1) A U H ∧ (va_Z "jdk/internal/util/Preconditions" "SIOOBE_FORMATTER" "Ljava/util/function/BiFunction;" v9 A U H ∧ vx_Zq Bundle.tN "UNASSIGNED_STACK" Bundle.steD A U H ∧ vx_Zq Bundle.tN "SUPPRESSED_SENTINEL" Bundle.listD A U H) ∧ v9.category = 1
theorem Wd.warm {D : va_G} {cI cL : ClassId} {s U : State} (hW : s.WarmedH U.vm) (h : Wd D cI cL s) : Wd D cI cL U := by
  refine ⟨va_K.moved hW.alike h.1, fun w hw => ?_, h.2.2.alike hW.alike⟩
  have h1 := h.2.1 w hw
  have h2 := (List.mem_filter.mp hw).2
  unfold isNest at h2
  split at h2
  · exact va_Nw.warmF hW h1
  · exact va_Nw.warmM hW h1
  · cases h2
theorem Wd.same {D : va_G} {cI cL : ClassId} {s U : State} (hv : U.vm = s.vm) (h : Wd D cI cL s) : Wd D cI cL U := by
  refine ⟨va_K.moved (by rw [hv]; exact Vm.Alike.refl _) h.1, fun w hw => va_Nw.same ?_ hv.symm (h.2.1 w hw), h.2.2.alike (by rw [hv]; exact Vm.Alike.refl _)⟩
  have h2 := (List.mem_filter.mp hw).2
  unfold isNest at h2
  split at h2
  · rfl
  · rfl
  · cases h2
theorem Sd.warm {skA : Nat → Nat} {v9 : Value} {A B : Nat → Prop} {s U : State} {H0 H : Heap} (hW : s.WarmedH U.vm) (hq : ∀ a : Nat, a < H0.size → ¬ A a → H[a]? = H0[a]?) (hAB : ∀ q, B q → A q) (h : Sd skA v9 A s H0) : Sd skA v9 B U H :=
  ⟨fun i hi => ⟨va_O.moved hW.alike (((h.1 i hi).1.kept hq).narrow hAB), va_OF.moved hW.alike (((h.1 i hi).2.1.kept hq).narrow hAB), va_OF.moved hW.alike (((h.1 i hi).2.2.1.kept hq).narrow hAB), va_T.moved hW.alike (((h.1 i hi).2.2.2.kept hq).narrow hAB)⟩, fun own n j hj hm => vk_R.warm hW (h.2.1 own n j hj hm), ((h.2.2.1.kept hq).narrow hAB).moved hW.alike, ⟨((h.2.2.2.1.1.kept hq).narrow hAB).moved hW.alike, vx_Zq.moved hW.alike (vx_Zq.narrow (vx_Zq.kept h.2.2.2.1.2.1 hq) hAB), vx_Zq.moved hW.alike (vx_Zq.narrow (vx_Zq.kept h.2.2.2.1.2.2 hq) hAB)⟩, h.2.2.2.2⟩
theorem Sd.same {skA : Nat → Nat} {v9 : Value} {A : Nat → Prop} {s U : State} {H : Heap} (hv : U.vm = s.vm) (h : Sd skA v9 A s H) : Sd skA v9 A U H :=
  ⟨fun i hi => ⟨va_O.moved (by rw [hv]; exact Vm.Alike.refl _) (h.1 i hi).1, va_OF.moved (by rw [hv]; exact Vm.Alike.refl _) (h.1 i hi).2.1, va_OF.moved (by rw [hv]; exact Vm.Alike.refl _) (h.1 i hi).2.2.1, va_T.moved (by rw [hv]; exact Vm.Alike.refl _) (h.1 i hi).2.2.2⟩, fun own n j hj hm => vk_R.same hv (h.2.1 own n j hj hm), h.2.2.1.moved (by rw [hv]; exact Vm.Alike.refl _), ⟨h.2.2.2.1.1.moved (by rw [hv]; exact Vm.Alike.refl _), vx_Zq.moved (by rw [hv]; exact Vm.Alike.refl _) h.2.2.2.1.2.1, vx_Zq.moved (by rw [hv]; exact Vm.Alike.refl _) h.2.2.2.1.2.2⟩, h.2.2.2.2⟩
def Cx (scr : List Int32) (k : Nat) (p : Program) (s : State) (m : MethodId) (args : Array Value) (meth : Method) (c : Code) (A : Nat → Prop) (D : va_G) (cI cL : ClassId) (skA : Nat → Nat) (v9 : Value) : Prop :=
  p.tables.exec = Jvm.exec ∧ c.code = mCd k ∧ c.maxLocals = mMax k ∧ s.vm.findClass (mNm k).cls = some m.cls ∧ (∀ w ∈ TBL, w.before args s = true) ∧ Wd D cI cL s ∧ Sd skA v9 A s s.heap ∧ (∀ q, s.heap.size ≤ q → A q) ∧ ((mNm k).name = "<init>" → meth.name = "<init>") ∧ (k = 0 → va_X (skA 1000) scr.length (fun j => scr.getD j 0) s s.heap ∧ skA 1000 < s.heap.size ∧ ¬ A (skA 1000))
def Rl (A : Nat → Prop) (D : va_G) (cI cL : ClassId) (skA : Nat → Nat) (v9 : Value) (ad : List Nat) (AH : List AC) (s : State) (H : Heap) (locs : List Loc) : Prop := ad.length = AH.length ∧ va_P D vwC (wsA cI cL skA v9 ad AH) H ∧ va_D A (wsA cI cL skA v9 ad AH) ∧ va_S A s.heap H locs
/-- on from a step: any state of the machine that holds what the abstract one has come to -/
def Go (l : Launch) (D : va_G) (cI cL : ClassId) (skA : Nat → Nat) (v9 : Value) (k : Nat) (p : Program) (e : Env) (R : Room) (s : State) (m : MethodId) (args : Array Value) (below : List Frame) (meth : Method) (c : Code) (A : Nat → Prop) (cells slots : Nat) (Q : State → Prop) (ad : List Nat) (AH : List AC) (cf : Cf) : Prop :=
  ∀ (ad' : List Nat) (H' : Heap) (locs' : List Loc) (lsC' : Array Jvm.Slot), ad <+: ad' → Rl A D cI cL skA v9 ad' cf.2.2.2 s H' locs' → LR skA v9 ad' cf.2.1 lsC' (mMax k) → W p l e R s m args below meth c H' locs' (cells + (cf.2.2.2.length - AH.length)) (slots + (hsz cf.2.2.2 - hsz AH)) Q (F0 m cf.1 lsC' (cf.2.2.1.map (cv skA v9 ad')))
section GO
variable {l : Launch} {D : va_G} {cI cL : ClassId} {skA : Nat → Nat} {v9 : Value} {k : Nat} {p : Program} {e : Env} {R : Room} {s : State} {m : MethodId} {args : Array Value} {below : List Frame} {meth : Method} {c : Code} {A : Nat → Prop} {cells slots : Nat} {Q : State → Prop} {ad : List Nat} {AH AH2 : List AC} {pc' : Nat} {ls' : ALs} {st' : List Value} {H : Heap} {locs : List Loc} {lsC : Array Jvm.Slot}
theorem go_to (g : Go l D cI cL skA v9 k p e R s m args below meth c A cells slots Q ad AH (pc', ls', st', AH2)) (h1 : AH2.length = AH.length) (h2 : hsz AH2 = hsz AH) (hR : Rl A D cI cL skA v9 ad AH2 s H locs) (hL : LR skA v9 ad ls' lsC (mMax k)) : W p l e R s m args below meth c H locs cells slots Q (F0 m pc' lsC (st'.map (cv skA v9 ad))) := by
  have h := g ad H locs lsC (List.prefix_refl _) hR hL
  simp only [h1, h2, Nat.sub_self, Nat.add_zero] at h
  exact h
theorem go_same (g : Go l D cI cL skA v9 k p e R s m args below meth c A cells slots Q ad AH (pc', ls', st', AH)) (hR : Rl A D cI cL skA v9 ad AH s H locs) (hL : LR skA v9 ad ls' lsC (mMax k)) : W p l e R s m args below meth c H locs cells slots Q (F0 m pc' lsC (st'.map (cv skA v9 ad))) := go_to g rfl rfl hR hL
end GO
/-- a step of an instruction that neither calls nor returns -/
def BS (l : Launch) (scr : List Int32) (D : va_G) (cI cL : ClassId) (skA : Nat → Nat) (v9 : Value) (i : Instr) : Prop :=
  ∀ (p : Program) (e : Env) (R : Room) (s : State) (m : MethodId) (args : Array Value) (below : List Frame) (meth : Method) (c : Code) (A : Nat → Prop) (H : Heap) (locs : List Loc) (cells slots : Nat) (Q : State → Prop) (k pc len : Nat) (ops : List Nat) (ls : ALs) (st : List Value) (AH : List AC) (ad : List Nat) (lsC : Array Jvm.Slot) (cf : Cf),
    Cx scr k p s m args meth c A D cI cL skA v9 → decode (mCd k) pc = .ok (i, len) → lenOk i len = true → (ops ≠ [] → chkI (mNm k).cls (decide ((mNm k).name = "<init>")) i ops = true) → bstep scr k pc i ops ls st AH = some cf → Rl A D cI cL skA v9 ad AH s H locs → LR skA v9 ad ls lsC (mMax k) →
    cells + (cf.2.2.2.length - AH.length) ≤ R.cells → slots + (hsz cf.2.2.2 - hsz AH) ≤ R.slots → 1 ≤ R.frames → 30 ≤ R.locals → Go l D cI cL skA v9 k p e R s m args below meth c A cells slots Q ad AH cf →
    W p l e R s m args below meth c H locs cells slots Q (F0 m pc lsC (st.map (cv skA v9 ad)))
section BSS
variable {l : Launch} {scr : List Int32} {D : va_G} {cI cL : ClassId} {skA : Nat → Nat} {v9 : Value}
theorem bs_iconst {n : Int} : BS l scr D cI cL skA v9 (.iconst n) := by
  intro p e R s m args below meth c A H locs cells slots Q k pc len ops ls st AH ad lsC cf cx hd hln hck hb hR hL hc1 hc2 hf1 hl1 g
  obtain ⟨hx, hbb, hml, hown, hts, hWd, hSd, hA, hini, hscr⟩ := cx
  have h9 := hSd.2.2.2.2
  have hlen : len = 1 := by simpa [lenOk] using hln
  subst hlen
  cases hb
  exact lv_iconst hx hbb hd rfl (go_same g hR hL)
theorem bs_bipush {n : Int} : BS l scr D cI cL skA v9 (.bipush n) := by
  intro p e R s m args below meth c A H locs cells slots Q k pc len ops ls st AH ad lsC cf cx hd hln hck hb hR hL hc1 hc2 hf1 hl1 g
  obtain ⟨hx, hbb, hml, hown, hts, hWd, hSd, hA, hini, hscr⟩ := cx
  have h9 := hSd.2.2.2.2
  have hlen : len = 2 := by simpa [lenOk] using hln
  subst hlen
  cases hb
  exact lv_bipush hx hbb hd rfl (go_same g hR hL)
theorem bs_sipush {n : Int} : BS l scr D cI cL skA v9 (.sipush n) := by
  intro p e R s m args below meth c A H locs cells slots Q k pc len ops ls st AH ad lsC cf cx hd hln hck hb hR hL hc1 hc2 hf1 hl1 g
  obtain ⟨hx, hbb, hml, hown, hts, hWd, hSd, hA, hini, hscr⟩ := cx
  have h9 := hSd.2.2.2.2
  have hlen : len = 3 := by simpa [lenOk] using hln
  subst hlen
  cases hb
  exact lv_sipush hx hbb hd rfl (go_same g hR hL)
theorem bs_lconst {n : Fin 2} : BS l scr D cI cL skA v9 (.lconst n) := by
  intro p e R s m args below meth c A H locs cells slots Q k pc len ops ls st AH ad lsC cf cx hd hln hck hb hR hL hc1 hc2 hf1 hl1 g
  obtain ⟨hx, hbb, hml, hown, hts, hWd, hSd, hA, hini, hscr⟩ := cx
  have h9 := hSd.2.2.2.2
  have hlen : len = 1 := by simpa [lenOk] using hln
  subst hlen
  cases hb
  exact lv_lconst hx hbb hd rfl (go_same g hR hL)
theorem bs_ldc {n : Nat} : BS l scr D cI cL skA v9 (.ldc n) := by
  intro p e R s m args below meth c A H locs cells slots Q k pc len ops ls st AH ad lsC cf cx hd hln hck hb hR hL hc1 hc2 hf1 hl1 g
  obtain ⟨hx, hbb, hml, hown, hts, hWd, hSd, hA, hini, hscr⟩ := cx
  have h9 := hSd.2.2.2.2
  have hlen : len = 2 := by simpa [lenOk] using hln
  subst hlen
  simp only [bstep] at hb
  split at hb
  · rename_i j w
    cases hb
    have hc := hck (by simp)
    simp only [chkI, Bool.and_eq_true, decide_eq_true_eq] at hc
    have e1 : cv skA v9 ad (.retAddr j) = .ref (skA j) := by simp only [cv, skf]; rw [if_pos (Or.inl (by omega))]
    have g' := go_same g hR hL
    simp only [List.map_cons, e1] at g'
    exact va_ldcS hx hbb hown (hSd.2.1 _ _ j hc.1 (inA_mem hc.2)) hd g'
  · rename_i v w
    cases hb
    have hc := hck (by simp)
    simp only [chkI] at hc
    exact lv_ldc hx hbb hown (hts _ (inT_mem hc)) hd (go_same g hR hL)
  · cases hb
theorem bs_ldc_w {n : Nat} : BS l scr D cI cL skA v9 (.ldc_w n) := by
  intro p e R s m args below meth c A H locs cells slots Q k pc len ops ls st AH ad lsC cf cx hd hln hck hb hR hL hc1 hc2 hf1 hl1 g
  obtain ⟨hx, hbb, hml, hown, hts, hWd, hSd, hA, hini, hscr⟩ := cx
  have h9 := hSd.2.2.2.2
  have hlen : len = 3 := by simpa [lenOk] using hln
  subst hlen
  simp only [bstep] at hb
  split at hb
  · rename_i v w
    cases hb
    have hc := hck (by simp)
    simp only [chkI] at hc
    exact lv_ldcw hx hbb hown (hts _ (inT_mem hc)) hd (go_same g hR hL)
  · cases hb
theorem bs_ldc2_w {n : Nat} : BS l scr D cI cL skA v9 (.ldc2_w n) := by
  intro p e R s m args below meth c A H locs cells slots Q k pc len ops ls st AH ad lsC cf cx hd hln hck hb hR hL hc1 hc2 hf1 hl1 g
  obtain ⟨hx, hbb, hml, hown, hts, hWd, hSd, hA, hini, hscr⟩ := cx
  have h9 := hSd.2.2.2.2
  have hlen : len = 3 := by simpa [lenOk] using hln
  subst hlen
  simp only [bstep] at hb
  split at hb
  · rename_i v w
    cases hb
    have hc := hck (by simp)
    simp only [chkI] at hc
    exact lv_ldc2 hx hbb hown (hts _ (inT_mem hc)) hd (go_same g hR hL)
  · rename_i v w
    cases hb
    have hc := hck (by simp)
    simp only [chkI] at hc
    exact lv_ldc2 hx hbb hown (hts _ (inT_mem hc)) hd (go_same g hR hL)
  · cases hb
theorem bs_iload_n {n : Fin 4} : BS l scr D cI cL skA v9 (.iload_n n) := by
  intro p e R s m args below meth c A H locs cells slots Q k pc len ops ls st AH ad lsC cf cx hd hln hck hb hR hL hc1 hc2 hf1 hl1 g
  obtain ⟨hx, hbb, hml, hown, hts, hWd, hSd, hA, hini, hscr⟩ := cx
  have h9 := hSd.2.2.2.2
  have hlen : len = 1 := by simpa [lenOk] using hln
  subst hlen
  simp only [bstep] at hb
  split at hb
  · rename_i x h1
    cases hb
    exact lv_iload_n hx hbb hd rfl (hL.get h1) (go_same g hR hL)
  · cases hb
theorem bs_iload {n : Nat} : BS l scr D cI cL skA v9 (.iload n) := by
  intro p e R s m args below meth c A H locs cells slots Q k pc len ops ls st AH ad lsC cf cx hd hln hck hb hR hL hc1 hc2 hf1 hl1 g
  obtain ⟨hx, hbb, hml, hown, hts, hWd, hSd, hA, hini, hscr⟩ := cx
  have h9 := hSd.2.2.2.2
  have hlen : len = 2 := by simpa [lenOk] using hln
  subst hlen
  simp only [bstep] at hb
  split at hb
  · rename_i x h1
    cases hb
    exact lv_iload hx hbb hd (hL.get h1) (go_same g hR hL)
  · cases hb
theorem bs_lload_n {n : Fin 4} : BS l scr D cI cL skA v9 (.lload_n n) := by
  intro p e R s m args below meth c A H locs cells slots Q k pc len ops ls st AH ad lsC cf cx hd hln hck hb hR hL hc1 hc2 hf1 hl1 g
  obtain ⟨hx, hbb, hml, hown, hts, hWd, hSd, hA, hini, hscr⟩ := cx
  have h9 := hSd.2.2.2.2
  have hlen : len = 1 := by simpa [lenOk] using hln
  subst hlen
  simp only [bstep] at hb
  split at hb
  · rename_i x h1
    cases hb
    exact lv_lload_n hx hbb hd rfl (hL.get h1) (go_same g hR hL)
  · cases hb
theorem bs_lload {n : Nat} : BS l scr D cI cL skA v9 (.lload n) := by
  intro p e R s m args below meth c A H locs cells slots Q k pc len ops ls st AH ad lsC cf cx hd hln hck hb hR hL hc1 hc2 hf1 hl1 g
  obtain ⟨hx, hbb, hml, hown, hts, hWd, hSd, hA, hini, hscr⟩ := cx
  have h9 := hSd.2.2.2.2
  have hlen : len = 2 := by simpa [lenOk] using hln
  subst hlen
  simp only [bstep] at hb
  split at hb
  · rename_i x h1
    cases hb
    exact lv_lload hx hbb hd (hL.get h1) (go_same g hR hL)
  · cases hb
theorem bs_aload_n {n : Fin 4} : BS l scr D cI cL skA v9 (.aload_n n) := by
  intro p e R s m args below meth c A H locs cells slots Q k pc len ops ls st AH ad lsC cf cx hd hln hck hb hR hL hc1 hc2 hf1 hl1 g
  obtain ⟨hx, hbb, hml, hown, hts, hWd, hSd, hA, hini, hscr⟩ := cx
  have h9 := hSd.2.2.2.2
  have hlen : len = 1 := by simpa [lenOk] using hln
  subst hlen
  simp only [bstep] at hb
  split at hb
  · rename_i x h1
    cases hb
    exact lv_aload_n hx hbb hd rfl (hL.get h1) (go_same g hR hL)
  · rename_i x h1
    split at hb
    · rename_i hx2
      cases hb
      have e1 : cv skA v9 ad (.retAddr x) = .ref (skA x) := by simp only [cv, skf]; rw [if_pos hx2]
      have g' := go_same g hR hL
      simp only [List.map_cons, e1] at g'
      have h2 := hL.get h1
      rw [e1] at h2
      exact lv_aload_n hx hbb hd rfl h2 g'
    · cases hb
  · cases hb
theorem bs_istore_n {n : Fin 4} : BS l scr D cI cL skA v9 (.istore_n n) := by
  intro p e R s m args below meth c A H locs cells slots Q k pc len ops ls st AH ad lsC cf cx hd hln hck hb hR hL hc1 hc2 hf1 hl1 g
  obtain ⟨hx, hbb, hml, hown, hts, hWd, hSd, hA, hini, hscr⟩ := cx
  have h9 := hSd.2.2.2.2
  have hlen : len = 1 := by simpa [lenOk] using hln
  subst hlen
  simp only [bstep] at hb
  split at hb
  · rename_i x r
    split at hb
    · rename_i hn
      cases hb
      exact lv_istore_n hx hbb hd rfl hL.has (Nat.lt_of_lt_of_eq hn hL.1) rfl (fun ls' h' => go_same g hR (hL.st1 h9 (v := .int x) hn h'))
    · cases hb
  · cases hb
theorem bs_istore {n : Nat} : BS l scr D cI cL skA v9 (.istore n) := by
  intro p e R s m args below meth c A H locs cells slots Q k pc len ops ls st AH ad lsC cf cx hd hln hck hb hR hL hc1 hc2 hf1 hl1 g
  obtain ⟨hx, hbb, hml, hown, hts, hWd, hSd, hA, hini, hscr⟩ := cx
  have h9 := hSd.2.2.2.2
  have hlen : len = 2 := by simpa [lenOk] using hln
  subst hlen
  simp only [bstep] at hb
  split at hb
  · rename_i x r
    split at hb
    · rename_i hn
      cases hb
      exact lv_istore hx hbb hd hL.has (Nat.lt_of_lt_of_eq hn hL.1) rfl (fun ls' h' => go_same g hR (hL.st1 h9 (v := .int x) hn h'))
    · cases hb
  · cases hb
theorem bs_lstore_n {n : Fin 4} : BS l scr D cI cL skA v9 (.lstore_n n) := by
  intro p e R s m args below meth c A H locs cells slots Q k pc len ops ls st AH ad lsC cf cx hd hln hck hb hR hL hc1 hc2 hf1 hl1 g
  obtain ⟨hx, hbb, hml, hown, hts, hWd, hSd, hA, hini, hscr⟩ := cx
  have h9 := hSd.2.2.2.2
  have hlen : len = 1 := by simpa [lenOk] using hln
  subst hlen
  simp only [bstep] at hb
  split at hb
  · rename_i x r
    split at hb
    · rename_i hn
      cases hb
      exact lv_lstore_n hx hbb hd rfl hL.has (Nat.lt_of_lt_of_eq hn hL.1) rfl (fun ls' h' => go_same g hR (hL.st2 h9 (v := .long x) hn h'))
    · cases hb
  · cases hb
theorem bs_lstore {n : Nat} : BS l scr D cI cL skA v9 (.lstore n) := by
  intro p e R s m args below meth c A H locs cells slots Q k pc len ops ls st AH ad lsC cf cx hd hln hck hb hR hL hc1 hc2 hf1 hl1 g
  obtain ⟨hx, hbb, hml, hown, hts, hWd, hSd, hA, hini, hscr⟩ := cx
  have h9 := hSd.2.2.2.2
  have hlen : len = 2 := by simpa [lenOk] using hln
  subst hlen
  simp only [bstep] at hb
  split at hb
  · rename_i x r
    split at hb
    · rename_i hn
      cases hb
      exact lv_lstore hx hbb hd hL.has (Nat.lt_of_lt_of_eq hn hL.1) rfl (fun ls' h' => go_same g hR (hL.st2 h9 (v := .long x) hn h'))
    · cases hb
  · cases hb
theorem bs_astore_n {n : Fin 4} : BS l scr D cI cL skA v9 (.astore_n n) := by
  intro p e R s m args below meth c A H locs cells slots Q k pc len ops ls st AH ad lsC cf cx hd hln hck hb hR hL hc1 hc2 hf1 hl1 g
  obtain ⟨hx, hbb, hml, hown, hts, hWd, hSd, hA, hini, hscr⟩ := cx
  have h9 := hSd.2.2.2.2
  have hlen : len = 1 := by simpa [lenOk] using hln
  subst hlen
  simp only [bstep] at hb
  split at hb
  · rename_i x r
    split at hb
    · rename_i hn
      cases hb
      exact lv_astore_n hx hbb hd rfl hL.has (Nat.lt_of_lt_of_eq hn hL.1) rfl (fun ls' h' => go_same g hR (hL.st1 h9 (v := .ref x) hn h'))
    · cases hb
  · cases hb
theorem bs_iinc {n : Nat} {z : Int} : BS l scr D cI cL skA v9 (.iinc n z) := by
  intro p e R s m args below meth c A H locs cells slots Q k pc len ops ls st AH ad lsC cf cx hd hln hck hb hR hL hc1 hc2 hf1 hl1 g
  obtain ⟨hx, hbb, hml, hown, hts, hWd, hSd, hA, hini, hscr⟩ := cx
  have h9 := hSd.2.2.2.2
  have hlen : len = 3 := by simpa [lenOk] using hln
  subst hlen
  simp only [bstep] at hb
  split at hb
  · rename_i x h1
    split at hb
    · rename_i hn
      cases hb
      obtain ⟨kk, hkk⟩ := List.getElem?_of_mem (mem_lvL.mpr ⟨.int x, lgt_some.mp h1, rfl⟩ : (n, cv skA v9 ad (.int x)) ∈ lvL skA v9 ad ls)
      exact lv_iinc hx hbb hd hL.has (k := kk) hkk rfl (Nat.lt_of_lt_of_eq hn hL.1) rfl (fun ls' h' => go_same g hR (hL.st1 h9 (v := .int (x + Int32.ofInt z)) hn h'))
    · cases hb
  · cases hb
theorem bs_iadd : BS l scr D cI cL skA v9 (.iadd) := by
  intro p e R s m args below meth c A H locs cells slots Q k pc len ops ls st AH ad lsC cf cx hd hln hck hb hR hL hc1 hc2 hf1 hl1 g
  obtain ⟨hx, hbb, hml, hown, hts, hWd, hSd, hA, hini, hscr⟩ := cx
  have h9 := hSd.2.2.2.2
  have hlen : len = 1 := by simpa [lenOk] using hln
  subst hlen
  simp only [bstep] at hb
  split at hb
  · cases hb
    exact lv_iadd hx hbb hd (go_same g hR hL)
  · cases hb
theorem bs_isub : BS l scr D cI cL skA v9 (.isub) := by
  intro p e R s m args below meth c A H locs cells slots Q k pc len ops ls st AH ad lsC cf cx hd hln hck hb hR hL hc1 hc2 hf1 hl1 g
  obtain ⟨hx, hbb, hml, hown, hts, hWd, hSd, hA, hini, hscr⟩ := cx
  have h9 := hSd.2.2.2.2
  have hlen : len = 1 := by simpa [lenOk] using hln
  subst hlen
  simp only [bstep] at hb
  split at hb
  · cases hb
    exact lv_isub hx hbb hd (go_same g hR hL)
  · cases hb
theorem bs_imul : BS l scr D cI cL skA v9 (.imul) := by
  intro p e R s m args below meth c A H locs cells slots Q k pc len ops ls st AH ad lsC cf cx hd hln hck hb hR hL hc1 hc2 hf1 hl1 g
  obtain ⟨hx, hbb, hml, hown, hts, hWd, hSd, hA, hini, hscr⟩ := cx
  have h9 := hSd.2.2.2.2
  have hlen : len = 1 := by simpa [lenOk] using hln
  subst hlen
  simp only [bstep] at hb
  split at hb
  · cases hb
    exact lv_imul hx hbb hd (go_same g hR hL)
  · cases hb
theorem bs_iand : BS l scr D cI cL skA v9 (.iand) := by
  intro p e R s m args below meth c A H locs cells slots Q k pc len ops ls st AH ad lsC cf cx hd hln hck hb hR hL hc1 hc2 hf1 hl1 g
  obtain ⟨hx, hbb, hml, hown, hts, hWd, hSd, hA, hini, hscr⟩ := cx
  have h9 := hSd.2.2.2.2
  have hlen : len = 1 := by simpa [lenOk] using hln
  subst hlen
  simp only [bstep] at hb
  split at hb
  · cases hb
    exact lv_iand hx hbb hd (go_same g hR hL)
  · cases hb
theorem bs_ior : BS l scr D cI cL skA v9 (.ior) := by
  intro p e R s m args below meth c A H locs cells slots Q k pc len ops ls st AH ad lsC cf cx hd hln hck hb hR hL hc1 hc2 hf1 hl1 g
  obtain ⟨hx, hbb, hml, hown, hts, hWd, hSd, hA, hini, hscr⟩ := cx
  have h9 := hSd.2.2.2.2
  have hlen : len = 1 := by simpa [lenOk] using hln
  subst hlen
  simp only [bstep] at hb
  split at hb
  · cases hb
    exact lv_ior hx hbb hd (go_same g hR hL)
  · cases hb
theorem bs_ixor : BS l scr D cI cL skA v9 (.ixor) := by
  intro p e R s m args below meth c A H locs cells slots Q k pc len ops ls st AH ad lsC cf cx hd hln hck hb hR hL hc1 hc2 hf1 hl1 g
  obtain ⟨hx, hbb, hml, hown, hts, hWd, hSd, hA, hini, hscr⟩ := cx
  have h9 := hSd.2.2.2.2
  have hlen : len = 1 := by simpa [lenOk] using hln
  subst hlen
  simp only [bstep] at hb
  split at hb
  · cases hb
    exact lv_ixor hx hbb hd (go_same g hR hL)
  · cases hb
theorem bs_ishl : BS l scr D cI cL skA v9 (.ishl) := by
  intro p e R s m args below meth c A H locs cells slots Q k pc len ops ls st AH ad lsC cf cx hd hln hck hb hR hL hc1 hc2 hf1 hl1 g
  obtain ⟨hx, hbb, hml, hown, hts, hWd, hSd, hA, hini, hscr⟩ := cx
  have h9 := hSd.2.2.2.2
  have hlen : len = 1 := by simpa [lenOk] using hln
  subst hlen
  simp only [bstep] at hb
  split at hb
  · cases hb
    exact lv_ishl hx hbb hd (go_same g hR hL)
  · cases hb
theorem bs_ishr : BS l scr D cI cL skA v9 (.ishr) := by
  intro p e R s m args below meth c A H locs cells slots Q k pc len ops ls st AH ad lsC cf cx hd hln hck hb hR hL hc1 hc2 hf1 hl1 g
  obtain ⟨hx, hbb, hml, hown, hts, hWd, hSd, hA, hini, hscr⟩ := cx
  have h9 := hSd.2.2.2.2
  have hlen : len = 1 := by simpa [lenOk] using hln
  subst hlen
  simp only [bstep] at hb
  split at hb
  · cases hb
    exact lv_ishr hx hbb hd (go_same g hR hL)
  · cases hb
theorem bs_ladd : BS l scr D cI cL skA v9 (.ladd) := by
  intro p e R s m args below meth c A H locs cells slots Q k pc len ops ls st AH ad lsC cf cx hd hln hck hb hR hL hc1 hc2 hf1 hl1 g
  obtain ⟨hx, hbb, hml, hown, hts, hWd, hSd, hA, hini, hscr⟩ := cx
  have h9 := hSd.2.2.2.2
  have hlen : len = 1 := by simpa [lenOk] using hln
  subst hlen
  simp only [bstep] at hb
  split at hb
  · cases hb
    exact lv_ladd hx hbb hd (go_same g hR hL)
  · cases hb
theorem bs_lmul : BS l scr D cI cL skA v9 (.lmul) := by
  intro p e R s m args below meth c A H locs cells slots Q k pc len ops ls st AH ad lsC cf cx hd hln hck hb hR hL hc1 hc2 hf1 hl1 g
  obtain ⟨hx, hbb, hml, hown, hts, hWd, hSd, hA, hini, hscr⟩ := cx
  have h9 := hSd.2.2.2.2
  have hlen : len = 1 := by simpa [lenOk] using hln
  subst hlen
  simp only [bstep] at hb
  split at hb
  · cases hb
    exact lv_lmul hx hbb hd (go_same g hR hL)
  · cases hb
theorem bs_lcmp : BS l scr D cI cL skA v9 (.lcmp) := by
  intro p e R s m args below meth c A H locs cells slots Q k pc len ops ls st AH ad lsC cf cx hd hln hck hb hR hL hc1 hc2 hf1 hl1 g
  obtain ⟨hx, hbb, hml, hown, hts, hWd, hSd, hA, hini, hscr⟩ := cx
  have h9 := hSd.2.2.2.2
  have hlen : len = 1 := by simpa [lenOk] using hln
  subst hlen
  simp only [bstep] at hb
  split at hb
  · cases hb
    exact W.lcmp hx hbb hd (go_same g hR hL)
  · cases hb
theorem bs_iushr : BS l scr D cI cL skA v9 (.iushr) := by
  intro p e R s m args below meth c A H locs cells slots Q k pc len ops ls st AH ad lsC cf cx hd hln hck hb hR hL hc1 hc2 hf1 hl1 g
  obtain ⟨hx, hbb, hml, hown, hts, hWd, hSd, hA, hini, hscr⟩ := cx
  have h9 := hSd.2.2.2.2
  have hlen : len = 1 := by simpa [lenOk] using hln
  subst hlen
  simp only [bstep] at hb
  split at hb
  · cases hb
    exact lv_iushr hx hbb hd rfl (go_same g hR hL)
  · cases hb
theorem bs_idiv : BS l scr D cI cL skA v9 (.idiv) := by
  intro p e R s m args below meth c A H locs cells slots Q k pc len ops ls st AH ad lsC cf cx hd hln hck hb hR hL hc1 hc2 hf1 hl1 g
  obtain ⟨hx, hbb, hml, hown, hts, hWd, hSd, hA, hini, hscr⟩ := cx
  have h9 := hSd.2.2.2.2
  have hlen : len = 1 := by simpa [lenOk] using hln
  subst hlen
  simp only [bstep] at hb
  split at hb
  · split at hb
    · cases hb
    · rename_i hne
      cases hb
      exact lv_idiv hx hbb hd hne (go_same g hR hL)
  · cases hb
theorem bs_irem : BS l scr D cI cL skA v9 (.irem) := by
  intro p e R s m args below meth c A H locs cells slots Q k pc len ops ls st AH ad lsC cf cx hd hln hck hb hR hL hc1 hc2 hf1 hl1 g
  obtain ⟨hx, hbb, hml, hown, hts, hWd, hSd, hA, hini, hscr⟩ := cx
  have h9 := hSd.2.2.2.2
  have hlen : len = 1 := by simpa [lenOk] using hln
  subst hlen
  simp only [bstep] at hb
  split at hb
  · split at hb
    · cases hb
    · rename_i hne
      cases hb
      exact lv_irem hx hbb hd hne (go_same g hR hL)
  · cases hb
theorem bs_ldiv : BS l scr D cI cL skA v9 (.ldiv) := by
  intro p e R s m args below meth c A H locs cells slots Q k pc len ops ls st AH ad lsC cf cx hd hln hck hb hR hL hc1 hc2 hf1 hl1 g
  obtain ⟨hx, hbb, hml, hown, hts, hWd, hSd, hA, hini, hscr⟩ := cx
  have h9 := hSd.2.2.2.2
  have hlen : len = 1 := by simpa [lenOk] using hln
  subst hlen
  simp only [bstep] at hb
  split at hb
  · split at hb
    · cases hb
    · rename_i hne
      cases hb
      exact lv_ldiv hx hbb hd hne (go_same g hR hL)
  · cases hb
theorem bs_lrem : BS l scr D cI cL skA v9 (.lrem) := by
  intro p e R s m args below meth c A H locs cells slots Q k pc len ops ls st AH ad lsC cf cx hd hln hck hb hR hL hc1 hc2 hf1 hl1 g
  obtain ⟨hx, hbb, hml, hown, hts, hWd, hSd, hA, hini, hscr⟩ := cx
  have h9 := hSd.2.2.2.2
  have hlen : len = 1 := by simpa [lenOk] using hln
  subst hlen
  simp only [bstep] at hb
  split at hb
  · split at hb
    · cases hb
    · rename_i hne
      cases hb
      exact lv_lrem hx hbb hd hne (go_same g hR hL)
  · cases hb
theorem bs_ineg : BS l scr D cI cL skA v9 (.ineg) := by
  intro p e R s m args below meth c A H locs cells slots Q k pc len ops ls st AH ad lsC cf cx hd hln hck hb hR hL hc1 hc2 hf1 hl1 g
  obtain ⟨hx, hbb, hml, hown, hts, hWd, hSd, hA, hini, hscr⟩ := cx
  have h9 := hSd.2.2.2.2
  have hlen : len = 1 := by simpa [lenOk] using hln
  subst hlen
  simp only [bstep] at hb
  split at hb
  · cases hb
    exact lv_ineg hx hbb hd (go_same g hR hL)
  · cases hb
theorem bs_i2l : BS l scr D cI cL skA v9 (.i2l) := by
  intro p e R s m args below meth c A H locs cells slots Q k pc len ops ls st AH ad lsC cf cx hd hln hck hb hR hL hc1 hc2 hf1 hl1 g
  obtain ⟨hx, hbb, hml, hown, hts, hWd, hSd, hA, hini, hscr⟩ := cx
  have h9 := hSd.2.2.2.2
  have hlen : len = 1 := by simpa [lenOk] using hln
  subst hlen
  simp only [bstep] at hb
  split at hb
  · cases hb
    exact lv_i2l hx hbb hd rfl (go_same g hR hL)
  · cases hb
theorem bs_i2c : BS l scr D cI cL skA v9 (.i2c) := by
  intro p e R s m args below meth c A H locs cells slots Q k pc len ops ls st AH ad lsC cf cx hd hln hck hb hR hL hc1 hc2 hf1 hl1 g
  obtain ⟨hx, hbb, hml, hown, hts, hWd, hSd, hA, hini, hscr⟩ := cx
  have h9 := hSd.2.2.2.2
  have hlen : len = 1 := by simpa [lenOk] using hln
  subst hlen
  simp only [bstep] at hb
  split at hb
  · cases hb
    exact lv_i2c hx hbb hd rfl (go_same g hR hL)
  · cases hb
theorem bs_dup : BS l scr D cI cL skA v9 (.dup) := by
  intro p e R s m args below meth c A H locs cells slots Q k pc len ops ls st AH ad lsC cf cx hd hln hck hb hR hL hc1 hc2 hf1 hl1 g
  obtain ⟨hx, hbb, hml, hown, hts, hWd, hSd, hA, hini, hscr⟩ := cx
  have h9 := hSd.2.2.2.2
  have hlen : len = 1 := by simpa [lenOk] using hln
  subst hlen
  simp only [bstep] at hb
  split at hb
  · split at hb
    · rename_i h1
      cases hb
      exact lv_dup hx hbb hd (by rw [cv_cat h9]; exact h1) (go_same g hR hL)
    · cases hb
  · cases hb
theorem bs_pop : BS l scr D cI cL skA v9 (.pop) := by
  intro p e R s m args below meth c A H locs cells slots Q k pc len ops ls st AH ad lsC cf cx hd hln hck hb hR hL hc1 hc2 hf1 hl1 g
  obtain ⟨hx, hbb, hml, hown, hts, hWd, hSd, hA, hini, hscr⟩ := cx
  have h9 := hSd.2.2.2.2
  have hlen : len = 1 := by simpa [lenOk] using hln
  subst hlen
  simp only [bstep] at hb
  split at hb
  · split at hb
    · rename_i h1
      cases hb
      exact lv_pop hx hbb hd (by rw [cv_cat h9]; exact h1) (go_same g hR hL)
    · cases hb
  · cases hb
theorem bs_dup2 : BS l scr D cI cL skA v9 (.dup2) := by
  intro p e R s m args below meth c A H locs cells slots Q k pc len ops ls st AH ad lsC cf cx hd hln hck hb hR hL hc1 hc2 hf1 hl1 g
  obtain ⟨hx, hbb, hml, hown, hts, hWd, hSd, hA, hini, hscr⟩ := cx
  have h9 := hSd.2.2.2.2
  have hlen : len = 1 := by simpa [lenOk] using hln
  subst hlen
  simp only [bstep] at hb
  split at hb
  · split at hb
    · rename_i h1
      cases hb
      exact lv_dup2_11 hx hbb hd (by rw [cv_cat h9]; exact h1.1) (by rw [cv_cat h9]; exact h1.2) (go_same g hR hL)
    · cases hb
  · cases hb
theorem cl_of {ci N : Nat} {C : String} {T : u_T} (h : vwCl[ci]? = some (C, T, N)) : vwC[ci]? = some (C, T, N) ∧ (∀ w ∈ u_ws C T N, w ∈ TBL) ∧ Cond.instantiable C N ∈ TBL ∧ Cond.initialized C ∈ TBL ∧ (∀ k, k < N → parseFieldDescriptor (T k).2.2.1 = some (fty ci k)) ∧ (∀ a, a < N → ∀ b, b < N → a ≠ b → (T a).2.1 ≠ (T b).2.1) ∧ (ftyT.getD ci []).length = N := by
  have hi : ci < 13 := (List.getElem?_eq_some_iff.mp h).1
  have h1 := List.all_eq_true.mp cl_all ci (List.mem_range.mpr hi)
  unfold clOK at h1
  simp only [h, Bool.and_eq_true, decide_eq_true_eq] at h1
  obtain ⟨⟨⟨⟨⟨⟨h0, h2⟩, h3⟩, h4⟩, h5⟩, h6⟩, h7⟩ := h1
  refine ⟨?_, fun w hw => ?_, inT_mem h3, inT_mem h4, fun k hk => ?_, fun a ha b hb hab => ?_, h7⟩
  · unfold vwC
    rw [List.getElem?_append_left (by exact hi)]
    exact h
  · obtain ⟨k, hk, rfl⟩ := List.mem_map.mp hw
    exact inT_mem (List.all_eq_true.mp h2 k hk)
  · have := List.all_eq_true.mp h5 k (List.mem_range.mpr hk)
    simpa using this
  · have := List.all_eq_true.mp (List.all_eq_true.mp h6 a (List.mem_range.mpr ha)) b (List.mem_range.mpr hb)
    simp only [Bool.or_eq_true, decide_eq_true_eq] at this
    rcases this with q | q
    · exact absurd q hab
    · exact q
theorem vwC_lt {ci : Nat} {q : vw_C} (h : vwC[ci]? = some q) : ci < 14 := (List.getElem?_eq_some_iff.mp h).1
theorem bs_getfield {n : Nat} : BS l scr D cI cL skA v9 (.getfield n) := by
  intro p e R s m args below meth c A H locs cells slots Q k pc len ops ls st AH ad lsC cf cx hd hln hck hb hR hL hc1 hc2 hf1 hl1 g
  obtain ⟨hx, hbb, hml, hown, hts, hWd, hSd, hA, hini, hscr⟩ := cx
  have h9 := hSd.2.2.2.2
  have hlen : len = 3 := by simpa [lenOk] using hln
  subst hlen
  simp only [bstep] at hb
  split at hb
  · rename_i a r ci f tl
    split at hb
    · rename_i v hv
      cases hb
      obtain ⟨fs, h1, h2⟩ := gfl_spec hv
      have hw := wsA_get (cI := cI) (cL := cL) (skA := skA) (v9 := v9) hR.1 h1
      have hc := hck (by simp)
      have hci : ci < 14 := by
        obtain ⟨q, hq, -⟩ := hR.2.1 _ _ hw
        exact vwC_lt hq
      simp only [chkI] at hc
      split at hc
      · rename_i w nest _ heq
        cases heq
        rw [if_neg (by omega)] at hc
        split at hc
        · rename_i C T N hcl
          simp only [Bool.and_eq_true, decide_eq_true_eq] at hc
          obtain ⟨k1, k2, -⟩ := cl_of hcl
          have hv2 : (fs.map (cv skA v9 ad))[f]? = some (cv skA v9 ad v) := by rw [List.getElem?_map, h2]; rfl
          obtain ⟨hc1', hc2'⟩ := hc
          split at hc2'
          · exact va_get hx hbb hts k2 hown hWd.1 hR.2.1 a hw k1 f hc1' (hts _ (inT_mem hc2')) (fun _ h => h) hv2 hd (go_same g hR hL)
          · exact va_getN (host := "NorthVines") hx hbb hts k2 hown hWd.1 hR.2.1 a hw k1 f hc1' (va_Nw.use rfl (hWd.2.1 _ (inN_mem hc2'))) (fun _ h => h) hv2 hd (go_same g hR hL)
        · cases hc
      · cases hc
    · cases hb
  · rename_i j r f tl
    split at hb
    · rename_i hj
      have hc := hck (by simp)
      simp only [chkI] at hc
      have e1 : cv skA v9 ad (.retAddr j) = .ref (skA j) := by simp only [cv, skf]; rw [if_pos (Or.inl (by omega))]
      have e2 : cv skA v9 ad (.retAddr (100 + j)) = .ref (skA (100 + j)) := by simp only [cv, skf]; rw [if_pos (Or.inl (by omega))]
      split at hc
      · rename_i w nest _ heq
        cases heq
        rw [if_pos rfl] at hc
        have hE := hSd.1 j hj
        show W p l e R s m args below meth c H locs cells slots Q (F0 m pc lsC (cv skA v9 ad (.retAddr j) :: r.map (cv skA v9 ad)))
        rw [e1]
        split at hb
        · rename_i hf
          subst hf
          cases hb
          rw [if_pos rfl] at hc
          have g' := go_same g hR hL
          simp only [List.map_cons, e2] at g'
          exact vk_getf hx hbb hE.2.2.1 hR.2.2.2 hown (hts _ (inT_mem hc)) (fun _ h => h) hd g'
        · rename_i hf
          split at hb
          · rename_i hf1
            cases hb
            rw [if_neg hf] at hc
            exact vk_getf hx hbb hE.2.1 hR.2.2.2 hown (hts _ (inT_mem hc)) (fun _ h => h) hd (go_same g hR hL)
          · cases hb
      · cases hc
    · cases hb
  · cases hb
theorem fok_ok {ty : FieldType} {v : Value} {ad : List Nat} (h : fok ty v = true) : narrow ty (cv skA v9 ad v) = cv skA v9 ad v ∧ fits ty (cv skA v9 ad v) = true := by
  unfold fok at h
  split at h
  · exact ⟨rfl, rfl⟩
  · rename_i x
    simp only [Bool.or_eq_true, beq_iff_eq] at h
    rcases h with rfl | rfl <;> exact ⟨rfl, rfl⟩
  · exact ⟨rfl, rfl⟩
  · exact ⟨rfl, rfl⟩
  · exact ⟨rfl, rfl⟩
  · cases h
theorem bs_putfield {n : Nat} : BS l scr D cI cL skA v9 (.putfield n) := by
  intro p e R s m args below meth c A H locs cells slots Q k pc len ops ls st AH ad lsC cf cx hd hln hck hb hR hL hc1 hc2 hf1 hl1 g
  obtain ⟨hx, hbb, hml, hown, hts, hWd, hSd, hA, hini, hscr⟩ := cx
  have h9 := hSd.2.2.2.2
  have hlen : len = 3 := by simpa [lenOk] using hln
  subst hlen
  simp only [bstep] at hb
  split at hb
  · rename_i v a r ci f tl
    split at hb
    · rename_i v0 hv
      split at hb
      · rename_i hfk
        cases hb
        obtain ⟨fs, h1, h2⟩ := gfl_spec hv
        have hw := wsA_get (cI := cI) (cL := cL) (skA := skA) (v9 := v9) hR.1 h1
        have hc := hck (by simp)
        simp only [chkI] at hc
        split at hc
        · rename_i w nest _ heq
          cases heq
          split at hc
          · rename_i C T N hcl
            simp only [Bool.and_eq_true, decide_eq_true_eq] at hc
            obtain ⟨k1, k2, -, -, k5, k6, -⟩ := cl_of hcl
            obtain ⟨⟨⟨hcN, hcL⟩, hcF⟩, hcT⟩ := hc
            obtain ⟨hn, hft⟩ := fok_ok (skA := skA) (v9 := v9) (ad := ad) hfk
            have hl2 : f < (fs.map (cv skA v9 ad)).length := by rw [List.length_map]; exact (List.getElem?_eq_some_iff.mp h2).1
            have he : hpf AH a f v = AH.set a (.inl (ci, fs.set f v)) := hpf_eq h1
            have hset : (wsA cI cL skA v9 ad AH).set a (ad.getD a 0, .inr (ci, (fs.map (cv skA v9 ad)).set f (cv skA v9 ad v))) = wsA cI cL skA v9 ad (hpf AH a f v) := by
              rw [he, ← wsA_set hR.1 h1 (c := .inl (ci, fs.set f v))]
              simp only [ce, List.map_set]
            have fin : ∀ (H1 : Heap) (locs1 : List Loc), va_P D vwC ((wsA cI cL skA v9 ad AH).set a (ad.getD a 0, .inr (ci, (fs.map (cv skA v9 ad)).set f (cv skA v9 ad v)))) H1 → va_D A ((wsA cI cL skA v9 ad AH).set a (ad.getD a 0, .inr (ci, (fs.map (cv skA v9 ad)).set f (cv skA v9 ad v)))) → va_S A s.heap H1 locs1 → W p l e R s m args below meth c H1 locs1 cells slots Q (F0 m (pc + 3) lsC (r.map (cv skA v9 ad))) := by
              intro H1 locs1 q1 q2 q3
              rw [hset] at q1 q2
              exact go_to g hpf_length (by rw [he]; exact hsz_set h1 rfl) ⟨by rw [hpf_length]; exact hR.1, q1, q2, q3⟩ hL
            split at hcL
            · by_cases hfin : (T f).2.2.2 = true
              · rw [if_pos hfin] at hcF
                simp only [Bool.and_eq_true, decide_eq_true_eq] at hcF
                exact va_putF hx hbb hts k2 (fty ci) k5 k6 hown hWd.1 hR.2.1 hR.2.2.1 hR.2.2.2 a hw k1 f hcN (hts _ (inT_mem hcL)) (fun _ h => h) hfin (hini hcF.1.1) hcF.2 hcT hn hft hl2 hd fin
              · exact va_put hx hbb hts k2 (fty ci) k5 k6 hown hWd.1 hR.2.1 hR.2.2.1 hR.2.2.2 a hw k1 f hcN (hts _ (inT_mem hcL)) (fun _ h => h) (by simpa using hfin) hcT hn hft hl2 hd fin
            · rename_i hnest
              by_cases hfin : (T f).2.2.2 = true
              · rw [if_pos hfin] at hcF
                simp only [Bool.and_eq_true, decide_eq_true_eq] at hcF
                exact absurd hcF.1.2 hnest
              · exact va_putN (host := "NorthVines") hx hbb hts k2 (fty ci) k5 k6 hown hWd.1 hR.2.1 hR.2.2.1 hR.2.2.2 a hw k1 f hcN (va_Nw.use rfl (hWd.2.1 _ (inN_mem hcL))) (fun _ h => h) (by simpa using hfin) hcT hn hft hl2 hd fin
          · cases hc
        · cases hc
      · cases hb
    · cases hb
  · cases hb
theorem bs_getstatic {n : Nat} : BS l scr D cI cL skA v9 (.getstatic n) := by
  intro p e R s m args below meth c A H locs cells slots Q k pc len ops ls st AH ad lsC cf cx hd hln hck hb hR hL hc1 hc2 hf1 hl1 g
  obtain ⟨hx, hbb, hml, hown, hts, hWd, hSd, hA, hini, hscr⟩ := cx
  have h9 := hSd.2.2.2.2
  have hlen : len = 3 := by simpa [lenOk] using hln
  subst hlen
  simp only [bstep] at hb
  split at hb
  · rename_i v w
    cases hb
    have hc := hck (by simp)
    simp only [chkI, Bool.and_eq_true, decide_eq_true_eq] at hc
    obtain ⟨rfl, hc⟩ := hc
    exact va_gets hx hbb hSd.2.2.1 hR.2.2.2 hown (hts _ (inT_mem hc)) (fun _ h => h) hd (go_same g hR hL)
  · rename_i j w
    cases hb
    have hc := hck (by simp)
    simp only [chkI, Bool.and_eq_true, decide_eq_true_eq] at hc
    obtain ⟨rfl, hc⟩ := hc
    have e1 : cv skA v9 ad (.retAddr 999) = v9 := by simp [cv, skf]
    have g' := go_same g hR hL
    simp only [List.map_cons, e1] at g'
    exact va_gets hx hbb hSd.2.2.2.1.1 hR.2.2.2 hown (hts _ (inT_mem hc)) (fun _ h => h) hd g'
  · cases hb
theorem inb_in {i : Int32} {n : Nat} (h : inb i n = true) : vp_in i n := by
  unfold inb at h
  unfold vp_in
  exact of_decide_eq_true h
theorem inb_lt {i : Int32} {n : Nat} (h : inb i n = true) : i.toNatClampNeg < n := by
  have := inb_in h
  unfold vp_in at this
  omega
theorem upd_set {xs : List Int32} {i : Nat} {x : Int32} (h : i < xs.length) : upd (fun j => xs.getD j 0) i x = fun j => (xs.set i x).getD j 0 := by
  funext j
  show (if j = i then x else xs.getD j 0) = _
  rw [List.getD_eq_getElem?_getD, List.getD_eq_getElem?_getD, List.getElem?_set]
  by_cases hij : j = i
  · subst hij; simp [h]
  · rw [if_neg hij, if_neg (fun e => hij e.symm)]
theorem bs_iaload : BS l scr D cI cL skA v9 (.iaload) := by
  intro p e R s m args below meth c A H locs cells slots Q k pc len ops ls st AH ad lsC cf cx hd hln hck hb hR hL hc1 hc2 hf1 hl1 g
  obtain ⟨hx, hbb, hml, hown, hts, hWd, hSd, hA, hini, hscr⟩ := cx
  have h9 := hSd.2.2.2.2
  have hlen : len = 1 := by simpa [lenOk] using hln
  subst hlen
  simp only [bstep] at hb
  split at hb
  · rename_i j a r
    split at hb
    · rename_i xs hxs
      split at hb
      · rename_i hin
        cases hb
        exact va_iald hx hbb hWd.1 hR.2.1 a 0 (wsA_get hR.1 (garr_spec hxs)) rfl (inb_in hin) hd (go_same g hR hL)
      · cases hb
    · cases hb
  · rename_i j r
    split at hb
    · rename_i hin
      cases hb
      obtain ⟨q1, q2, q3⟩ := hscr hin.1
      have e1 : cv skA v9 ad (.retAddr 1000) = .ref (skA 1000) := by simp [cv, skf]
      show W p l e R s m args below meth c H locs cells slots Q (F0 m pc lsC (.int j :: cv skA v9 ad (.retAddr 1000) :: r.map (cv skA v9 ad)))
      rw [e1]
      exact va_sld hx hbb q1 q2 q3 hR.2.2.2 (inb_in hin.2) hd (go_same g hR hL)
    · cases hb
  · cases hb
theorem bs_laload : BS l scr D cI cL skA v9 (.laload) := by
  intro p e R s m args below meth c A H locs cells slots Q k pc len ops ls st AH ad lsC cf cx hd hln hck hb hR hL hc1 hc2 hf1 hl1 g
  obtain ⟨hx, hbb, hml, hown, hts, hWd, hSd, hA, hini, hscr⟩ := cx
  have h9 := hSd.2.2.2.2
  have hlen : len = 1 := by simpa [lenOk] using hln
  subst hlen
  simp only [bstep] at hb
  split at hb
  · rename_i j a r
    split at hb
    · rename_i xs hxs
      split at hb
      · rename_i hin
        cases hb
        exact va_lald hx hbb hWd.1 hR.2.1 a 1 (wsA_get hR.1 (garl_spec hxs)) rfl (inb_in hin) hd (go_same g hR hL)
      · cases hb
    · cases hb
  · cases hb
theorem bs_baload : BS l scr D cI cL skA v9 (.baload) := by
  intro p e R s m args below meth c A H locs cells slots Q k pc len ops ls st AH ad lsC cf cx hd hln hck hb hR hL hc1 hc2 hf1 hl1 g
  obtain ⟨hx, hbb, hml, hown, hts, hWd, hSd, hA, hini, hscr⟩ := cx
  have h9 := hSd.2.2.2.2
  have hlen : len = 1 := by simpa [lenOk] using hln
  subst hlen
  simp only [bstep] at hb
  split at hb
  · rename_i j b r
    split at hb
    · rename_i hin
      cases hb
      have e1 : cv skA v9 ad (.retAddr b) = .ref (skA (100 + (b - 100))) := by simp only [cv, skf]; rw [if_pos (Or.inl (by omega)), show 100 + (b - 100) = b by omega]
      show W p l e R s m args below meth c H locs cells slots Q (F0 m pc lsC (.int j :: cv skA v9 ad (.retAddr b) :: r.map (cv skA v9 ad)))
      rw [e1]
      have hE := (hSd.1 (b - 100) (by omega)).2.2.2
      refine va_tb hx hbb hE hR.2.2.2 ?_ rfl hd (go_same g hR hL)
      have h2 := inb_in hin.2.2
      have e2 : (bytS.map List.length).getD (b - 100) 0 = (bytS.getD (b - 100) []).length := by
        rw [List.getD_eq_getElem?_getD, List.getD_eq_getElem?_getD, List.getElem?_map]
        cases bytS[b - 100]? <;> rfl
      rw [e2]
      exact h2
    · cases hb
  · cases hb
theorem bs_iastore : BS l scr D cI cL skA v9 (.iastore) := by
  intro p e R s m args below meth c A H locs cells slots Q k pc len ops ls st AH ad lsC cf cx hd hln hck hb hR hL hc1 hc2 hf1 hl1 g
  obtain ⟨hx, hbb, hml, hown, hts, hWd, hSd, hA, hini, hscr⟩ := cx
  have h9 := hSd.2.2.2.2
  have hlen : len = 1 := by simpa [lenOk] using hln
  subst hlen
  simp only [bstep] at hb
  split at hb
  · rename_i x j a r
    split at hb
    · rename_i xs hxs
      split at hb
      · rename_i hin
        cases hb
        have h1 := garr_spec hxs
        refine va_iast hx hbb hWd.1 hR.2.1 hR.2.2.1 hR.2.2.2 a 0 (wsA_get hR.1 h1) rfl (inb_in hin) hd (fun H1 locs1 q1 q2 q3 => ?_)
        have he : hpa AH a (xs.set j.toNatClampNeg x) = AH.set a (.inr (.inl (xs.set j.toNatClampNeg x))) := hpa_eq h1
        have hset : (wsA cI cL skA v9 ad AH).set a (ad.getD a 0, .inl (cI, xs.length, .inl (upd (fun j => xs.getD j 0) j.toNatClampNeg x))) = wsA cI cL skA v9 ad (hpa AH a (xs.set j.toNatClampNeg x)) := by
          rw [he, ← wsA_set hR.1 h1 (c := .inr (.inl (xs.set j.toNatClampNeg x)))]
          simp only [ce, List.length_set, upd_set (inb_lt hin)]
        rw [hset] at q1 q2
        exact go_to g hpa_length (by rw [he]; exact hsz_set h1 (by simp [csz])) ⟨by rw [hpa_length]; exact hR.1, q1, q2, q3⟩ hL
      · cases hb
    · cases hb
  · cases hb
theorem bs_arraylength : BS l scr D cI cL skA v9 (.arraylength) := by
  intro p e R s m args below meth c A H locs cells slots Q k pc len ops ls st AH ad lsC cf cx hd hln hck hb hR hL hc1 hc2 hf1 hl1 g
  obtain ⟨hx, hbb, hml, hown, hts, hWd, hSd, hA, hini, hscr⟩ := cx
  have h9 := hSd.2.2.2.2
  have hlen : len = 1 := by simpa [lenOk] using hln
  subst hlen
  simp only [bstep] at hb
  split at hb
  · rename_i a r
    split at hb
    · rename_i xs hxs
      cases hb
      exact va_alen hx hbb hWd.1 hR.2.1 a 0 (wsA_get hR.1 (garr_spec hxs)) rfl rfl hd (go_same g hR hL)
    · cases hb
  · rename_i b r
    split at hb
    · rename_i hin
      cases hb
      obtain ⟨h0, rfl⟩ := hin
      obtain ⟨q1, q2, q3⟩ := hscr h0
      have e1 : cv skA v9 ad (.retAddr 1000) = .ref (skA 1000) := by simp [cv, skf]
      show W p l e R s m args below meth c H locs cells slots Q (F0 m pc lsC (cv skA v9 ad (.retAddr 1000) :: r.map (cv skA v9 ad)))
      rw [e1]
      exact va_slen hx hbb q1 q2 q3 hR.2.2.2 hd (go_same g hR hL)
    · split at hb
      · rename_i hin
        cases hb
        have e1 : cv skA v9 ad (.retAddr b) = .ref (skA (100 + (b - 100))) := by simp only [cv, skf]; rw [if_pos (Or.inl (by omega)), show 100 + (b - 100) = b by omega]
        show W p l e R s m args below meth c H locs cells slots Q (F0 m pc lsC (cv skA v9 ad (.retAddr b) :: r.map (cv skA v9 ad)))
        rw [e1]
        have hE := (hSd.1 (b - 100) (by omega)).2.2.2
        refine va_tlen hx hbb hE hR.2.2.2 ?_ hd (go_same g hR hL)
        have e2 : (bytS.map List.length).getD (b - 100) 0 = (bytS.getD (b - 100) []).length := by
          rw [List.getD_eq_getElem?_getD, List.getD_eq_getElem?_getD, List.getElem?_map]
          cases bytS[b - 100]? <;> rfl
        rw [e2]
      · cases hb
  · cases hb
end BSS
