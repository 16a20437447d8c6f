/-! ===== the start: classes, strings, statics ===== -/
def tR : List Nat := [88, 93, 95, 97, 99, 101, 103, 105, 131, 141, 210, 212, 214, 216, 157, 159, 173, 181, 186]
def tM : List Nat := [125, 127, 129, 131, 133, 135, 137, 138, 212, 218, 223, 225, 227, 229, 231, 233, 238, 240, 242]
def tmR (i : Nat) : Term := .string "NorthVines$Reader" (tR.getD i 0)
def tmV (i : Nat) : Term := .field (tmR i) "java/lang/String" "value" "[B"
def FLW : List Cond := flatC (Jvm.Cond.and given_1 narrow_1)
theorem fl_str : ∀ i ∈ List.range 19, Cond.exactly (tmR i) "java/lang/String" ∈ FLW ∧ Cond.eq (.field (tmR i) "java/lang/String" "coder" "B") (.int 0) ∈ FLW ∧ Cond.arrayOf (tmV i) .byte ∈ FLW ∧ Cond.eq (.length (tmV i)) (.int (Int32.ofNat ((bytS.map List.length).getD i 0))) ∈ FLW ∧ Cond.eq (tmR i) (.string "NorthVinesModel" (tM.getD i 0)) ∈ FLW := by decide +kernel
theorem fl_byt : ∀ i ∈ List.range 19, ∀ j ∈ List.range ((bytS.map List.length).getD i 0), Cond.eq (.elem (tmV i) (.int (Int32.ofNat j))) (.int ((bytS.getD i []).getD j 0)) ∈ FLW := by decide +kernel
theorem fl_len : ∀ i ∈ List.range 19, (bytS.map List.length).getD i 0 < 2 ^ 31 := by decide +kernel
theorem fl_sta : Cond.eq (.static "java/lang/String" "COMPACT_STRINGS" "Z") (.int 1) ∈ FLW ∧ Cond.isRef (.static "jdk/internal/util/Preconditions" "SIOOBE_FORMATTER" "Ljava/util/function/BiFunction;") ∈ FLW ∧ Cond.isRef (.static Bundle.tN "UNASSIGNED_STACK" Bundle.steD) ∈ FLW ∧ Cond.isRef (.static Bundle.tN "SUPPRESSED_SENTINEL" Bundle.listD) ∈ FLW := by decide +kernel
theorem tb_sta : Cond.laysStatic "java/lang/String" "COMPACT_STRINGS" "Z" ∈ lw_tbl ∧ Cond.initialized "java/lang/String" ∈ lw_tbl ∧ Cond.laysStatic "jdk/internal/util/Preconditions" "SIOOBE_FORMATTER" "Ljava/util/function/BiFunction;" ∈ lw_tbl ∧ Cond.initialized "jdk/internal/util/Preconditions" ∈ lw_tbl ∧ Cond.laysStatic Bundle.tN "UNASSIGNED_STACK" Bundle.steD ∈ lw_tbl ∧ Cond.laysStatic Bundle.tN "SUPPRESSED_SENTINEL" Bundle.listD ∈ lw_tbl ∧ Cond.initialized Bundle.tN ∈ lw_tbl ∧ Cond.arrayClass .int ∈ lw_tbl ∧ Cond.arrayClass .long ∈ lw_tbl := by decide +kernel
def isSR (w : Cond) : Bool := match w with
  | .stringRef own n tx => (List.range 19).all (fun j => !(decide (txs.getD j "" = tx)) || (decide (own = "NorthVines$Reader") && decide (n = tR.getD j 0)) || (decide (own = "NorthVinesModel") && decide (n = tM.getD j 0)))
  | _ => true
theorem sr_all : ∀ w ∈ lw_tbl, isSR w = true := by decide +kernel
theorem nest_any {w : Cond} {s : State} {b : Nat} (hn : isNest w = true) (h : w.before #[Value.ref b] s = true) : va_Nw w s := by
  unfold va_Nw
  cases w <;> first | (exfalso; simp [isNest] at hn; done) | exact h
def nslC : List Nat := [1, 6, 8, 4, 9, 4, 8, 8, 4, 3, 7, 16, 40, 6]
theorem tb_cls : ∀ k ∈ List.range 14, ∀ q, vwC[k]? = some q → (∀ w ∈ u_ws q.1 q.2.1 q.2.2, w ∈ lw_tbl) ∧ Cond.instantiable q.1 (nslC.getD k 0) ∈ lw_tbl := by
  intro k hk
  have : k < 14 := List.mem_range.mp hk
  match k, this with
  | 0, _ => intro q hq; cases hq; exact ⟨by decide +kernel, by decide +kernel⟩
  | 1, _ => intro q hq; cases hq; exact ⟨by decide +kernel, by decide +kernel⟩
  | 2, _ => intro q hq; cases hq; exact ⟨by decide +kernel, by decide +kernel⟩
  | 3, _ => intro q hq; cases hq; exact ⟨by decide +kernel, by decide +kernel⟩
  | 4, _ => intro q hq; cases hq; exact ⟨by decide +kernel, by decide +kernel⟩
  | 5, _ => intro q hq; cases hq; exact ⟨by decide +kernel, by decide +kernel⟩
  | 6, _ => intro q hq; cases hq; exact ⟨by decide +kernel, by decide +kernel⟩
  | 7, _ => intro q hq; cases hq; exact ⟨by decide +kernel, by decide +kernel⟩
  | 8, _ => intro q hq; cases hq; exact ⟨by decide +kernel, by decide +kernel⟩
  | 9, _ => intro q hq; cases hq; exact ⟨by decide +kernel, by decide +kernel⟩
  | 10, _ => intro q hq; cases hq; exact ⟨by decide +kernel, by decide +kernel⟩
  | 11, _ => intro q hq; cases hq; exact ⟨by decide +kernel, by decide +kernel⟩
  | 12, _ => intro q hq; cases hq; exact ⟨by decide +kernel, by decide +kernel⟩
  | 13, _ => intro q hq; cases hq; exact ⟨by decide +kernel, by decide +kernel⟩
  | k + 14, h => omega
theorem dc_tb : ∀ x ∈ DCL, Cond.declares x ∈ lw_tbl := by decide +kernel
section START
variable {s : State} {b : Nat}
theorem va_isR {args : Array Value} {t : Term} (h : (Cond.isRef t).before args s = true) : ∃ v : Value, t.eval args s none [] s = some v ∧ v.category = 1 := by
  cases hv : t.eval args s none [] s with
  | none => simp [Cond.before, Cond.holds, Cond.value, hv] at h
  | some v =>
    refine ⟨v, rfl, ?_⟩
    simp only [Cond.before, Cond.holds, Cond.value, hv] at h
    cases v <;> first | rfl | (simp [Value.isRef] at h)
theorem start_W (hts : ∀ w ∈ lw_tbl, w.before #[Value.ref b] s = true) : ∃ (D : va_G) (cI cL : ClassId), Wd D cI cL s := by
  have h0 : ∀ k : Nat, ∃ p : ClassId × (Nat → Nat), ∀ q, vwC[k]? = some q → u_Kn s q.1 q.2.1 q.2.2 p.1 p.2 := by
    intro k
    cases hq : vwC[k]? with
    | none => exact ⟨(0, fun _ => 0), fun q h => by cases h⟩
    | some q =>
      have hk : k < 14 := vwC_lt hq
      obtain ⟨h1, h2⟩ := tb_cls k (List.mem_range.mpr hk) q hq
      obtain ⟨cC, iS, h3⟩ := u_known (C := q.1) (T := q.2.1) (N := q.2.2) (n := nslC.getD k 0) hts h1 (hts _ h2)
      exact ⟨(cC, iS), fun q' h => by cases h; exact h3⟩
  obtain ⟨f, hf⟩ := Classical.axiomOfChoice h0
  obtain ⟨cI, kI, compI, i1, i2, i3⟩ := Cond.arrayClass_spec (hts _ tb_sta.2.2.2.2.2.2.2.1)
  obtain ⟨cL, kL, compL, l1, l2, l3⟩ := Cond.arrayClass_spec (hts _ tb_sta.2.2.2.2.2.2.2.2)
  refine ⟨(fun k => (f k).1, fun k => (f k).2), cI, cL, ⟨fun k q hq => hf k q hq, fun k q hq => ?_⟩, fun w hw => ?_, fun x hx => ?_⟩
  · match k, hq with
    | 0, hq => cases hq; exact ⟨fun n z => ⟨fun k h => (by cases h), kI, i2, compI, i3⟩, i1⟩
    | 1, hq => cases hq; exact ⟨fun n z => ⟨fun k h => (by cases h), kL, l2, compL, l3⟩, l1⟩
    | k + 2, hq => simp at hq
  · have h1 := List.mem_filter.mp hw
    exact nest_any h1.2 (hts w h1.1)
  · have h1 := hts _ (dc_tb x hx)
    have e := Cond.onTables_vm (A := #[Value.ref b]) (A' := #[]) (U := s) (U' := s) s.vm (.declares x) rfl
    exact (show (Cond.declares x).before #[Value.ref b] s = (Cond.declares x).before #[] s from e).symm.trans h1
theorem start_S (hts : ∀ w ∈ lw_tbl, w.before #[Value.ref b] s = true) (hgv : (Jvm.Cond.and given_1 narrow_1).before #[Value.ref b] s = true) : ∃ (skA : Nat → Nat) (v9 : Value), Sd skA v9 (fun q => s.heap.size ≤ q) s s.heap ∧ skA 1000 = b := by
  have hfl : ∀ w ∈ FLW, w.before #[Value.ref b] s = true := flat_of_before _ hgv
  have hA : ∀ a : Nat, a < s.heap.size → ¬ (fun q : Nat => s.heap.size ≤ q) a := fun a h => Nat.not_le.mpr h
  have h0 : ∀ i : Nat, ∃ q : Nat × Nat, i < 19 → (tmR i).eval #[Value.ref b] s none [] s = some (.ref q.1) ∧ va_O "java/lang/String" q.1 (fun q => s.heap.size ≤ q) s s.heap ∧ va_OF "java/lang/String" "coder" "B" (.int 0) q.1 (fun q => s.heap.size ≤ q) s s.heap ∧ va_OF "java/lang/String" "value" "[B" (.ref q.2) q.1 (fun q => s.heap.size ≤ q) s s.heap ∧ va_T .byte q.2 ((bytS.map List.length).getD i 0) (fun j => .int ((bytS.getD i []).getD j 0)) (fun q => s.heap.size ≤ q) s s.heap := by
    intro i
    by_cases hi : i < 19
    · obtain ⟨g1, g2, g3, g4, -⟩ := fl_str i (List.mem_range.mpr hi)
      obtain ⟨a, c, cA, kA, q1, q2, q3, q4, q5, q6, -⟩ := Cond.exactly_spec (args := #[Value.ref b]) (first := s) (o := none) (s := s) (idx := []) (t := tmR i) (cls := "java/lang/String") (hfl _ g1)
      obtain ⟨t, ht, hT⟩ := va_Tof (f := fun j => .int ((bytS.getD i []).getD j 0)) (A := fun q => s.heap.size ≤ q) (fl_len i (List.mem_range.mpr hi)) (hfl _ g3) (va_eqt (hfl _ g4)) (fun j hj => va_eqt (hfl _ (fl_byt i (List.mem_range.mpr hi) j (List.mem_range.mpr hj)))) hA
      exact ⟨(a, t), fun _ => ⟨q1, ⟨cA, q3, q5, by rw [q6]; exact q2, hA a (Array.getElem?_eq_some_iff.mp q3).1⟩, vk_OFof q1 (va_eqt (hfl _ g2)) hA, vk_OFof q1 ht hA, hT⟩⟩
    · exact ⟨(0, 0), fun h => absurd h hi⟩
  obtain ⟨ad, had⟩ := Classical.axiomOfChoice h0
  obtain ⟨v9, hv9, c9⟩ := va_isR (hfl _ fl_sta.2.1)
  have sk1 : ∀ i : Nat, i < 19 → (fun j => if j = 1000 then b else if j < 100 then (ad j).1 else (ad (j - 100)).2) i = (ad i).1 := fun i hi => by
    show (if i = 1000 then b else if i < 100 then (ad i).1 else (ad (i - 100)).2) = _
    rw [if_neg (by omega), if_pos (by omega)]
  have sk2 : ∀ i : Nat, i < 19 → (fun j => if j = 1000 then b else if j < 100 then (ad j).1 else (ad (j - 100)).2) (100 + i) = (ad i).2 := fun i hi => by
    show (if 100 + i = 1000 then b else if 100 + i < 100 then (ad (100 + i)).1 else (ad (100 + i - 100)).2) = _
    rw [if_neg (by omega), if_neg (by omega), show 100 + i - 100 = i by omega]
  refine ⟨fun j => if j = 1000 then b else if j < 100 then (ad j).1 else (ad (j - 100)).2, v9, ⟨fun i hi => ?_, fun own n j hj hm => ?_, va_Zof (hts _ tb_sta.1) (hts _ tb_sta.2.1) (va_eqt (hfl _ fl_sta.1)) hA, ⟨va_Zof (hts _ tb_sta.2.2.1) (hts _ tb_sta.2.2.2.1) hv9 hA, vx_Zqof (hts _ tb_sta.2.2.2.2.1) (hts _ tb_sta.2.2.2.2.2.2.1) (hfl _ fl_sta.2.2.1) hA, vx_Zqof (hts _ tb_sta.2.2.2.2.2.1) (hts _ tb_sta.2.2.2.2.2.2.1) (hfl _ fl_sta.2.2.2) hA⟩, c9⟩, rfl⟩
  · rw [sk1 i hi, sk2 i hi]
    exact (had i hi).2
  · rw [sk1 j hj]
    have h1 := sr_all _ hm
    simp only [isSR, List.all_eq_true] at h1
    have h2 := h1 j (List.mem_range.mpr hj)
    simp only [decide_true, Bool.not_true, Bool.false_or, Bool.or_eq_true, Bool.and_eq_true, decide_eq_true_eq] at h2
    have hR := (had j hj).1
    rcases h2 with ⟨rfl, rfl⟩ | ⟨rfl, rfl⟩
    · exact vk_R.of (hts _ hm) hR
    · exact vk_R.of (hts _ hm) (va_eqR (hfl _ (fl_str j (List.mem_range.mpr hj)).2.2.2.2) hR)
end START
/-! ===== how large the law's heap becomes ===== -/
theorem csz_shc (c : AC) : csz (shc c) = csz c := by
  rcases c with ⟨ci, fs⟩ | xs | xs
  · rfl
  · simp [shc, csz]
  · simp [shc, csz]
theorem hsz_cons {c : AC} {H : List AC} : hsz (c :: H) = csz c + hsz H := rfl
theorem csz_o {ci : Nat} {fs : List Value} : csz (.inl (ci, fs)) = nslT.getD ci 0 := rfl
theorem csz_i {n : Nat} {a : Int32} : csz (.inr (.inl (List.replicate n a))) = n := List.length_replicate
theorem csz_l {n : Nat} {a : Int64} : csz (.inr (.inr (List.replicate n a))) = n := List.length_replicate
set_option maxRecDepth 20000 in
theorem hsz_SH : hsz SH ≤ 30000 := by
  unfold SH
  simp only [hsz_cons, csz_o, csz_i, csz_l]
  decide +kernel
theorem hsz_app {H G : List AC} : hsz (H ++ G) = hsz H + hsz G := by simp [hsz]
theorem hsz_thr : ∀ L : List AC, (∀ c ∈ L, c = .inl (13, [])) → hsz L = 6 * L.length
  | [], _ => rfl
  | c :: L, h => by
    have h1 := h c List.mem_cons_self
    have h2 := hsz_thr L (fun c hc => h c (List.mem_cons_of_mem _ hc))
    rw [show c :: L = [c] ++ L from rfl, hsz_app, h2, h1, List.length_append]
    show 6 + 6 * L.length = 6 * (1 + L.length)
    omega
theorem hsz_of {H : List AC} (hS : Shp H) (hT : Tl H) (hl : H.length ≤ 700) : hsz H ≤ 40000 := by
  have e : H = H.take 84 ++ H.drop 84 := (List.take_append_drop 84 H).symm
  have e1 : hsz (H.take 84) = hsz SH := by
    unfold hsz
    rw [← show (H.take 84).map shc = SH from hS, List.map_map]
    congr 1
    apply List.map_congr_left
    intro c _
    exact (csz_shc c).symm
  have e2 : hsz (H.drop 84) = 6 * (H.drop 84).length := hsz_thr _ (fun c hc => by
    obtain ⟨i, hi⟩ := List.getElem?_of_mem hc
    rw [List.getElem?_drop] at hi
    exact hT (84 + i) c (by omega) hi)
  rw [e, hsz_app, e1, e2, List.length_drop]
  have := hsz_SH
  omega
