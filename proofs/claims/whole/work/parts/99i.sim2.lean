section BRF
variable {p : Program} {l : Launch} {e : Env} {R : Room} {s : State} {m : MethodId} {args : Array Value} {below : List Frame} {meth : Method} {c : Code} {H : Heap} {locs : List Loc} {cells slots : Nat} {Q : State → Prop} {cc : ByteArray} {pc : Nat} {ls : Array Jvm.Slot} {rest : List Value}
theorem lv_brF_ifCond_eq (hexec : p.tables.exec = Jvm.exec) (hb : c.code = cc) {x : Int32} {off : Int} (hdg : decode cc pc = .ok (.ifCond .eq off, 3)) (hf : ¬ (x = 0)) (kf : W p l e R s m args below meth c H locs cells slots Q (F0 m (pc + 3) ls rest)) : W p l e R s m args below meth c H locs cells slots Q (F0 m pc ls (.int x :: rest)) := by
  intro T hT X
  obtain ⟨t, a, b⟩ := kf T hT X
  refine ⟨t, ?_, b⟩
  have hf := hf
  jvm_step X.here [X.here.top, hexec, hb, hdg, Op.ifCond.holds, hf]
  exact a
theorem lv_brF_if_icmp_eq (hexec : p.tables.exec = Jvm.exec) (hb : c.code = cc) {x y : Int32} {off : Int} (hdg : decode cc pc = .ok (.if_icmp .eq off, 3)) (hf : ¬ (x = y)) (kf : W p l e R s m args below meth c H locs cells slots Q (F0 m (pc + 3) ls rest)) : W p l e R s m args below meth c H locs cells slots Q (F0 m pc ls (.int y :: .int x :: rest)) := by
  intro T hT X
  obtain ⟨t, a, b⟩ := kf T hT X
  refine ⟨t, ?_, b⟩
  have hf := hf
  jvm_step X.here [X.here.top, hexec, hb, hdg, Op.if_icmp.holds, hf]
  exact a
theorem lv_brF_ifCond_ne (hexec : p.tables.exec = Jvm.exec) (hb : c.code = cc) {x : Int32} {off : Int} (hdg : decode cc pc = .ok (.ifCond .ne off, 3)) (hf : ¬ (¬ x = 0)) (kf : W p l e R s m args below meth c H locs cells slots Q (F0 m (pc + 3) ls rest)) : W p l e R s m args below meth c H locs cells slots Q (F0 m pc ls (.int x :: rest)) := by
  intro T hT X
  obtain ⟨t, a, b⟩ := kf T hT X
  refine ⟨t, ?_, b⟩
  have hf := Classical.not_not.mp hf
  jvm_step X.here [X.here.top, hexec, hb, hdg, Op.ifCond.holds, hf]
  exact a
theorem lv_brF_if_icmp_ne (hexec : p.tables.exec = Jvm.exec) (hb : c.code = cc) {x y : Int32} {off : Int} (hdg : decode cc pc = .ok (.if_icmp .ne off, 3)) (hf : ¬ (¬ x = y)) (kf : W p l e R s m args below meth c H locs cells slots Q (F0 m (pc + 3) ls rest)) : W p l e R s m args below meth c H locs cells slots Q (F0 m pc ls (.int y :: .int x :: rest)) := by
  intro T hT X
  obtain ⟨t, a, b⟩ := kf T hT X
  refine ⟨t, ?_, b⟩
  have hf := Classical.not_not.mp hf
  jvm_step X.here [X.here.top, hexec, hb, hdg, Op.if_icmp.holds, hf]
  exact a
theorem lv_brF_ifCond_lt (hexec : p.tables.exec = Jvm.exec) (hb : c.code = cc) {x : Int32} {off : Int} (hdg : decode cc pc = .ok (.ifCond .lt off, 3)) (hf : ¬ (x < 0)) (kf : W p l e R s m args below meth c H locs cells slots Q (F0 m (pc + 3) ls rest)) : W p l e R s m args below meth c H locs cells slots Q (F0 m pc ls (.int x :: rest)) := by
  intro T hT X
  obtain ⟨t, a, b⟩ := kf T hT X
  refine ⟨t, ?_, b⟩
  have hf := hf
  jvm_step X.here [X.here.top, hexec, hb, hdg, Op.ifCond.holds, hf]
  exact a
theorem lv_brF_if_icmp_lt (hexec : p.tables.exec = Jvm.exec) (hb : c.code = cc) {x y : Int32} {off : Int} (hdg : decode cc pc = .ok (.if_icmp .lt off, 3)) (hf : ¬ (x < y)) (kf : W p l e R s m args below meth c H locs cells slots Q (F0 m (pc + 3) ls rest)) : W p l e R s m args below meth c H locs cells slots Q (F0 m pc ls (.int y :: .int x :: rest)) := by
  intro T hT X
  obtain ⟨t, a, b⟩ := kf T hT X
  refine ⟨t, ?_, b⟩
  have hf := hf
  jvm_step X.here [X.here.top, hexec, hb, hdg, Op.if_icmp.holds, hf]
  exact a
theorem lv_brF_ifCond_ge (hexec : p.tables.exec = Jvm.exec) (hb : c.code = cc) {x : Int32} {off : Int} (hdg : decode cc pc = .ok (.ifCond .ge off, 3)) (hf : ¬ (0 ≤ x)) (kf : W p l e R s m args below meth c H locs cells slots Q (F0 m (pc + 3) ls rest)) : W p l e R s m args below meth c H locs cells slots Q (F0 m pc ls (.int x :: rest)) := by
  intro T hT X
  obtain ⟨t, a, b⟩ := kf T hT X
  refine ⟨t, ?_, b⟩
  have hf := hf
  jvm_step X.here [X.here.top, hexec, hb, hdg, Op.ifCond.holds, hf]
  exact a
theorem lv_brF_if_icmp_ge (hexec : p.tables.exec = Jvm.exec) (hb : c.code = cc) {x y : Int32} {off : Int} (hdg : decode cc pc = .ok (.if_icmp .ge off, 3)) (hf : ¬ (y ≤ x)) (kf : W p l e R s m args below meth c H locs cells slots Q (F0 m (pc + 3) ls rest)) : W p l e R s m args below meth c H locs cells slots Q (F0 m pc ls (.int y :: .int x :: rest)) := by
  intro T hT X
  obtain ⟨t, a, b⟩ := kf T hT X
  refine ⟨t, ?_, b⟩
  have hf := hf
  jvm_step X.here [X.here.top, hexec, hb, hdg, Op.if_icmp.holds, hf]
  exact a
theorem lv_brF_ifCond_gt (hexec : p.tables.exec = Jvm.exec) (hb : c.code = cc) {x : Int32} {off : Int} (hdg : decode cc pc = .ok (.ifCond .gt off, 3)) (hf : ¬ (0 < x)) (kf : W p l e R s m args below meth c H locs cells slots Q (F0 m (pc + 3) ls rest)) : W p l e R s m args below meth c H locs cells slots Q (F0 m pc ls (.int x :: rest)) := by
  intro T hT X
  obtain ⟨t, a, b⟩ := kf T hT X
  refine ⟨t, ?_, b⟩
  have hf := hf
  jvm_step X.here [X.here.top, hexec, hb, hdg, Op.ifCond.holds, hf]
  exact a
theorem lv_brF_if_icmp_gt (hexec : p.tables.exec = Jvm.exec) (hb : c.code = cc) {x y : Int32} {off : Int} (hdg : decode cc pc = .ok (.if_icmp .gt off, 3)) (hf : ¬ (y < x)) (kf : W p l e R s m args below meth c H locs cells slots Q (F0 m (pc + 3) ls rest)) : W p l e R s m args below meth c H locs cells slots Q (F0 m pc ls (.int y :: .int x :: rest)) := by
  intro T hT X
  obtain ⟨t, a, b⟩ := kf T hT X
  refine ⟨t, ?_, b⟩
  have hf := hf
  jvm_step X.here [X.here.top, hexec, hb, hdg, Op.if_icmp.holds, hf]
  exact a
theorem lv_brF_ifCond_le (hexec : p.tables.exec = Jvm.exec) (hb : c.code = cc) {x : Int32} {off : Int} (hdg : decode cc pc = .ok (.ifCond .le off, 3)) (hf : ¬ (x ≤ 0)) (kf : W p l e R s m args below meth c H locs cells slots Q (F0 m (pc + 3) ls rest)) : W p l e R s m args below meth c H locs cells slots Q (F0 m pc ls (.int x :: rest)) := by
  intro T hT X
  obtain ⟨t, a, b⟩ := kf T hT X
  refine ⟨t, ?_, b⟩
  have hf := hf
  jvm_step X.here [X.here.top, hexec, hb, hdg, Op.ifCond.holds, hf]
  exact a
theorem lv_brF_if_icmp_le (hexec : p.tables.exec = Jvm.exec) (hb : c.code = cc) {x y : Int32} {off : Int} (hdg : decode cc pc = .ok (.if_icmp .le off, 3)) (hf : ¬ (x ≤ y)) (kf : W p l e R s m args below meth c H locs cells slots Q (F0 m (pc + 3) ls rest)) : W p l e R s m args below meth c H locs cells slots Q (F0 m pc ls (.int y :: .int x :: rest)) := by
  intro T hT X
  obtain ⟨t, a, b⟩ := kf T hT X
  refine ⟨t, ?_, b⟩
  have hf := hf
  jvm_step X.here [X.here.top, hexec, hb, hdg, Op.if_icmp.holds, hf]
  exact a
end BRF
section BSS2
variable {l : Launch} {scr : List Int32} {D : va_G} {cI cL : ClassId} {skA : Nat → Nat} {v9 : Value}
theorem aw_int : Cond.arrayClass .int ∈ TBL := inT_mem (w := 150) (by decide +kernel)
theorem aw_long : Cond.arrayClass .long ∈ TBL := inT_mem (w := 2036) (by decide +kernel)
theorem oi_inst : Cond.instanceMethod Lib.objectInit ∈ TBL := inT_mem (w := 135) (by decide +kernel)
theorem oi_code : Cond.code Lib.objectInit ⟨#[0xb1]⟩ 1 none ∈ TBL := inT_mem (w := 136) (by decide +kernel)
theorem ra_one {U : State} {c1 c2 : ClassId} (h1 : va_RA U c1 .int) (h2 : va_RA U c2 .int) : c1 = c2 := by
  have h1 : U.vm.findClass _ = some c1 := h1
  have h2 : U.vm.findClass _ = some c2 := h2
  rw [h1] at h2
  exact Option.some.inj h2
theorem ra_oneL {U : State} {c1 c2 : ClassId} (h1 : va_RA U c1 .long) (h2 : va_RA U c2 .long) : c1 = c2 := by
  have h1 : U.vm.findClass _ = some c1 := h1
  have h2 : U.vm.findClass _ = some c2 := h2
  rw [h1] at h2
  exact Option.some.inj h2
theorem rep_getD {α : Type} {n j : Nat} {x : α} : (List.replicate n x).getD j x = x := by
  rw [List.getD_eq_getElem?_getD, List.getElem?_replicate]
  split <;> rfl
/-- a cell more: the world with it -/
theorem go_push {k : Nat} {p : Program} {e : Env} {R : Room} {s : State} {m : MethodId} {args : Array Value} {below : List Frame} {meth : Method} {c : Code} {A : Nat → Prop} {cells slots N : Nat} {Q : State → Prop} {ad : List Nat} {AH : List AC} {pc' q : Nat} {ls : ALs} {r : List Value} {H1 : Heap} {locs : List Loc} {lsC : Array Jvm.Slot} {ac : AC} {ve : va_E}
    (g : Go l D cI cL skA v9 k p e R s m args below meth c A cells slots Q ad AH (pc', ls, .ref AH.length :: r, AH ++ [ac])) (hl : ad.length = AH.length) (hk : (lok AH.length ls && sok AH.length r && hok AH.length AH) = true) (hL : LR skA v9 ad ls lsC (mMax k)) (hv : ce cI cL skA v9 (ad ++ [q]) ac = ve) (hN : csz ac = N)
    (hP : va_P D vwC (wsA cI cL skA v9 ad AH ++ [(q, ve)]) H1) (hD : va_D A (wsA cI cL skA v9 ad AH ++ [(q, ve)])) (hS : va_S A s.heap H1 locs) : W p l e R s m args below meth c H1 locs (cells + 1) (slots + N) Q (F0 m pc' lsC (.ref q :: r.map (cv skA v9 ad))) := by
  simp only [Bool.and_eq_true] at hk
  have hw := wsA_push (cI := cI) (cL := cL) (skA := skA) (v9 := v9) (c := ac) (q := q) hl hk.2
  rw [hv] at hw
  rw [← hw] at hP hD
  have h := g (ad ++ [q]) H1 locs lsC (List.prefix_append _ _) ⟨by simp [hl], hP, hD, hS⟩ (hL.pre (List.prefix_append _ _) (by rw [hl]; exact hk.1.1))
  have e1 : (AH ++ [ac]).length - AH.length = 1 := by simp
  have e2 : hsz (AH ++ [ac]) - hsz AH = N := by rw [hsz_push, hN]; omega
  have e3 : cv skA v9 (ad ++ [q]) (.ref AH.length) = .ref q := by simp [cv, ← hl]
  simp only [e1, e2, List.map_cons, e3, map_pre (List.prefix_append ad [q]) (show sok ad.length r = true by rw [hl]; exact hk.1.2)] at h
  exact h
theorem bs_newarray {ty : ArrayType} : BS l scr D cI cL skA v9 (.newarray ty) := by
  intro p e R s m args below meth c A H locs cells slots Q k pc len ops ls st AH ad lsC cf cx hd hln hck hb hR hL hc1 hc2 hf1 hl1 g
  obtain ⟨hx, hbb, hml, hown, hts, hWd, hSd, hA, hini, hscr⟩ := cx
  have h9 := hSd.2.2.2.2
  have hlen : len = 2 := by simpa [lenOk] using hln
  subst hlen
  simp only [bstep] at hb
  split at hb
  · rename_i n r
    split at hb
    · cases hb
    · rename_i hcn
      have hn0 : ¬ n < 0 := fun h => hcn (Or.inl h)
      have hnb : n.toNatClampNeg ≤ 100000 := by
        rcases Nat.lt_or_ge 100000 n.toNatClampNeg with h | h
        · exact absurd (Or.inr (Or.inl h)) hcn
        · exact h
      have hok' : (lok AH.length ls && sok AH.length r && hok AH.length AH) = true := by
        cases h : (lok AH.length ls && sok AH.length r && hok AH.length AH) with
        | true => rfl
        | false => exact absurd (Or.inr (Or.inr h)) hcn
      split at hb
      · cases hb
        have e1 : (AH ++ [Sum.inr (Sum.inl (List.replicate n.toNatClampNeg 0))] : List AC).length - AH.length = 1 := by simp
        have e2 : hsz (AH ++ [Sum.inr (Sum.inl (List.replicate n.toNatClampNeg 0))]) - hsz AH = n.toNatClampNeg := by rw [hsz_push]; simp [csz]
        rw [e1] at hc1
        rw [e2] at hc2
        refine va_newa (atype := .int) (ty := .int) (a0 := (n.toNatClampNeg, .inl (fun j => (List.replicate n.toNatClampNeg (0 : Int32)).getD j 0))) hx hbb (hts _ aw_int) rfl hWd.1 hR.2.1 hR.2.2.1 hR.2.2.2 hA (fun cA => ?_) hn0 rfl (by simp only [componentBytes]; omega) hc1 hc2 hd (fun q cA H1 hK1 hP1 hD1 hS1 => ?_)
        · rw [vp_cell_i]
          simp only [rep_getD]
          rfl
        · have hcA : cA = cI := ra_one (hK1.2 2 (cA, .int) rfl).2 (hWd.1.2 0 (cI, .int) rfl).2
          subst hcA
          exact go_push g hR.1 hok' hL (by simp only [ce, List.length_replicate]) (by simp [csz]) hP1 hD1 hS1
      · cases hb
        have e1 : (AH ++ [Sum.inr (Sum.inr (List.replicate n.toNatClampNeg 0))] : List AC).length - AH.length = 1 := by simp
        have e2 : hsz (AH ++ [Sum.inr (Sum.inr (List.replicate n.toNatClampNeg 0))]) - hsz AH = n.toNatClampNeg := by rw [hsz_push]; simp [csz]
        rw [e1] at hc1
        rw [e2] at hc2
        refine va_newa (atype := .long) (ty := .long) (a0 := (n.toNatClampNeg, .inr (.inl (fun j => (List.replicate n.toNatClampNeg (0 : Int64)).getD j 0)))) hx hbb (hts _ aw_long) rfl hWd.1 hR.2.1 hR.2.2.1 hR.2.2.2 hA (fun cA => ?_) hn0 rfl (by simp only [componentBytes]; omega) hc1 hc2 hd (fun q cA H1 hK1 hP1 hD1 hS1 => ?_)
        · rw [vp_cell_l]
          simp only [rep_getD]
          rfl
        · have hcA : cA = cL := ra_oneL (hK1.2 2 (cA, .long) rfl).2 (hWd.1.2 1 (cL, .long) rfl).2
          subst hcA
          exact go_push g hR.1 hok' hL (by simp only [ce, List.length_replicate]) (by simp [csz]) hP1 hD1 hS1
      · cases hb
  · cases hb
theorem fdef_cv {ci : Nat} {ad : List Nat} : (fdef ci).map (cv skA v9 ad) = fdef ci := by
  unfold fdef
  rw [List.map_map]
  apply List.map_congr_left
  intro t _
  cases t <;> rfl
theorem map_dflt {L : List FieldType} {j : Nat} (h : j < L.length) : defaultValue (L.getD j .int) = (L.map defaultValue).getD j .null := by
  simp [List.getD_eq_getElem?_getD, List.getElem?_map, List.getElem?_eq_getElem h]
theorem nsl_all : (List.range 13).all (fun ci => match vwCl[ci]? with | some (_, _, N) => nslT.getD ci 0 == N | none => false) = true := by decide +kernel
theorem bs_new {n : Nat} : BS l scr D cI cL skA v9 (.new n) := by
  intro p e R s m args below meth c A H locs cells slots Q k pc len ops ls st AH ad lsC cf cx hd hln hck hb hR hL hc1 hc2 hf1 hl1 g
  obtain ⟨hx, hbb, hml, hown, hts, hWd, hSd, hA, hini, hscr⟩ := cx
  have h9 := hSd.2.2.2.2
  have hlen : len = 3 := by simpa [lenOk] using hln
  subst hlen
  simp only [bstep] at hb
  split at hb
  · rename_i ci w
    split at hb
    · rename_i hk
      cases hb
      have hc := hck (by simp)
      simp only [chkI] at hc
      split at hc
      · rename_i C T N hcl
        obtain ⟨k1, k2, k3, k4, k5, k6, k7⟩ := cl_of hcl
        have hns := List.all_eq_true.mp nsl_all ci (List.mem_range.mpr hk.1)
        simp only [hcl, beq_iff_eq] at hns
        have e1 : (AH ++ [Sum.inl (ci, fdef ci)] : List AC).length - AH.length = 1 := by simp
        have e2 : hsz (AH ++ [Sum.inl (ci, fdef ci)]) - hsz AH = N := by rw [hsz_push]; simp only [csz, hns]; omega
        rw [e1] at hc1
        rw [e2] at hc2
        refine va_new (ci := ci) (fs := fdef ci) hx hbb hts k2 (fty ci) k5 hown (hts _ (inT_mem hc)) (hts _ k3) (hts _ k4) hWd.1 hR.2.1 hR.2.2.1 hR.2.2.2 hA k1 (fun j hj => ?_) hc1 hc2 hd (fun q H1 hP1 hD1 hS1 => ?_)
        · exact map_dflt (by rw [k7]; exact hj)
        · exact go_push g hR.1 (by simpa [Bool.and_eq_true] using hk.2) hL (by simp only [ce, fdef_cv]) (by simp only [csz, hns]) hP1 hD1 hS1
      · cases hc
    · cases hb
  · cases hb
theorem bs_invokespecial {n : Nat} : BS l scr D cI cL skA v9 (.invokespecial n) := by
  intro p e R s m args below meth c A H locs cells slots Q k pc len ops ls st AH ad lsC cf cx hd hln hck hb hR hL hc1 hc2 hf1 hl1 g
  obtain ⟨hx, hbb, hml, hown, hts, hWd, hSd, hA, hini, hscr⟩ := cx
  have h9 := hSd.2.2.2.2
  have hlen : len = 3 := by simpa [lenOk] using hln
  subst hlen
  simp only [bstep] at hb
  split at hb
  · rename_i a r w
    split at hb
    · rename_i hs8
      cases hb
      have hc := hck (by simp)
      simp only [chkI] at hc
      have hs9 : ((r.map (cv skA v9 ad)).map fun v => v.category).sum ≤ 8 := by
        rw [List.map_map]
        have e1 : ((fun v => v.category) ∘ cv skA v9 ad) = fun v : Value => v.category := by
          funext v
          exact cv_cat h9 v
        rw [e1]
        exact hs8
      have hr8 := lv_room (m := m) (pc := pc) (ls := lsC) (rest := .ref (ad.getD a 0) :: r.map (cv skA v9 ad)) hs9
      exact W.objInit hx hbb hown (hts _ (inT_mem hc)) (hts _ oi_inst) (hts _ oi_code) (g := F0 m pc lsC (.ref (ad.getD a 0) :: r.map (cv skA v9 ad))) rfl (by rw [hml]; exact hL.2.1) rfl hd hf1 (by omega) (go_same g hR hL)
    · cases hb
  · cases hb
theorem bs_ifCond_eq {z : Int} : BS l scr D cI cL skA v9 (.ifCond .eq z) := by
  intro p e R s m args below meth c A H locs cells slots Q k pc len ops ls st AH ad lsC cf cx hd hln hck hb hR hL hc1 hc2 hf1 hl1 g
  obtain ⟨hx, hbb, hml, hown, hts, hWd, hSd, hA, hini, hscr⟩ := cx
  have h9 := hSd.2.2.2.2
  have hlen : len = 3 := by simpa [lenOk] using hln
  subst hlen
  simp only [bstep] at hb
  split at hb
  · rename_i x r
    by_cases hc : x = 0
    · rw [if_pos hc] at hb
      unfold jto at hb
      split at hb
      · rename_i hz
        cases hb
        exact lv_if_eq (tgt := ((pc : Int) + z).toNat) hx hbb hd (Int.toNat_of_nonneg hz).symm (fun _ => go_same g hR hL) (fun q => absurd hc q)
      · cases hb
    · rw [if_neg hc] at hb
      cases hb
      exact lv_brF_ifCond_eq hx hbb hd hc (go_same g hR hL)
  · cases hb
theorem bs_if_icmp_eq {z : Int} : BS l scr D cI cL skA v9 (.if_icmp .eq z) := by
  intro p e R s m args below meth c A H locs cells slots Q k pc len ops ls st AH ad lsC cf cx hd hln hck hb hR hL hc1 hc2 hf1 hl1 g
  obtain ⟨hx, hbb, hml, hown, hts, hWd, hSd, hA, hini, hscr⟩ := cx
  have h9 := hSd.2.2.2.2
  have hlen : len = 3 := by simpa [lenOk] using hln
  subst hlen
  simp only [bstep] at hb
  split at hb
  · rename_i y x r
    by_cases hc : x = y
    · rw [if_pos hc] at hb
      unfold jto at hb
      split at hb
      · rename_i hz
        cases hb
        exact lv_icmp_eq (tgt := ((pc : Int) + z).toNat) hx hbb hd (Int.toNat_of_nonneg hz).symm (fun _ => go_same g hR hL) (fun q => absurd hc q)
      · cases hb
    · rw [if_neg hc] at hb
      cases hb
      exact lv_brF_if_icmp_eq hx hbb hd hc (go_same g hR hL)
  · cases hb
theorem bs_ifCond_ne {z : Int} : BS l scr D cI cL skA v9 (.ifCond .ne z) := by
  intro p e R s m args below meth c A H locs cells slots Q k pc len ops ls st AH ad lsC cf cx hd hln hck hb hR hL hc1 hc2 hf1 hl1 g
  obtain ⟨hx, hbb, hml, hown, hts, hWd, hSd, hA, hini, hscr⟩ := cx
  have h9 := hSd.2.2.2.2
  have hlen : len = 3 := by simpa [lenOk] using hln
  subst hlen
  simp only [bstep] at hb
  split at hb
  · rename_i x r
    by_cases hc : ¬ x = 0
    · rw [if_pos hc] at hb
      unfold jto at hb
      split at hb
      · rename_i hz
        cases hb
        exact lv_if_ne (tgt := ((pc : Int) + z).toNat) hx hbb hd (Int.toNat_of_nonneg hz).symm (fun _ => go_same g hR hL) (fun q => absurd q hc)
      · cases hb
    · rw [if_neg hc] at hb
      cases hb
      exact lv_brF_ifCond_ne hx hbb hd hc (go_same g hR hL)
  · cases hb
theorem bs_if_icmp_ne {z : Int} : BS l scr D cI cL skA v9 (.if_icmp .ne z) := by
  intro p e R s m args below meth c A H locs cells slots Q k pc len ops ls st AH ad lsC cf cx hd hln hck hb hR hL hc1 hc2 hf1 hl1 g
  obtain ⟨hx, hbb, hml, hown, hts, hWd, hSd, hA, hini, hscr⟩ := cx
  have h9 := hSd.2.2.2.2
  have hlen : len = 3 := by simpa [lenOk] using hln
  subst hlen
  simp only [bstep] at hb
  split at hb
  · rename_i y x r
    by_cases hc : ¬ x = y
    · rw [if_pos hc] at hb
      unfold jto at hb
      split at hb
      · rename_i hz
        cases hb
        exact lv_icmp_ne (tgt := ((pc : Int) + z).toNat) hx hbb hd (Int.toNat_of_nonneg hz).symm (fun _ => go_same g hR hL) (fun q => absurd q hc)
      · cases hb
    · rw [if_neg hc] at hb
      cases hb
      exact lv_brF_if_icmp_ne hx hbb hd hc (go_same g hR hL)
  · cases hb
theorem bs_ifCond_lt {z : Int} : BS l scr D cI cL skA v9 (.ifCond .lt z) := by
  intro p e R s m args below meth c A H locs cells slots Q k pc len ops ls st AH ad lsC cf cx hd hln hck hb hR hL hc1 hc2 hf1 hl1 g
  obtain ⟨hx, hbb, hml, hown, hts, hWd, hSd, hA, hini, hscr⟩ := cx
  have h9 := hSd.2.2.2.2
  have hlen : len = 3 := by simpa [lenOk] using hln
  subst hlen
  simp only [bstep] at hb
  split at hb
  · rename_i x r
    by_cases hc : x < 0
    · rw [if_pos hc] at hb
      unfold jto at hb
      split at hb
      · rename_i hz
        cases hb
        exact lv_if_lt (tgt := ((pc : Int) + z).toNat) hx hbb hd (Int.toNat_of_nonneg hz).symm (fun _ => go_same g hR hL) (fun q => absurd hc q)
      · cases hb
    · rw [if_neg hc] at hb
      cases hb
      exact lv_brF_ifCond_lt hx hbb hd hc (go_same g hR hL)
  · cases hb
theorem bs_if_icmp_lt {z : Int} : BS l scr D cI cL skA v9 (.if_icmp .lt z) := by
  intro p e R s m args below meth c A H locs cells slots Q k pc len ops ls st AH ad lsC cf cx hd hln hck hb hR hL hc1 hc2 hf1 hl1 g
  obtain ⟨hx, hbb, hml, hown, hts, hWd, hSd, hA, hini, hscr⟩ := cx
  have h9 := hSd.2.2.2.2
  have hlen : len = 3 := by simpa [lenOk] using hln
  subst hlen
  simp only [bstep] at hb
  split at hb
  · rename_i y x r
    by_cases hc : x < y
    · rw [if_pos hc] at hb
      unfold jto at hb
      split at hb
      · rename_i hz
        cases hb
        exact lv_icmp_lt (tgt := ((pc : Int) + z).toNat) hx hbb hd (Int.toNat_of_nonneg hz).symm (fun _ => go_same g hR hL) (fun q => absurd hc q)
      · cases hb
    · rw [if_neg hc] at hb
      cases hb
      exact lv_brF_if_icmp_lt hx hbb hd hc (go_same g hR hL)
  · cases hb
theorem bs_ifCond_ge {z : Int} : BS l scr D cI cL skA v9 (.ifCond .ge z) := by
  intro p e R s m args below meth c A H locs cells slots Q k pc len ops ls st AH ad lsC cf cx hd hln hck hb hR hL hc1 hc2 hf1 hl1 g
  obtain ⟨hx, hbb, hml, hown, hts, hWd, hSd, hA, hini, hscr⟩ := cx
  have h9 := hSd.2.2.2.2
  have hlen : len = 3 := by simpa [lenOk] using hln
  subst hlen
  simp only [bstep] at hb
  split at hb
  · rename_i x r
    by_cases hc : 0 ≤ x
    · rw [if_pos hc] at hb
      unfold jto at hb
      split at hb
      · rename_i hz
        cases hb
        exact lv_if_ge (tgt := ((pc : Int) + z).toNat) hx hbb hd (Int.toNat_of_nonneg hz).symm (fun _ => go_same g hR hL) (fun q => absurd hc q)
      · cases hb
    · rw [if_neg hc] at hb
      cases hb
      exact lv_brF_ifCond_ge hx hbb hd hc (go_same g hR hL)
  · cases hb
theorem bs_if_icmp_ge {z : Int} : BS l scr D cI cL skA v9 (.if_icmp .ge z) := by
  intro p e R s m args below meth c A H locs cells slots Q k pc len ops ls st AH ad lsC cf cx hd hln hck hb hR hL hc1 hc2 hf1 hl1 g
  obtain ⟨hx, hbb, hml, hown, hts, hWd, hSd, hA, hini, hscr⟩ := cx
  have h9 := hSd.2.2.2.2
  have hlen : len = 3 := by simpa [lenOk] using hln
  subst hlen
  simp only [bstep] at hb
  split at hb
  · rename_i y x r
    by_cases hc : y ≤ x
    · rw [if_pos hc] at hb
      unfold jto at hb
      split at hb
      · rename_i hz
        cases hb
        exact lv_icmp_ge (tgt := ((pc : Int) + z).toNat) hx hbb hd (Int.toNat_of_nonneg hz).symm (fun _ => go_same g hR hL) (fun q => absurd hc q)
      · cases hb
    · rw [if_neg hc] at hb
      cases hb
      exact lv_brF_if_icmp_ge hx hbb hd hc (go_same g hR hL)
  · cases hb
theorem bs_ifCond_gt {z : Int} : BS l scr D cI cL skA v9 (.ifCond .gt z) := by
  intro p e R s m args below meth c A H locs cells slots Q k pc len ops ls st AH ad lsC cf cx hd hln hck hb hR hL hc1 hc2 hf1 hl1 g
  obtain ⟨hx, hbb, hml, hown, hts, hWd, hSd, hA, hini, hscr⟩ := cx
  have h9 := hSd.2.2.2.2
  have hlen : len = 3 := by simpa [lenOk] using hln
  subst hlen
  simp only [bstep] at hb
  split at hb
  · rename_i x r
    by_cases hc : 0 < x
    · rw [if_pos hc] at hb
      unfold jto at hb
      split at hb
      · rename_i hz
        cases hb
        exact lv_if_gt (tgt := ((pc : Int) + z).toNat) hx hbb hd (Int.toNat_of_nonneg hz).symm (fun _ => go_same g hR hL) (fun q => absurd hc q)
      · cases hb
    · rw [if_neg hc] at hb
      cases hb
      exact lv_brF_ifCond_gt hx hbb hd hc (go_same g hR hL)
  · cases hb
theorem bs_if_icmp_gt {z : Int} : BS l scr D cI cL skA v9 (.if_icmp .gt z) := by
  intro p e R s m args below meth c A H locs cells slots Q k pc len ops ls st AH ad lsC cf cx hd hln hck hb hR hL hc1 hc2 hf1 hl1 g
  obtain ⟨hx, hbb, hml, hown, hts, hWd, hSd, hA, hini, hscr⟩ := cx
  have h9 := hSd.2.2.2.2
  have hlen : len = 3 := by simpa [lenOk] using hln
  subst hlen
  simp only [bstep] at hb
  split at hb
  · rename_i y x r
    by_cases hc : y < x
    · rw [if_pos hc] at hb
      unfold jto at hb
      split at hb
      · rename_i hz
        cases hb
        exact lv_icmp_gt (tgt := ((pc : Int) + z).toNat) hx hbb hd (Int.toNat_of_nonneg hz).symm (fun _ => go_same g hR hL) (fun q => absurd hc q)
      · cases hb
    · rw [if_neg hc] at hb
      cases hb
      exact lv_brF_if_icmp_gt hx hbb hd hc (go_same g hR hL)
  · cases hb
theorem bs_ifCond_le {z : Int} : BS l scr D cI cL skA v9 (.ifCond .le z) := by
  intro p e R s m args below meth c A H locs cells slots Q k pc len ops ls st AH ad lsC cf cx hd hln hck hb hR hL hc1 hc2 hf1 hl1 g
  obtain ⟨hx, hbb, hml, hown, hts, hWd, hSd, hA, hini, hscr⟩ := cx
  have h9 := hSd.2.2.2.2
  have hlen : len = 3 := by simpa [lenOk] using hln
  subst hlen
  simp only [bstep] at hb
  split at hb
  · rename_i x r
    by_cases hc : x ≤ 0
    · rw [if_pos hc] at hb
      unfold jto at hb
      split at hb
      · rename_i hz
        cases hb
        exact lv_if_le (tgt := ((pc : Int) + z).toNat) hx hbb hd (Int.toNat_of_nonneg hz).symm (fun _ => go_same g hR hL) (fun q => absurd hc q)
      · cases hb
    · rw [if_neg hc] at hb
      cases hb
      exact lv_brF_ifCond_le hx hbb hd hc (go_same g hR hL)
  · cases hb
theorem bs_if_icmp_le {z : Int} : BS l scr D cI cL skA v9 (.if_icmp .le z) := by
  intro p e R s m args below meth c A H locs cells slots Q k pc len ops ls st AH ad lsC cf cx hd hln hck hb hR hL hc1 hc2 hf1 hl1 g
  obtain ⟨hx, hbb, hml, hown, hts, hWd, hSd, hA, hini, hscr⟩ := cx
  have h9 := hSd.2.2.2.2
  have hlen : len = 3 := by simpa [lenOk] using hln
  subst hlen
  simp only [bstep] at hb
  split at hb
  · rename_i y x r
    by_cases hc : x ≤ y
    · rw [if_pos hc] at hb
      unfold jto at hb
      split at hb
      · rename_i hz
        cases hb
        exact lv_icmp_le (tgt := ((pc : Int) + z).toNat) hx hbb hd (Int.toNat_of_nonneg hz).symm (fun _ => go_same g hR hL) (fun q => absurd hc q)
      · cases hb
    · rw [if_neg hc] at hb
      cases hb
      exact lv_brF_if_icmp_le hx hbb hd hc (go_same g hR hL)
  · cases hb
theorem bs_goto {z : Int} : BS l scr D cI cL skA v9 (.goto z) := by
  intro p e R s m args below meth c A H locs cells slots Q k pc len ops ls st AH ad lsC cf cx hd hln hck hb hR hL hc1 hc2 hf1 hl1 g
  obtain ⟨hx, hbb, hml, hown, hts, hWd, hSd, hA, hini, hscr⟩ := cx
  have h9 := hSd.2.2.2.2
  have hlen : len = 3 := by simpa [lenOk] using hln
  subst hlen
  simp only [bstep] at hb
  unfold jto at hb
  split at hb
  · rename_i hz
    cases hb
    exact lv_goto (tgt := ((pc : Int) + z).toNat) hx hbb hd (Int.toNat_of_nonneg hz).symm (go_same g hR hL)
  · cases hb
theorem bs_tableswitch {dd lo hi : Int} {offs : Array Int} : BS l scr D cI cL skA v9 (.tableswitch dd lo hi offs) := by
  intro p e R s m args below meth c A H locs cells slots Q k pc len ops ls st AH ad lsC cf cx hd hln hck hb hR hL hc1 hc2 hf1 hl1 g
  obtain ⟨hx, hbb, hml, hown, hts, hWd, hSd, hA, hini, hscr⟩ := cx
  have h9 := hSd.2.2.2.2
  simp only [bstep] at hb
  split at hb
  · rename_i x r
    by_cases hc : x.toInt < lo ∨ hi < x.toInt
    · rw [if_pos hc] at hb
      unfold jto at hb
      split at hb
      · rename_i hz
        cases hb
        exact lv_tableOut (tgt := ((pc : Int) + dd).toNat) hx hbb hd hc (Int.toNat_of_nonneg hz).symm (go_same g hR hL)
      · cases hb
    · rw [if_neg hc] at hb
      split at hb
      · rename_i z hz0
        unfold jto at hb
        split at hb
        · rename_i hz
          cases hb
          exact lv_tableIn (tgt := ((pc : Int) + z).toNat) hx hbb hd (fun q => hc (Or.inl q)) (fun q => hc (Or.inr q)) hz0 (Int.toNat_of_nonneg hz).symm (go_same g hR hL)
        · cases hb
      · cases hb
  · cases hb
theorem bs_lookupswitch {dd : Int} {ps : Array (Int × Int)} : BS l scr D cI cL skA v9 (.lookupswitch dd ps) := by
  intro p e R s m args below meth c A H locs cells slots Q k pc len ops ls st AH ad lsC cf cx hd hln hck hb hR hL hc1 hc2 hf1 hl1 g
  obtain ⟨hx, hbb, hml, hown, hts, hWd, hSd, hA, hini, hscr⟩ := cx
  have h9 := hSd.2.2.2.2
  simp only [bstep] at hb
  split at hb
  · rename_i x r
    split at hb
    · rename_i hp
      unfold jto at hb
      split at hb
      · rename_i hz
        cases hb
        exact lv_lookup hx hbb hd hp rfl (Int.toNat_of_nonneg hz).symm (go_same g hR hL)
      · cases hb
    · cases hb
  · cases hb
theorem bs_all (i : Instr) : BS l scr D cI cL skA v9 i := by
  cases i
  case iconst => exact bs_iconst
  case bipush => exact bs_bipush
  case sipush => exact bs_sipush
  case lconst => exact bs_lconst
  case ldc => exact bs_ldc
  case ldc_w => exact bs_ldc_w
  case ldc2_w => exact bs_ldc2_w
  case iload_n => exact bs_iload_n
  case iload => exact bs_iload
  case lload_n => exact bs_lload_n
  case lload => exact bs_lload
  case aload_n => exact bs_aload_n
  case istore_n => exact bs_istore_n
  case istore => exact bs_istore
  case lstore_n => exact bs_lstore_n
  case lstore => exact bs_lstore
  case astore_n => exact bs_astore_n
  case iadd => exact bs_iadd
  case isub => exact bs_isub
  case imul => exact bs_imul
  case iand => exact bs_iand
  case ior => exact bs_ior
  case ixor => exact bs_ixor
  case ishl => exact bs_ishl
  case ishr => exact bs_ishr
  case ladd => exact bs_ladd
  case lmul => exact bs_lmul
  case lcmp => exact bs_lcmp
  case iushr => exact bs_iushr
  case idiv => exact bs_idiv
  case irem => exact bs_irem
  case ldiv => exact bs_ldiv
  case lrem => exact bs_lrem
  case ineg => exact bs_ineg
  case i2l => exact bs_i2l
  case i2c => exact bs_i2c
  case dup => exact bs_dup
  case pop => exact bs_pop
  case dup2 => exact bs_dup2
  case getfield => exact bs_getfield
  case putfield => exact bs_putfield
  case getstatic => exact bs_getstatic
  case iaload => exact bs_iaload
  case laload => exact bs_laload
  case baload => exact bs_baload
  case iastore => exact bs_iastore
  case arraylength => exact bs_arraylength
  case newarray => exact bs_newarray
  case new => exact bs_new
  case invokespecial => exact bs_invokespecial
  case goto => exact bs_goto
  case iinc => exact bs_iinc
  case tableswitch => exact bs_tableswitch
  case lookupswitch => exact bs_lookupswitch
  case ifCond cc z =>
    cases cc
    case eq => exact bs_ifCond_eq
    case ne => exact bs_ifCond_ne
    case lt => exact bs_ifCond_lt
    case ge => exact bs_ifCond_ge
    case gt => exact bs_ifCond_gt
    case le => exact bs_ifCond_le
  case if_icmp cc z =>
    cases cc
    case eq => exact bs_if_icmp_eq
    case ne => exact bs_if_icmp_ne
    case lt => exact bs_if_icmp_lt
    case ge => exact bs_if_icmp_ge
    case gt => exact bs_if_icmp_gt
    case le => exact bs_if_icmp_le
  all_goals (intro p e R s m args below meth c A H locs cells slots Q k pc len ops ls st AH ad lsC cf cx hd hln hck hb; simp [bstep] at hb)
end BSS2
