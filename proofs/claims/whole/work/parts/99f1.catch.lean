/-! ===== a throw that the first row of this method's own table takes; the row's class entry may be resolved already or not (own proof, over the short library alone) ===== -/
section YCATCH
variable {p : Program} {l : Launch} {e : Env} {R : Room} {s : State} {m : MethodId} {args : Array Value} {below : List Frame} {meth : Method} {c : Code} {H : Heap} {locs : List Loc} {cells slots : Nat} {Q : State → Prop}
/-- frames laid over frames, the tables changed between -/
theorem yc_frames (T : State) (vm' : Vm) (A B : List Frame) : ((T.setFrames A).setVm vm').setFrames B = (T.setVm vm').setFrames B := by
  show ((T.setVm vm').setFrames A).setFrames B = _
  rw [State.setFrames_setFrames]
/-- the step from the note of a throw into the handler, where the search ends there and leaves the tables vm' -/
theorem yc_step {S : State} {g : JFrame} {q : Addr} {r : List Frame} {pc : Nat} {vm' : Vm}
    (hfind : ∀ (Q : Handler → Pre) (E : CtlPost) (d : Bool) (acts : List Action), wp (findHandler g q) Q E e d acts S ↔ Q (.found pc) d acts (S.setVm vm')) :
    (stepThrowing e S q (.java g :: r)).1 = (S.setVm vm').setFrames (.java { g with pc := pc, stack := [.ref q] } :: r) := by
  simp only [stepThrowing, searchFrame, vmDo]
  generalize hr : Sem.go _ e false [] S = res
  obtain ⟨as, rfl, -⟩ := Sem.eq_ok_of hr (a := Handler.found pc) (s' := S.setVm vm') (acts' := []) (by simp [hfind _ _ _ _])
  rfl
theorem yc_catch {pc : Nat} {ls : Array Jvm.Slot} {rest : List Value} {own name E : String} {ce : Cell} {q : Addr} (hown : s.vm.findClass own = some m.cls) (x : ExceptionTableEntry) (suf : List ExceptionTableEntry) (htab : c.exceptionTable.toList = x :: suf)
    (hx : covers x pc = true) (h0 : x.catchType ≠ 0) (hlink : (Cond.classLink own x.catchType name).before args s = true) (hcast : (Cond.castable E name).before args s = true) (hcell : H[q]? = some ce) (hv : ce.vm = .none) (hcl : s.vm.findClass E = some ce.cls)
    (kk : W p l e R s m args below meth c H locs cells slots Q (F0 m x.handlerPc ls [.ref q])) : vx_W p l e R s m args below meth c H locs cells slots Q (F0 m pc ls rest) q := by
  intro T hT X
  have hpl : e.platform.magicAccessors = ({} : Platform).magicAccessors := by rw [X.admits.platform]
  obtain ⟨c3, cT, hc3, hcT, hasg⟩ := Cond.castable_spec hcast
  cases Option.some.inj (hc3.symm.trans hcl)
  obtain ⟨c5, hc5, hl⟩ := Cond.classLink_spec hown hlink e.platform hpl
  cases Option.some.inj (hcT.symm.trans hc5)
  obtain ⟨dk, _, _, kt, hd, _, _, _, _, hkt, _, hopen⟩ := hl.here
  have hlT : T.vm.ClassLinks e.platform m.cls x.catchType cT := X.warmed.classLinks hl
  have hW' : s.WarmedH (T.vm.noted m.cls x.catchType (.cls cT)) := X.warmed.noted hd hopen (State.rightAt_cls hl)
  obtain ⟨kE, hkE, -⟩ := Vm.findClass_spec hcl
  obtain ⟨k1, hk1, -⟩ := hW'.alike.2.2 _ _ hkE
  obtain ⟨k2, hk2, -⟩ := hW'.alike.2.2 _ _ hkt
  have hfit : (T.vm.noted m.cls x.catchType (.cls cT)).assignable ce.cls cT = true := by rw [hW'.alike.assignable]; exact hasg
  have hobj : ∀ k, ce.vm ≠ .statics k := fun k hk => by rw [hv] at hk; cases hk
  have hq : T.heap[q]? = some ce := by rw [hT]; exact hcell
  obtain ⟨ha, ht⟩ := (resolveClass_links e.toSetting hlT).op (op := VmOp.resolveClass m.cls x.catchType) rfl
  obtain ⟨t, a1, b1⟩ := kk (T.setVm (T.vm.noted m.cls x.catchType (.cls cT))) hT (X.noted hW')
  refine ⟨t, ?_, b1⟩
  obtain ⟨g0, hfr⟩ := X.frames_eq
  have hAt : At T (F0 m pc ls rest).method c below := X.here
  obtain ⟨hgo, hin⟩ := hAt.throwing q
  refine Steps.head hgo hin ?_
  have hfind : ∀ (Q : Handler → Pre) (E : CtlPost) (d : Bool) (acts : List Action), wp (findHandler (F0 m pc ls rest) q) Q E e d acts ((T.setTop (F0 m pc ls rest)).pushFrame (.throwing q)) ↔ Q (.found x.handlerPc) d acts (((T.setTop (F0 m pc ls rest)).pushFrame (.throwing q)).setVm (T.vm.noted m.cls x.catchType (.cls cT))) := by
    intro Q E d acts
    rw [Jvm.W.findHandler_eq (meth := meth) (code := c) X.method' X.code, htab]
    have hx' : (decide (x.startPc ≤ (F0 m pc ls rest).pc) && decide ((F0 m pc ls rest).pc < x.endPc)) = true := hx
    have hm : (F0 m pc ls rest).method = m := rfl
    have hvm : ((T.setTop (F0 m pc ls rest)).pushFrame (.throwing q)).vm = T.vm := rfl
    have hhp : ((T.setTop (F0 m pc ls rest)).pushFrame (.throwing q)).heap = T.heap := rfl
    simp [findHandler.go, hx', h0, hm, hvm, hhp, ha, ht, hq, hobj, hk1, hk2, hfit, VmOp.dirties, VmOp.acts]
  rw [stepThread_throwing (frames_entered hAt.top _), yc_step hfind, hfr, List.tail_cons]
  have e1 : (((T.setTop (F0 m pc ls rest)).pushFrame (.throwing q)).setVm (T.vm.noted m.cls x.catchType (.cls cT))).setFrames (.java { F0 m pc ls rest with pc := x.handlerPc, stack := [.ref q] } :: below) = (T.setVm (T.vm.noted m.cls x.catchType (.cls cT))).setTop (F0 m x.handlerPc ls [.ref q]) := by
    rw [State.setTop_of_frames (s := T.setVm (T.vm.noted m.cls x.catchType (.cls cT))) (F0 m x.handlerPc ls [.ref q]) hfr, State.pushFrame, State.setTop_of_frames _ hfr, State.setFrames_setFrames, yc_frames]
  rw [e1]
  exact a1
end YCATCH
