/-! ===== a throw that a row of the method's own table takes ===== -/
section CX
variable {e : Env} {f : JFrame} {a : Addr}
/-- the search at a row that covers the place: its class is looked up, and noted; then it takes the object, or the search goes on -/
theorem cx_row {Q : Handler → Pre} {G : CtlPost} {d : Bool} {acts : List Action} {s : State} {x : ExceptionTableEntry} {t : List ExceptionTableEntry} {c : ClassId} {cell : Cell} (hx : covers x f.pc = true) (h0 : x.catchType ≠ 0) (hl : s.vm.ClassLinks e.platform f.method.cls x.catchType c) (hcell : s.heap[a]? = some cell) (hobj : ∀ k, cell.vm ≠ .statics k) (hk : ∃ k, s.vm.classes[cell.cls]? = some k) (hc : ∃ k, s.vm.classes[c]? = some k) :
    wp (findHandler.go f a (x :: t)) Q G e d acts s ↔ (if s.vm.assignable cell.cls c = true then Q (.found x.handlerPc) d acts (s.setVm (s.vm.noted f.method.cls x.catchType (.cls c))) else wp (findHandler.go f a t) Q G e d acts (s.setVm (s.vm.noted f.method.cls x.catchType (.cls c)))) := by
  have hal : s.vm.Alike (s.vm.noted f.method.cls x.catchType (.cls c)) := (Vm.Alike.refl s.vm).noted _ _ _
  obtain ⟨g1, g2⟩ := (resolveClass_links e.toSetting hl).op (op := VmOp.resolveClass f.method.cls x.catchType) rfl
  obtain ⟨k1, e1⟩ := hk
  obtain ⟨k2, e2⟩ := hc
  obtain ⟨j1, i1, -⟩ := hal.2.2 _ _ e1
  obtain ⟨j2, i2, -⟩ := hal.2.2 _ _ e2
  simp only [covers] at hx
  cases hq : s.vm.assignable cell.cls c with
  | true =>
    have hq2 : (s.vm.noted f.method.cls x.catchType (.cls c)).assignable cell.cls c = true := by rw [hal.assignable]; exact hq
    simp [findHandler.go, hx, h0, g1, g2, hcell, hobj, i1, i2, hq2, VmOp.dirties, VmOp.acts]
  | false =>
    have hq2 : (s.vm.noted f.method.cls x.catchType (.cls c)).assignable cell.cls c = false := by rw [hal.assignable]; exact hq
    simp [findHandler.go, hx, h0, g1, g2, hcell, hobj, i1, i2, hq2, VmOp.dirties, VmOp.acts]
def cxF (e : Env) (f : JFrame) (a : Addr) (S : State) (pc : Nat) (vm' : Vm) : Prop := ∀ (Q : Handler → Pre) (G : CtlPost) (d : Bool) (acts : List Action), wp (findHandler f a) Q G e d acts S ↔ Q (.found pc) d acts (S.setVm vm')
theorem cx_step {tb : Tables} {s t : State} {g : JFrame} {c : Code} {below : List Frame} {pc : Nat} {vm' : Vm} (h : At s g.method c below) (hf : cxF e g a ((s.setTop g).pushFrame (.throwing a)) pc vm') (k : Steps tb e below ((s.setVm vm').setTop { g with pc := pc, stack := [.ref a] }) t) : Steps tb e below ((s.setTop g).pushFrame (.throwing a)) t := by
  obtain ⟨h1, h2⟩ := h.throwing a
  obtain ⟨g0, e0⟩ := Option.isSome_iff_exists.mp h.top
  obtain ⟨r, er⟩ := State.topJava?_eq_some.mp e0
  have hst : (stepThrowing e ((s.setTop g).pushFrame (.throwing a)) a (.java g :: s.frames.tail)).Is ((((s.setTop g).pushFrame (.throwing a)).setVm vm').setFrames (.java { g with pc := pc, stack := [.ref a] } :: s.frames.tail)) [] := by
    simp only [stepThrowing, searchFrame, vmDo]
    generalize hr : Sem.go _ e false [] ((s.setTop g).pushFrame (.throwing a)) = res
    obtain ⟨as, rfl, ha⟩ := Sem.eq_ok_of hr (a := Handler.found pc) (s' := ((s.setTop g).pushFrame (.throwing a)).setVm vm') (acts' := []) (by simp [hf _ _ _ _])
    exact ⟨rfl, ha⟩
  have hk : (s.setVm vm').frames = .java g0 :: r := er
  rw [State.setTop_of_frames _ hk] at k
  have e9 : ∀ (u : State) (F G : List Frame), ((u.setFrames F).setVm vm').setFrames G = (u.setVm vm').setFrames G := fun u F G => by
    show ((u.setVm vm').setFrames F).setFrames G = _
    rw [State.setFrames_setFrames]
  refine Steps.head h1 h2 ?_
  rw [stepThread_throwing (frames_entered h.top _), hst.1, er, List.tail_cons, State.pushFrame, State.setTop_of_frames _ er, e9, e9]
  exact k
end CX
section CY
variable {p : Program} {l : Launch} {e : Env} {R : Room} {s : State} {m : MethodId} {args : Array Value} {below : List Frame} {meth : Method} {c : Code} {H : Heap} {locs : List Loc} {cells slots : Nat} {Q : State → Prop} {pc : Nat} {ls : Array Slot} {rest : List Value}
/-- the first row takes it -/
theorem cx_catch1 {own name E : String} {ce : Cell} {q : Addr} {x : ExceptionTableEntry} {suf : List ExceptionTableEntry} (hown : s.vm.findClass own = some m.cls) (htab : c.exceptionTable.toList = x :: suf) (hx : covers x pc = true) (h0 : x.catchType ≠ 0)
    (hlink : (Cond.classLink own x.catchType name).before args s = true) (hcast : (Cond.castable E name).before args s = true) (hcell : H[q]? = some ce) (hv : ce.vm = .none) (hcl : s.vm.findClass E = some ce.cls)
    (kk : W p l e R s m args below meth c H locs cells slots Q (F0 m x.handlerPc ls [.ref q])) : vx_W p l e R s m args below meth c H locs cells slots Q (F0 m pc ls rest) q := by
  intro T hT X
  have hpl : e.platform.magicAccessors = ({} : Platform).magicAccessors := by rw [X.admits.platform]
  obtain ⟨c3, c4, hc3, hc4, hasg⟩ := Cond.castable_spec hcast
  cases Option.some.inj (hc3.symm.trans hcl)
  obtain ⟨c5, hc5, hl⟩ := Cond.classLink_spec hown hlink e.platform hpl
  cases Option.some.inj (hc4.symm.trans hc5)
  obtain ⟨dk, _, _, kt, hd, _, _, _, _, hkt, _, hopen⟩ := hl.here
  obtain ⟨kt2, hkt2, -⟩ := X.warmed.alike.2.2 _ _ hkt
  obtain ⟨k9, h9, -⟩ := Vm.findClass_spec hcl
  obtain ⟨k8, h8, -⟩ := X.warmed.alike.2.2 _ _ h9
  have hf : cxF e (F0 m pc ls rest) q ((T.setTop (F0 m pc ls rest)).pushFrame (.throwing q)) x.handlerPc (T.vm.noted m.cls x.catchType (.cls c4)) := by
    intro Q2 G d acts
    rw [W.findHandler_eq (meth := meth) (code := c) X.method' X.code, htab, cx_row (e := e) (f := F0 m pc ls rest) (a := q) (s := (T.setTop (F0 m pc ls rest)).pushFrame (.throwing q)) (c := c4) (cell := ce) hx h0 (X.warmed.classLinks hl) (by rw [← hT] at hcell; exact hcell) (VmData.ne_statics_of (by rw [hv]; rfl)) ⟨k8, h8⟩ ⟨kt2, hkt2⟩, if_pos (by rw [show ((T.setTop (F0 m pc ls rest)).pushFrame (.throwing q)).vm = T.vm from rfl, X.warmed.alike.assignable]; exact hasg)]
    exact Iff.rfl
  obtain ⟨t, a1, b1⟩ := kk (T.setVm (T.vm.noted m.cls x.catchType (.cls c4))) hT (X.noted (X.warmed.noted hd hopen (State.rightAt_cls hl)))
  exact ⟨t, cx_step X.here hf a1, b1⟩
/-- the first row doesn't take it, the second one does -/
theorem cx_catch2 {own name name1 E : String} {ce : Cell} {q : Addr} {x y : ExceptionTableEntry} {suf : List ExceptionTableEntry} (hown : s.vm.findClass own = some m.cls) (htab : c.exceptionTable.toList = y :: x :: suf) (hy : covers y pc = true) (hy0 : y.catchType ≠ 0) (hx : covers x pc = true) (h0 : x.catchType ≠ 0)
    (hlink1 : (Cond.classLink own y.catchType name1).before args s = true) (hno : va_Nc E name1 s)
    (hlink : (Cond.classLink own x.catchType name).before args s = true) (hcast : (Cond.castable E name).before args s = true) (hcell : H[q]? = some ce) (hv : ce.vm = .none) (hcl : s.vm.findClass E = some ce.cls)
    (kk : W p l e R s m args below meth c H locs cells slots Q (F0 m x.handlerPc ls [.ref q])) : vx_W p l e R s m args below meth c H locs cells slots Q (F0 m pc ls rest) q := by
  intro T hT X
  have hpl : e.platform.magicAccessors = ({} : Platform).magicAccessors := by rw [X.admits.platform]
  obtain ⟨c3, c4, hc3, hc4, hasg⟩ := Cond.castable_spec hcast
  cases Option.some.inj (hc3.symm.trans hcl)
  obtain ⟨c5, hc5, hl⟩ := Cond.classLink_spec hown hlink e.platform hpl
  cases Option.some.inj (hc4.symm.trans hc5)
  obtain ⟨c6, hc6, hl6⟩ := Cond.classLink_spec hown hlink1 e.platform hpl
  obtain ⟨a8, B8, n1, n2, n3⟩ := hno
  cases Option.some.inj (n1.symm.trans hcl)
  cases Option.some.inj (n2.symm.trans hc6)
  obtain ⟨dk, _, _, kt, hd, _, _, _, _, hkt, _, hopen⟩ := hl.here
  obtain ⟨dk6, _, _, kt6, hd6, _, _, _, _, hkt6, _, hopen6⟩ := hl6.here
  obtain ⟨kt2, hkt2, -⟩ := X.warmed.alike.2.2 _ _ hkt6
  obtain ⟨k9, h9, -⟩ := Vm.findClass_spec hcl
  obtain ⟨k8, h8, -⟩ := X.warmed.alike.2.2 _ _ h9
  have hW1 : s.WarmedH (T.vm.noted m.cls y.catchType (.cls c6)) := X.warmed.noted hd6 hopen6 (State.rightAt_cls hl6)
  obtain ⟨kt3, hkt3, -⟩ := hW1.alike.2.2 _ _ hkt
  obtain ⟨k7, h7, -⟩ := hW1.alike.2.2 _ _ h9
  have hf : cxF e (F0 m pc ls rest) q ((T.setTop (F0 m pc ls rest)).pushFrame (.throwing q)) x.handlerPc ((T.vm.noted m.cls y.catchType (.cls c6)).noted m.cls x.catchType (.cls c4)) := by
    intro Q2 G d acts
    rw [W.findHandler_eq (meth := meth) (code := c) X.method' X.code, htab, cx_row (e := e) (f := F0 m pc ls rest) (a := q) (s := (T.setTop (F0 m pc ls rest)).pushFrame (.throwing q)) (c := c6) (cell := ce) hy hy0 (X.warmed.classLinks hl6) (by rw [← hT] at hcell; exact hcell) (VmData.ne_statics_of (by rw [hv]; rfl)) ⟨k8, h8⟩ ⟨kt2, hkt2⟩, if_neg (by rw [show ((T.setTop (F0 m pc ls rest)).pushFrame (.throwing q)).vm.assignable ce.cls c6 = false from by rw [show ((T.setTop (F0 m pc ls rest)).pushFrame (.throwing q)).vm = T.vm from rfl, X.warmed.alike.assignable]; exact n3]; decide)]
    refine Iff.trans (cx_row (e := e) (f := F0 m pc ls rest) (a := q) (s := ((T.setTop (F0 m pc ls rest)).pushFrame (.throwing q)).setVm (T.vm.noted m.cls y.catchType (.cls c6))) (c := c4) (cell := ce) hx h0 (State.WarmedH.classLinks (s := s) hW1 hl) (by rw [← hT] at hcell; exact hcell) (VmData.ne_statics_of (by rw [hv]; rfl)) ⟨k7, h7⟩ ⟨kt3, hkt3⟩) ?_
    rw [if_pos (by rw [show (((T.setTop (F0 m pc ls rest)).pushFrame (.throwing q)).setVm (T.vm.noted m.cls y.catchType (.cls c6))).vm = T.vm.noted m.cls y.catchType (.cls c6) from rfl, hW1.alike.assignable]; exact hasg)]
    exact Iff.rfl
  obtain ⟨t, a1, b1⟩ := kk (T.setVm ((T.vm.noted m.cls y.catchType (.cls c6)).noted m.cls x.catchType (.cls c4))) hT (X.noted (hW1.noted hd hopen (State.rightAt_cls hl)))
  exact ⟨t, cx_step X.here hf a1, b1⟩
end CY
