/-! a callee's exception, caught by a row of this method's table: the search through the table, by the words -/
def yFinds (e : Env) (s : State) (f : JFrame) (a : Addr) (h : Handler) (vm' : Vm) : Prop :=
  ∀ (Q : Handler → Pre) (E : CtlPost) (d : Bool) (acts : List Action), wp (findHandler f a) Q E e d acts s ↔ Q h d acts (s.setVm vm')
theorem y_goYes {Q : Handler → Pre} {E : CtlPost} {e : Env} {d : Bool} {acts : List Action} {s : State} {f : JFrame} {a : Addr} {x : ExceptionTableEntry} {t : List ExceptionTableEntry} {c : ClassId} {cell : Cell} (hx : covers x f.pc = true) (h0 : x.catchType ≠ 0)
    (hl : s.vm.ClassLinks e.platform f.method.cls x.catchType c) (hcell : s.heap[a]? = some cell) (hobj : ∀ k, cell.vm ≠ .statics k)
    (hk : ∃ k, s.vm.classes[cell.cls]? = some k) (hc : ∃ k, s.vm.classes[c]? = some k) (hfit : s.vm.assignable cell.cls c = true) :
    wp (findHandler.go f a (x :: t)) Q E e d acts s ↔ Q (.found x.handlerPc) d acts (s.setVm (s.vm.noted f.method.cls x.catchType (.cls c))) := by
  simp only [covers] at hx
  obtain ⟨ha, ht⟩ := (resolveClass_links e.toSetting hl).op (op := VmOp.resolveClass f.method.cls x.catchType) rfl
  have hal : s.vm.Alike (s.vm.noted f.method.cls x.catchType (.cls c)) := (Vm.Alike.refl s.vm).noted _ _ _
  obtain ⟨k1, hk1⟩ := hk
  obtain ⟨k2, hk2⟩ := hc
  obtain ⟨k1', hk1', -⟩ := hal.2.2 _ _ hk1
  obtain ⟨k2', hk2', -⟩ := hal.2.2 _ _ hk2
  have hfit' : (s.vm.noted f.method.cls x.catchType (.cls c)).assignable cell.cls c = true := by rw [hal.assignable]; exact hfit
  simp [findHandler.go, hx, h0, ha, ht, hcell, hobj, hk1', hk2', hfit', VmOp.dirties, VmOp.acts]
theorem y_goNo {Q : Handler → Pre} {E : CtlPost} {e : Env} {d : Bool} {acts : List Action} {s : State} {f : JFrame} {a : Addr} {x : ExceptionTableEntry} {t : List ExceptionTableEntry} {c : ClassId} {cell : Cell} (hx : covers x f.pc = true) (h0 : x.catchType ≠ 0)
    (hl : s.vm.ClassLinks e.platform f.method.cls x.catchType c) (hcell : s.heap[a]? = some cell) (hobj : ∀ k, cell.vm ≠ .statics k)
    (hk : ∃ k, s.vm.classes[cell.cls]? = some k) (hc : ∃ k, s.vm.classes[c]? = some k) (hno : s.vm.assignable cell.cls c = false) :
    wp (findHandler.go f a (x :: t)) Q E e d acts s ↔ wp (findHandler.go f a t) Q E e d acts (s.setVm (s.vm.noted f.method.cls x.catchType (.cls c))) := by
  simp only [covers] at hx
  obtain ⟨ha, ht⟩ := (resolveClass_links e.toSetting hl).op (op := VmOp.resolveClass f.method.cls x.catchType) rfl
  have hal : s.vm.Alike (s.vm.noted f.method.cls x.catchType (.cls c)) := (Vm.Alike.refl s.vm).noted _ _ _
  obtain ⟨k1, hk1⟩ := hk
  obtain ⟨k2, hk2⟩ := hc
  obtain ⟨k1', hk1', -⟩ := hal.2.2 _ _ hk1
  obtain ⟨k2', hk2', -⟩ := hal.2.2 _ _ hk2
  have hno' : (s.vm.noted f.method.cls x.catchType (.cls c)).assignable cell.cls c = false := by rw [hal.assignable]; exact hno
  simp [findHandler.go, hx, h0, ha, ht, hcell, hobj, hk1', hk2', hno', VmOp.dirties, VmOp.acts]
theorem y_stepTo {e : Env} {s : State} {a : Addr} {f : JFrame} {r : List Frame} {pc : Nat} {vm' : Vm} (hfind : yFinds e s f a (.found pc) vm') :
    (stepThrowing e s a (.java f :: r)).Is ((s.setVm vm').setFrames (.java { f with pc := pc, stack := [.ref a] } :: r)) [] := by
  simp only [stepThrowing, searchFrame, vmDo]
  generalize hr : Sem.go _ e false [] s = res
  obtain ⟨as, rfl, ha⟩ := Sem.eq_ok_of hr (a := Handler.found pc) (s' := s.setVm vm') (acts' := []) (by simp [hfind _ _ _ _])
  exact ⟨rfl, ha⟩
theorem y_setFrames (u : State) (vm' : Vm) (F G : List Frame) : ((u.setFrames F).setVm vm').setFrames G = (u.setVm vm').setFrames G := by
  have h1 : (u.setFrames F).setVm vm' = (u.setVm vm').setFrames F := rfl
  rw [h1, State.setFrames_setFrames]
theorem y_caughtTo {tb : Tables} {e : Env} {s target : State} {g : JFrame} {c : Code} {below : List Frame} {a : Addr} (h : At s g.method c below) {pc : Nat} {vm' : Vm}
    (hfind : yFinds e ((s.setTop g).pushFrame (.throwing a)) g a (.found pc) vm') (hrest : Steps tb e below ((s.setVm vm').setTop { g with pc := pc, stack := [.ref a] }) target) :
    Steps tb e below ((s.setTop g).pushFrame (.throwing a)) target := by
  obtain ⟨hgo, hw⟩ := h.throwing a
  refine Steps.head hgo hw ?_
  rw [stepThread_throwing (frames_entered h.top _), (y_stepTo (s := (s.setTop g).pushFrame (.throwing a)) hfind).1]
  obtain ⟨g₀, hg⟩ := Option.isSome_iff_exists.mp h.top
  obtain ⟨r, hr⟩ := State.topJava?_eq_some.mp hg
  have hr' : (s.setVm vm').frames = .java g₀ :: r := hr
  rw [State.setTop_of_frames _ hr'] at hrest
  rw [hr, List.tail_cons, State.pushFrame, y_setFrames, State.setTop_of_frames _ hr, y_setFrames]
  exact hrest
/-- a table of one row that catches, or of two where the second does -/
def yRow (own : String) (E : String) (args : Array Value) (s : State) (pc : Nat) (tab : List ExceptionTableEntry) (hpc : Nat) : Prop :=
  (∃ (x : ExceptionTableEntry) (suf : List ExceptionTableEntry) (nm : String), tab = x :: suf ∧ covers x pc = true ∧ x.catchType ≠ 0 ∧ (Cond.classLink own x.catchType nm).before args s = true ∧ va_Nw (.castable E nm) s ∧ x.handlerPc = hpc) ∨
  (∃ (x1 x : ExceptionTableEntry) (suf : List ExceptionTableEntry) (n1 nm : String), tab = x1 :: x :: suf ∧ covers x1 pc = true ∧ x1.catchType ≠ 0 ∧ (Cond.classLink own x1.catchType n1).before args s = true ∧ va_Nc E n1 s ∧ covers x pc = true ∧ x.catchType ≠ 0 ∧ (Cond.classLink own x.catchType nm).before args s = true ∧ va_Nw (.castable E nm) s ∧ x.handlerPc = hpc)
section YC
variable {p : Program} {l : Launch} {e : Env} {R : Room} {s : State} {m : MethodId} {args : Array Value} {below : List Frame} {meth : Method} {c : Code} {locs : List Loc} {cells slots : Nat} {T : State}
theorem y_caught (X : Stand p l e R s m args below meth c T locs cells slots) {own E : String} {ce : Cell} {q : Addr} {pc hpc : Nat} {ls : Array Slot} {rest : List Value} (hown : s.vm.findClass own = some m.cls) (hcell : T.heap[q]? = some ce) (hv : ce.vm = .none) (hcl : s.vm.findClass E = some ce.cls) (hrow : yRow own E args s pc c.exceptionTable.toList hpc) :
    ∃ vm', Stand p l e R s m args below meth c (T.setVm vm') locs cells slots ∧ ∀ target, Steps p.tables e below ((T.setVm vm').setTop (F0 m hpc ls [.ref q])) target → Steps p.tables e below ((T.setTop (F0 m pc ls rest)).pushFrame (.throwing q)) target := by
  have hpl : e.platform.magicAccessors = ({} : Platform).magicAccessors := by rw [X.admits.platform]
  obtain ⟨k0, hk0, -⟩ := Vm.findClass_spec hcl
  have hobj : ∀ k, ce.vm ≠ .statics k := fun k h => by rw [hv] at h; cases h
  have hW := X.warmed
  obtain ⟨k0', hk0', -⟩ := hW.alike.2.2 _ _ hk0
  rcases hrow with ⟨x, suf, nm, htab, hcov, h0, hlink, hcast, hpcx⟩ | ⟨x1, x, suf, n1, nm, htab, hcov1, h01, hlink1, hnc, hcov, h0, hlink, hcast, hpcx⟩
  · obtain ⟨c3, c4, hc3, hc4, hasg⟩ := Cond.castable_spec (args := args) (va_Nw.use rfl hcast)
    cases Option.some.inj (hc3.symm.trans hcl)
    obtain ⟨c5, hc5, hcl5⟩ := Cond.classLink_spec hown hlink e.platform hpl
    cases Option.some.inj (hc4.symm.trans hc5)
    obtain ⟨dk, _, _, kt, hd, _, _, _, _, hkt, _, hopen⟩ := hcl5.here
    obtain ⟨kt', hkt', -⟩ := hW.alike.2.2 _ _ hkt
    refine ⟨_, X.noted (hW.noted hd hopen (State.rightAt_cls hcl5)), fun target hrest => ?_⟩
    refine y_caughtTo (g := F0 m pc ls rest) X.here (pc := hpc) (fun Q E d acts => ?_) hrest
    rw [W.findHandler_eq (meth := meth) (code := c) X.method' X.code, htab, ← hpcx]
    exact y_goYes (s := (T.setTop (F0 m pc ls rest)).pushFrame (.throwing q)) hcov h0 (hW.classLinks hcl5) hcell hobj ⟨k0', hk0'⟩ ⟨kt', hkt'⟩ (by show T.vm.assignable _ _ = true; rw [hW.alike.assignable]; exact hasg)
  · obtain ⟨c3, c4, hc3, hc4, hasg⟩ := Cond.castable_spec (args := args) (va_Nw.use rfl hcast)
    cases Option.some.inj (hc3.symm.trans hcl)
    obtain ⟨c5, hc5, hcl5⟩ := Cond.classLink_spec hown hlink e.platform hpl
    cases Option.some.inj (hc4.symm.trans hc5)
    obtain ⟨dk, _, _, kt, hd, _, _, _, _, hkt, _, hopen⟩ := hcl5.here
    obtain ⟨c6, hc6, hcl6⟩ := Cond.classLink_spec hown hlink1 e.platform hpl
    obtain ⟨a8, b8, g1, g2, g3⟩ := hnc
    cases Option.some.inj (g1.symm.trans hcl)
    obtain rfl : c6 = b8 := Option.some.inj (hc6.symm.trans g2)
    obtain ⟨dk1, _, _, kt1, hd1, _, _, _, _, hkt1, _, hopen1⟩ := hcl6.here
    obtain ⟨kt1', hkt1', -⟩ := hW.alike.2.2 _ _ hkt1
    have hW1 : s.WarmedH (T.vm.noted m.cls x1.catchType (.cls c6)) := hW.noted hd1 hopen1 (State.rightAt_cls hcl6)
    obtain ⟨k0'', hk0'', -⟩ := hW1.alike.2.2 _ _ hk0
    obtain ⟨kt', hkt', -⟩ := hW1.alike.2.2 _ _ hkt
    refine ⟨_, X.noted (hW1.noted hd hopen (State.rightAt_cls hcl5)), fun target hrest => ?_⟩
    refine y_caughtTo (g := F0 m pc ls rest) X.here (pc := hpc) (fun Q E d acts => ?_) hrest
    rw [W.findHandler_eq (meth := meth) (code := c) X.method' X.code, htab, ← hpcx]
    rw [y_goNo (s := (T.setTop (F0 m pc ls rest)).pushFrame (.throwing q)) (c := c6) hcov1 h01 (hW.classLinks hcl6) hcell hobj ⟨k0', hk0'⟩ ⟨kt1', hkt1'⟩ (by show T.vm.assignable _ _ = false; rw [hW.alike.assignable]; exact g3)]
    exact y_goYes (s := ((T.setTop (F0 m pc ls rest)).pushFrame (.throwing q)).setVm (T.vm.noted m.cls x1.catchType (.cls c6))) hcov h0 (hW1.classLinks hcl5) hcell hobj ⟨k0'', hk0''⟩ ⟨kt', hkt'⟩ (by show (T.vm.noted m.cls x1.catchType (.cls c6)).assignable _ _ = true; rw [hW1.alike.assignable]; exact hasg)
end YC
