/-! calls: every method's words are its code and the claim's own list wsL_law -/
set_option maxRecDepth 100000 in
theorem wsL_good : ∀ w ∈ wsL_law, goodWord w = true := List.all_eq_true.mp (by decide +kernel)
abbrev wq (k : Cond) : List Cond := k :: wsL_law
theorem wq_ride {args : Array Value} {s : State} (hts : ∀ w ∈ wsL_law, w.before args s = true) {k : Cond} (hk : k ∈ wsL_law) : ∀ w ∈ wq k, ∀ (a' : Array Value) (U : State), s.WarmedH U.vm → w.before a' U = true := by
  intro w hw a' U hW
  have hm : w ∈ wsL_law := by
    rcases List.mem_cons.mp hw with rfl | h
    · exact hk
    · exact h
  exact word_at hW (good_of_word (wsL_good w hm)) (hts w hm)
theorem ini_ride {args : Array Value} {s : State} {C : String} (h : (Cond.initialized C).before args s = true) : ∀ (a' : Array Value) (U : State), s.WarmedH U.vm → (Cond.initialized C).before a' U = true := fun a' U hW => word_at hW (Or.inl (by first | rfl | simp [Cond.onTables, Cond.keeps, Cond.steady])) h
/-- a static callee, an instance callee, a constructor: what the words say of a call site -/
def SF (own : String) (index : Nat) (y : MethodName) (bytes : ByteArray) (maxL : Nat) (ret : Option FieldType) (n : Nat) : Prop :=
  Cond.code y bytes maxL ret ∈ wsL_law ∧ Cond.initialized y.cls ∈ wsL_law ∧ Cond.methodLink own index y ∈ wsL_law ∧ Cond.static y ∈ wsL_law ∧ (y.cls ≠ "java/lang/invoke/MethodHandle" ∧ y.cls ≠ "java/lang/invoke/VarHandle") ∧ (parseMethodDescriptor y.desc).map (fun d => d.parameters.length) = some n
def VF (own : String) (index : Nat) (y : MethodName) (bytes : ByteArray) (maxL : Nat) (ret : Option FieldType) (n : Nat) : Prop :=
  Cond.code y bytes maxL ret ∈ wsL_law ∧ Cond.initialized y.cls ∈ wsL_law ∧ Cond.methodLink own index y ∈ wsL_law ∧ Cond.instanceMethod y ∈ wsL_law ∧ Cond.selects y.cls y y ∈ wsL_law ∧ (y.cls ≠ "java/lang/invoke/MethodHandle" ∧ y.cls ≠ "java/lang/invoke/VarHandle") ∧ (parseMethodDescriptor y.desc).map (fun d => d.parameters.length) = some n
def IF (own : String) (index : Nat) (y : MethodName) (bytes : ByteArray) (maxL : Nat) (n : Nat) : Prop :=
  Cond.code y bytes maxL none ∈ wsL_law ∧ Cond.initialized y.cls ∈ wsL_law ∧ Cond.methodLink own index y ∈ wsL_law ∧ Cond.instanceMethod y ∈ wsL_law ∧ y.name = "<init>" ∧ (y.cls ≠ "java/lang/invoke/MethodHandle" ∧ y.cls ≠ "java/lang/invoke/VarHandle") ∧ (parseMethodDescriptor y.desc).map (fun d => d.parameters.length) = some n
def RF (R rm : Room) (mc ms maxL : Nat) : Prop := rm.cells = mc ∧ rm.slots = ms ∧ rm.frames + 1 ≤ R.frames ∧ 16 + (maxL + 11) + rm.locals ≤ R.locals
theorem desc_len {d : String} {n : Nat} (h : (parseMethodDescriptor d).map (fun d => d.parameters.length) = some n) : ∀ sig, parseMethodDescriptor d = some sig → n = sig.parameters.length := fun sig hs => by
  rw [hs] at h
  exact (Option.some.inj h).symm
section XC
variable {p : Program} {l : Launch} {e : Env} {R : Room} {s : State} {m : MethodId} {args : Array Value} {below : List Frame} {meth : Method} {c : Code} {H : Heap} {locs : List Loc} {cells slots : Nat} {Q : State → Prop}
variable {y : MethodName} {bytes cc : ByteArray} {maxL nL mc ms index : Nat} {ret : Option FieldType} {rm : Room} {Pc : Array Value → State → Prop} {Qc : Array Value → State → Outcome → State → Prop} {free : Addr → Prop} {own : String} {b : Addr} {As rest : List Value} {pc : Nat} {ls : Array Slot}
theorem x_runS (S : CallFix p m c cc nL s args wsL_law own) (hF : SF own index y bytes maxL ret As.length) (hM : Met l y (wq (.code y bytes maxL ret)) rm Pc Qc mc ms free) (hR : RF R rm mc ms maxL) (hp : PreS s H Pc As)
    (hsize : ls.size = nL) (hW : (rest.map fun v => v.category).sum ≤ 16) (hdg : decode cc pc = .ok (.invokestatic index, 3)) (hf : cells + mc ≤ R.cells ∧ slots + ms ≤ R.slots) :
    va_Run p l e R s m args below meth c H locs cells slots mc ms (F0 m pc ls (As.reverse ++ rest)) rest (Qc As.toArray) free := by
  obtain ⟨hx, hb, hml, ho, hts⟩ := S
  obtain ⟨k1, k2, k3, k4, hy, hd⟩ := hF
  obtain ⟨hrc, hrs, hfr, hlo⟩ := hR
  have hK : Back l R p e below s args y 3 16 (PreOf R mc ms Pc) (PostOf Qc mc ms free) := back_of (bytes := bytes) (maxL := maxL) (ret := ret) hM hp.1 hrc hrs hfr hlo (wq_ride hts k1) List.mem_cons_self (ini_ride (hts _ k2))
  intro T hT X
  obtain ⟨v, vm₁, ⟨U', l2, c2, s2⟩, hW₁, X', ⟨g', mk, t, L, e1, e2, hq, h1, hL, h2, h3⟩, st⟩ := callS X hx (bytes := bytes) (maxL := maxL) (ret := ret) ho (hts _ k3) (hts _ k4) (hts _ k2) (hts _ k1) hy hK (g := F0 m pc ls (As.reverse ++ rest)) rfl (hsize.trans hml.symm) (argsL := As) (rest := rest) (desc_len hd) rfl (by show 2 * 0 + _ ≤ 16; omega) (by rw [hb]; exact hdg)
    (fun vm₁ hW₁ => ⟨hf.1, hf.2, hp.2 (T.setVm vm₁) hT hW₁⟩)
  dsimp only [Pt.U, Pt.locs, Pt.cells, Pt.slots] at X' e1 e2 h1 h2 h3 st
  subst h1; subst h2; subst h3
  exact ⟨v, (T.setVm vm₁).calling g' mk As.toArray, t, U', L, hT, X', hL, e1, e2, hq, st⟩
theorem x_runV (S : CallFix p m c cc nL s args wsL_law own) (hF : VF own index y bytes maxL ret As.length) (hM : Met l y (wq (.code y bytes maxL ret)) rm Pc Qc mc ms free) (hR : RF R rm mc ms maxL) (hp : PreV s H y.cls b Pc As)
    (hsize : ls.size = nL) (hW : (rest.map fun v => v.category).sum ≤ 16) (hdg : decode cc pc = .ok (.invokevirtual index, 3)) (hf : cells + mc ≤ R.cells ∧ slots + ms ≤ R.slots) :
    va_Run p l e R s m args below meth c H locs cells slots mc ms (F0 m pc ls (As.reverse ++ .ref b :: rest)) rest (Qc (Value.ref b :: As).toArray) free := by
  obtain ⟨hx, hb, hml, ho, hts⟩ := S
  obtain ⟨k1, k2, k3, k4, k5, hy, hd⟩ := hF
  obtain ⟨hrc, hrs, hfr, hlo⟩ := hR
  have hK : Back l R p e below s args y 3 16 (PreOf R mc ms Pc) (PostOf Qc mc ms free) := back_of (bytes := bytes) (maxL := maxL) (ret := ret) hM hp.1 hrc hrs hfr hlo (wq_ride hts k1) List.mem_cons_self (ini_ride (hts _ k2))
  obtain ⟨-, ⟨cellB, hcB, hoB, hclB⟩, hPc⟩ := hp
  intro T hT X
  obtain ⟨v, vm₁, ⟨U', l2, c2, s2⟩, hW₁, X', ⟨g', mk, t, L, e1, e2, hq, h1, hL, h2, h3⟩, st⟩ := callV X hx (C := y.cls) (bytes := bytes) (maxL := maxL) (ret := ret) ho (hts _ k3) (hts _ k4) (hts _ k5) (hts _ k1) hy hK (by rw [hT]; exact hcB) hoB hclB (g := F0 m pc ls (As.reverse ++ .ref b :: rest)) rfl (hsize.trans hml.symm) (argsL := As) (rest := rest) (desc_len hd) rfl (by show 2 * 0 + _ ≤ 16; omega) (by rw [hb]; exact hdg)
    (fun vm₁ hW₁ => ⟨hf.1, hf.2, hPc (T.setVm vm₁) hT hW₁⟩)
  dsimp only [Pt.U, Pt.locs, Pt.cells, Pt.slots] at X' e1 e2 h1 h2 h3 st
  subst h1; subst h2; subst h3
  exact ⟨v, (T.setVm vm₁).calling g' mk (Value.ref b :: As).toArray, t, U', L, hT, X', hL, e1, e2, hq, st⟩
theorem x_runI (S : CallFix p m c cc nL s args wsL_law own) (hF : IF own index y bytes maxL As.length) (hM : Met l y (wq (.code y bytes maxL none)) rm Pc Qc mc ms free) (hR : RF R rm mc ms maxL) (hp : PreS s H Pc (.ref b :: As))
    (hsize : ls.size = nL) (hW : (rest.map fun v => v.category).sum ≤ 16) (hdg : decode cc pc = .ok (.invokespecial index, 3)) (hf : cells + mc ≤ R.cells ∧ slots + ms ≤ R.slots) :
    va_Run p l e R s m args below meth c H locs cells slots mc ms (F0 m pc ls (As.reverse ++ .ref b :: rest)) rest (Qc (Value.ref b :: As).toArray) free := by
  obtain ⟨hx, hb, hml, ho, hts⟩ := S
  obtain ⟨k1, k2, k3, k4, hn, hy, hd⟩ := hF
  obtain ⟨hrc, hrs, hfr, hlo⟩ := hR
  have hK : Back l R p e below s args y 3 16 (PreOf R mc ms Pc) (PostOf Qc mc ms free) := back_of (bytes := bytes) (maxL := maxL) (ret := none) hM hp.1 hrc hrs hfr hlo (wq_ride hts k1) List.mem_cons_self (ini_ride (hts _ k2))
  intro T hT X
  obtain ⟨v, vm₁, ⟨U', l2, c2, s2⟩, hW₁, X', ⟨g', mk, t, L, e1, e2, hq, h1, hL, h2, h3⟩, st⟩ := callI X hx (bytes := bytes) (maxL := maxL) ho hn (hts _ k3) (hts _ k4) (hts _ k1) hy hK (g := F0 m pc ls (As.reverse ++ .ref b :: rest)) rfl (hsize.trans hml.symm) (a := b) (argsL := As) (rest := rest) (desc_len hd) rfl (by show 2 * 0 + _ ≤ 16; omega) (by rw [hb]; exact hdg)
    (fun vm₁ hW₁ => ⟨hf.1, hf.2, hp.2 (T.setVm vm₁) hT hW₁⟩)
  dsimp only [Pt.U, Pt.locs, Pt.cells, Pt.slots] at X' e1 e2 h1 h2 h3 st
  subst h1; subst h2; subst h3
  exact ⟨v, (T.setVm vm₁).calling g' mk (Value.ref b :: As).toArray, t, U', L, hT, X', hL, e1, e2, hq, st⟩
end XC
/-! methods of numbers alone: they answer v, whatever the heap is, and leave it -/
def QS (v : Value) : Array Value → State → Outcome → State → Prop := fun _ st o t => o = .returned (some v) ∧ t.heap = st.heap
def MS (l : Launch) (y : MethodName) (k : Cond) (rm : Room) (av : List Value) (v : Value) : Prop := Met l y (wq k) rm (va_Pc av (fun _ => True)) (QS v) 0 0 (fun _ => False)
theorem MS.of {l : Launch} {y : MethodName} {bytes : ByteArray} {maxL : Nat} {ret : Option FieldType} {rm : Room} {av : List Value} {v : Value} (hy : plainName y.cls = true) (hav : (lg_sl av).length ≤ maxL)
    (body : ∀ (p : Program) (e : Env) (s : State) (m : MethodId) (below : List Frame) (meth : Method) (c : Code) (ls : Array Slot), CallFix p m c bytes maxL s av.toArray wsL_law y.cls → meth.sig.returnType = ret → meth.locks = false → lv_has ls maxL (lv_args 0 av) →
      W p l e rm s m av.toArray below meth c s.heap [] 0 0 (MQ below (QS v) av.toArray s 0 0 (fun _ => False)) (F0 m 0 ls [])) : MS l y (.code y bytes maxL ret) rm av v := by
  refine Met.ofW (cc := bytes) (maxL := maxL) (ret := ret) hy rfl ?_
  intro p e s m args below meth c s₁ B hml hv
  obtain ⟨rfl, -⟩ := hv
  rw [lg_entry_eq]
  exact body p e s m below meth c _ ⟨B.exec, B.bytes, hml, findClass_of_methodNamed B.named, fun w hw => atoms_spec (ws := wq (.code y bytes maxL ret)) B.pre w (List.mem_cons_of_mem _ hw)⟩ B.returns B.notSynchronized (lv_entry av hav)
section XS
variable {p : Program} {l : Launch} {e : Env} {R : Room} {s : State} {m : MethodId} {args : Array Value} {below : List Frame} {meth : Method} {c : Code} {H : Heap} {locs : List Loc} {cells slots : Nat} {Q : State → Prop}
variable {y : MethodName} {bytes cc : ByteArray} {maxL nL index : Nat} {ret : Option FieldType} {rm : Room} {own : String} {As rest : List Value} {pc : Nat} {ls : Array Slot}
/-- a static call of such a method -/
theorem x_callS {v : Value} (S : CallFix p m c cc nL s args wsL_law own) (hF : SF own index y bytes maxL ret As.length) (hM : MS l y (.code y bytes maxL ret) rm As v) (hR : RF R rm 0 0 maxL) (hsize : ls.size = nL) (hW : (rest.map fun v => v.category).sum ≤ 16) (hdg : decode cc pc = .ok (.invokestatic index, 3)) (hf : cells ≤ R.cells ∧ slots ≤ R.slots) {st0 : List Value} (hst : st0 = As.reverse ++ rest)
    (kk : W p l e R s m args below meth c H locs cells slots Q (F0 m (pc + 3) ls (v :: rest))) : W p l e R s m args below meth c H locs cells slots Q (F0 m pc ls st0) := by
  subst hst
  have hr := x_runS (e := e) (below := below) (meth := meth) (H := H) (locs := locs) (cells := cells) (slots := slots) (rest := rest) S hF hM hR ⟨fun _ _ _ _ q => q, fun _ _ _ => ⟨rfl, trivial⟩⟩ hsize hW hdg hf
  intro T hT X
  obtain ⟨v1, st₀, t, T', L, h0, X', hL, e1, e2, ⟨hv, hh⟩, st⟩ := hr T hT X
  cases hv
  obtain ⟨t2, a1, b1⟩ := kk T' (by rw [e1, hh, h0]) (Stand.forget X' (fun q h => (hL q h).elim))
  exact ⟨t2, st t2 a1, b1⟩
theorem x_retI {bytes : ByteArray} {v : Int32} (hx : p.tables.exec = Jvm.exec) (hb : c.code = bytes) (hr : meth.sig.returnType = some .int) (hlocks : meth.locks = false) (hdg : decode bytes pc = .ok (.ireturn, 1)) : W p l e R s m args below meth c s.heap [] 0 0 (MQ below (QS (.int v)) args s 0 0 (fun _ => False)) (F0 m pc ls [.int v]) :=
  W.iret hx hb hr (fun t ht _ => ⟨rfl, ht⟩) (fun _ h => nomatch h) hdg hlocks
theorem x_retZ {bytes : ByteArray} {v : Int32} (hx : p.tables.exec = Jvm.exec) (hb : c.code = bytes) (hr : meth.sig.returnType = some .boolean) (hlocks : meth.locks = false) (hn : narrow .boolean (.int v) = .int v) (hdg : decode bytes pc = .ok (.ireturn, 1)) : W p l e R s m args below meth c s.heap [] 0 0 (MQ below (QS (.int v)) args s 0 0 (fun _ => False)) (F0 m pc ls [.int v]) :=
  W.zret hx hb hr hn (fun t ht _ => ⟨rfl, ht⟩) (fun _ h => nomatch h) hdg hlocks
theorem x_retL {bytes : ByteArray} {v : Int64} (hx : p.tables.exec = Jvm.exec) (hb : c.code = bytes) (hr : meth.sig.returnType = some .long) (hlocks : meth.locks = false) (hdg : decode bytes pc = .ok (.lreturn, 1)) : W p l e R s m args below meth c s.heap [] 0 0 (MQ below (QS (.long v)) args s 0 0 (fun _ => False)) (F0 m pc ls [.long v]) :=
  W.lret hx hb hr (fun t ht _ => ⟨rfl, ht⟩) (fun _ h => nomatch h) hdg hlocks
end XS
