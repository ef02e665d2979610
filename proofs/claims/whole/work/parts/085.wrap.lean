/-! the law's own methods: they call, and catch -/
def TH (sa : Nat → Nat) (A : Nat → Prop) (U : State) : Prop :=
  TX sa A U ∧ va_Nc "java/lang/IllegalStateException" "java/lang/IllegalArgumentException" U ∧ va_Nc "java/lang/IllegalArgumentException" "java/lang/IllegalStateException" U ∧ va_Nc "java/lang/UnsupportedOperationException" "java/lang/IllegalStateException" U
theorem TH.calling {sa : Nat → Nat} {A : Nat → Prop} {U : State} {g : JFrame} {mk : MethodId} {a : Array Value} (h : TH sa A U) : TH sa A (U.calling g mk a) :=
  ⟨h.1.calling, va_Nc.moved (u := U) (U := U.calling g mk a) (Vm.Alike.refl U.vm) h.2.1, va_Nc.moved (u := U) (U := U.calling g mk a) (Vm.Alike.refl U.vm) h.2.2.1, va_Nc.moved (u := U) (U := U.calling g mk a) (Vm.Alike.refl U.vm) h.2.2.2⟩
theorem TH.to {sa : Nat → Nat} {A B : Nat → Prop} {s U : State} {H : Heap} (h : TH sa A s) (hW : s.WarmedH U.vm) (hU : U.heap = H) (hk : ∀ a, a < s.heap.size → ¬ A a → H[a]? = s.heap[a]?) (hAB : ∀ q, B q → A q) : TH sa B U :=
  ⟨h.1.to hW hU hk hAB, va_Nc.moved hW.alike h.2.1, va_Nc.moved hW.alike h.2.2.1, va_Nc.moved hW.alike h.2.2.2⟩
def MH (l : Launch) (y : MethodName) (k : Cond) (rm : Room) (av : List Value) (D : va_G) (tys : List (ClassId × FieldType)) (ad : Nat → Nat) (N : Nat) (w : Nat → va_E) (sz : Nat) (sa : Nat → Nat) (r : Option Value) (PU : (Nat → va_E) → Prop) (mc ms : Nat) : Prop :=
  Met l y (wq k) rm (va_Pc av (fun U => cP D tys ad N w sz U ∧ TH sa (xA ad N sz) U)) (QW D tys ad N sz r PU) mc ms (xA ad N sz)
theorem MH.of {l : Launch} {y : MethodName} {bytes : ByteArray} {maxL : Nat} {ret : Option FieldType} {hh : List (Nat × Nat × Nat × Nat)} {rm : Room} {av : List Value} {D : va_G} {tys : List (ClassId × FieldType)} {ad : Nat → Nat} {N : Nat} {w : Nat → va_E} {sz : Nat} {sa : Nat → Nat} {r : Option Value} {PU : (Nat → va_E) → Prop} {mc ms : Nat} (hy : plainName y.cls = true) (hav : (lg_sl av).length ≤ maxL)
    (body : ∀ (p : Program) (e : Env) (s : State) (m : MethodId) (below : List Frame) (meth : Method) (c : Code) (ls : Array Slot), CallFix p m c bytes maxL s av.toArray wsL_law y.cls → meth.sig.returnType = ret → meth.locks = false → c.exceptionTable.toList = tableOf hh → lv_has ls maxL (lv_args 0 av) → WW D vwCl tys (xA ad N s.heap.size) s.heap ad N w s s.heap [] → TH sa (xA ad N s.heap.size) s →
      W p l e rm s m av.toArray below meth c s.heap [] 0 0 (MQ below (QW D tys ad N s.heap.size r PU) av.toArray s mc ms (xA ad N s.heap.size)) (F0 m 0 ls [])) : MH l y (.codeWith y bytes maxL ret hh) rm av D tys ad N w sz sa r PU mc ms := by
  refine va_MetW (cc := bytes) (maxL := maxL) (ret := ret) (hh := hh) hy rfl ?_
  intro p e s m args below meth c s₁ B hml hv
  obtain ⟨rfl, ⟨rfl, hP, hK, hD⟩, hT⟩ := hv
  have hat := atoms_spec (ws := wq (.codeWith y bytes maxL ret hh)) B.pre
  rw [lg_entry_eq]
  exact body p e s m below meth c _ ⟨B.exec, B.bytes, hml, findClass_of_methodNamed B.named, fun w hw => hat w (List.mem_cons_of_mem _ hw)⟩ B.returns B.notSynchronized (vx_table (x := y) B (hat _ List.mem_cons_self)) (lv_entry av hav) ⟨hK, hP, wl_DA hD, va_S.rf⟩ hT
section XH
variable {p : Program} {l : Launch} {e : Env} {R : Room} {s : State} {m : MethodId} {args : Array Value} {below : List Frame} {meth : Method} {c : Code} {H : Heap} {locs : List Loc} {cells slots : Nat} {Q : State → Prop}
variable {y : MethodName} {bytes cc : ByteArray} {maxL nL index mc ms : Nat} {ret : Option FieldType} {rm : Room} {own : String} {As rest : List Value} {pc : Nat} {ls : Array Slot}
variable {D : va_G} {tys : List (ClassId × FieldType)} {A : Nat → Prop} {ad : Nat → Nat} {N : Nat} {w u : Nat → va_E} {PU : (Nat → va_E) → Prop} {sa : Nat → Nat} {E0 : String}
theorem x_hret {v : Int32} (hx : p.tables.exec = Jvm.exec) (hb : c.code = cc) (hr : meth.sig.returnType = some .int) (hlocks : meth.locks = false) (hw : WW D vwCl tys (xA ad N s.heap.size) s.heap ad N u s H locs) (hPU : PU u) (hdg : decode cc pc = .ok (.ireturn, 1)) : W p l e R s m args below meth c H locs mc ms (MQ below (QW D tys ad N s.heap.size (some (.int v)) PU) args s mc ms (xA ad N s.heap.size)) (F0 m pc ls [.int v]) :=
  W.iret hx hb hr (fun t ht hW => ⟨rfl, u, hPU, by rw [ht]; exact hw.2.1, va_K.moved hW.alike hw.1, hw.2.2.2.F ht⟩) hw.2.2.2.2.2 hdg hlocks
theorem x_caught (S : CallFix p m c cc nL s args wsL_law own) (hF : VF own index y bytes maxL ret As.length) (hw : WW D vwCl tys A s.heap ad N w s H locs) (hA : ∀ q, s.heap.size ≤ q → A q) (hT : TH sa A s) {k0 ci : Nat} {fs : List Value} {rC : vw_C} (hk0 : k0 < N) (he : w k0 = .inr (ci, fs)) (hc : vwCl[ci]? = some rC) (hcls : rC.1 = y.cls) (hM : MT l y (.code y bytes maxL ret) rm (.ref (ad k0) :: As) D tys ad N w H.size sa E0) (hR : RF R rm 1 6 maxL) (hsize : ls.size = nL) (hW : (rest.map fun v => v.category).sum ≤ 16) (hdg : decode cc pc = .ok (.invokevirtual index, 3)) (hf : cells + 1 ≤ R.cells ∧ slots + 6 ≤ R.slots) {st0 : List Value} (hst : st0 = As.reverse ++ .ref (ad k0) :: rest) {hpc : Nat} (hrow : yRow own E0 args s pc c.exceptionTable.toList hpc)
    (kk : ∀ (q : Nat) (H1 : Heap) (locs1 : List Loc), WW D vwCl tys A s.heap ad N w s H1 locs1 → W p l e R s m args below meth c H1 locs1 (cells + 1) (slots + 6) Q (F0 m hpc ls [.ref q])) : W p l e R s m args below meth c H locs cells slots Q (F0 m pc ls st0) := by
  intro T hTH X
  obtain ⟨q, T', L, ce, X', hw', hce, hcv, hcl, st⟩ := x_runT S hF hw hA hT.1 hk0 he hc hcls hM hR hsize hW hdg hf hst T hTH X
  obtain ⟨vm', X2, st2⟩ := y_caught (ls := ls) (rest := rest) X' S.2.2.2.1 hce hcv hcl hrow
  obtain ⟨t2, a1, b1⟩ := kk q T'.heap (locs ++ L) hw' (T'.setVm vm') rfl X2
  exact ⟨t2, st.trans (st2 _ a1), b1⟩
theorem x_afterG {r : Option Value} {a : Array Value} {st0 : List Value} {H0 : Heap} (hr : va_Run p l e R s m args below meth c H locs cells slots mc ms (F0 m pc ls st0) rest (QW D tys ad N H.size r PU a) (xA ad N H.size)) (hw : WW D vwCl tys A H0 ad N w s H locs) (hA : ∀ q, H0.size ≤ q → A q)
    (kk : ∀ (u : Nat → va_E) (H1 : Heap) (locs1 : List Loc), PU u → WW D vwCl tys A H0 ad N u s H1 locs1 → W p l e R s m args below meth c H1 locs1 (cells + mc) (slots + ms) Q (F0 m (pc + 3) ls (r.toList ++ rest))) : W p l e R s m args below meth c H locs cells slots Q (F0 m pc ls st0) := by
  intro T hT X
  obtain ⟨v, st₀, t, T', L, h0, X', hL, e1, e2, ⟨hv, u, hpu, hP, hK, hF⟩, st⟩ := hr T hT X
  cases hv
  obtain ⟨hK0, hP0, hD0, hS0⟩ := hw
  have hsub : ∀ q, xA ad N H.size q → A q := by
    intro q hq
    rcases hq with ⟨k, hk, rfl⟩ | hq
    · exact hD0.2 k _ (wl_get hk rfl)
    · exact hA q (Nat.le_trans hS0.1 hq)
  obtain ⟨hz, hk⟩ := hF
  rw [h0] at hz hk
  obtain ⟨t2, a1, b1⟩ := kk u T'.heap (locs ++ L) hpu ⟨hK0, by rw [e1]; exact hP, wl_D hD0, Nat.le_trans hS0.1 (by rw [e1]; exact hz), fun q h1 h2 => by
      rw [e1, hk q (Nat.lt_of_lt_of_le h1 hS0.1) (fun z => h2 (hsub q z))]
      exact hS0.2.1 q h1 h2, fun q hq => by
      rcases List.mem_append.mp hq with h | h
      · exact hS0.2.2 q h
      · exact hsub _ (hL q h)⟩ T' rfl X'
  exact ⟨t2, st t2 a1, b1⟩
def HF (own : String) (index : Nat) (y : MethodName) (bytes : ByteArray) (maxL : Nat) (ret : Option FieldType) (hh : List (Nat × Nat × Nat × Nat)) (n : Nat) : Prop :=
  Cond.codeWith y bytes maxL ret hh ∈ wsL_law ∧ Cond.methodLink own index y ∈ wsL_law ∧ Cond.static y ∈ wsL_law ∧ (y.cls ≠ "java/lang/invoke/MethodHandle" ∧ y.cls ≠ "java/lang/invoke/VarHandle") ∧ (parseMethodDescriptor y.desc).map (fun d => d.parameters.length) = some n
theorem x_callH {v : Value} {hh : List (Nat × Nat × Nat × Nat)} (S : CallFix p m c cc nL s args wsL_law own) (hF : HF own index y bytes maxL ret hh As.length) (hini : (Cond.initialized y.cls).before args s = true) (hw : WW D vwCl tys A s.heap ad N w s H locs) (hA : ∀ q, s.heap.size ≤ q → A q) (hT : TH sa A s) (hM : MH l y (.codeWith y bytes maxL ret hh) rm As D tys ad N w H.size sa (some v) PU mc ms) (hR : rm.cells = mc ∧ rm.slots = ms ∧ rm.frames + 1 ≤ R.frames ∧ 8 + (maxL + 11) + rm.locals ≤ R.locals) (hsize : ls.size = nL) (hW : (rest.map fun v => v.category).sum ≤ 8) (hdg : decode cc pc = .ok (.invokestatic index, 3)) (hf : cells + mc ≤ R.cells ∧ slots + ms ≤ R.slots) {st0 : List Value} (hst : st0 = As.reverse ++ rest)
    (kk : ∀ (u : Nat → va_E) (H1 : Heap) (locs1 : List Loc), PU u → WW D vwCl tys A s.heap ad N u s H1 locs1 → W p l e R s m args below meth c H1 locs1 (cells + mc) (slots + ms) Q (F0 m (pc + 3) ls (v :: rest))) : W p l e R s m args below meth c H locs cells slots Q (F0 m pc ls st0) := by
  subst hst
  obtain ⟨k1, k3, k4, hy, hd⟩ := hF
  have hts := S.2.2.2.2
  have hsub := x_sub hw hA
  refine x_afterG (vx_runSW (e := e) (below := below) (meth := meth) (H := H) (locs := locs) (cells := cells) (slots := slots) (rest := rest) (As := As) (g := F0 m pc ls (As.reverse ++ rest)) (hh := hh) S hM ⟨⟨hR.1, hR.2.1, hR.2.2.1, hR.2.2.2, wq_ride hts k1, List.mem_cons_self⟩, hts _ k1, hini, hy, desc_len hd, hts _ k3, hts _ k4⟩ ⟨fun a U g mk q => ⟨q.1, ⟨q.2.1.1, q.2.1.2.1, va_K.moved (u := U) (U := U.calling g mk a) (Vm.Alike.refl U.vm) q.2.1.2.2.1, q.2.1.2.2.2⟩, q.2.2.calling⟩, fun U hU hW => ⟨rfl, ⟨by rw [hU], by rw [hU]; exact hw.2.1, va_K.moved hW.alike hw.1, hw.2.2.1.weaken (fun _ _ _ _ => trivial)⟩, hT.to hW hU (fun a h1 h2 => hw.2.2.2.2.1 a h1 h2) hsub⟩⟩ rfl rfl hsize rfl (by show 2 * 0 + _ ≤ 8; omega) hdg hf) hw hA kk
end XH
