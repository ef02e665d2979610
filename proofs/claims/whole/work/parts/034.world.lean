/-! methods over the world: from the cells w they come to cells u with PU, and answer r; nothing else old changes -/
def xA (ad : Nat → Nat) (N sz : Nat) : Nat → Prop := fun q => (∃ k, k < N ∧ q = ad k) ∨ sz ≤ q
theorem wl_D {A : Nat → Prop} {ad : Nat → Nat} {N : Nat} {w u : Nat → va_E} (h : va_D A (wl ad N w)) : va_D A (wl ad N u) := by
  refine ⟨fun i j p q hp hq e => ?_, fun k q hk => ?_⟩
  · obtain ⟨h1, rfl⟩ := wl_inv hp
    obtain ⟨h2, rfl⟩ := wl_inv hq
    exact h.1 i j (ad i, w i) (ad j, w j) (wl_get h1 rfl) (wl_get h2 rfl) e
  · obtain ⟨h1, rfl⟩ := wl_inv hk
    exact h.2 k (ad k, w k) (wl_get h1 rfl)
theorem wl_DA {A : Nat → Prop} {ad : Nat → Nat} {N sz : Nat} {w u : Nat → va_E} (h : va_D A (wl ad N w)) : va_D (xA ad N sz) (wl ad N u) := by
  refine ⟨(wl_D (u := u) h).1, fun k q hk => ?_⟩
  obtain ⟨h1, rfl⟩ := wl_inv hk
  exact Or.inl ⟨k, h1, rfl⟩
def cP (D : va_G) (tys : List (ClassId × FieldType)) (ad : Nat → Nat) (N : Nat) (w : Nat → va_E) (sz : Nat) (U : State) : Prop :=
  U.heap.size = sz ∧ va_P D vwCl (wl ad N w) U.heap ∧ va_K D vwCl tys U ∧ va_D (fun _ => True) (wl ad N w)
theorem cP_blind {av : List Value} {D : va_G} {tys : List (ClassId × FieldType)} {ad : Nat → Nat} {N : Nat} {w : Nat → va_E} {sz : Nat} : FrameBlind (va_Pc av (cP D tys ad N w sz)) := fun a U g mk q => by
  obtain ⟨q0, q1, qP, qK, qD⟩ := q
  exact ⟨q0, q1, qP, va_K.moved (u := U) (U := U.calling g mk a) (Vm.Alike.refl U.vm) qK, qD⟩
def QW (D : va_G) (tys : List (ClassId × FieldType)) (ad : Nat → Nat) (N sz : Nat) (r : Option Value) (PU : (Nat → va_E) → Prop) : Array Value → State → Outcome → State → Prop := fun _ st o t =>
  o = .returned r ∧ ∃ u : Nat → va_E, PU u ∧ va_P D vwCl (wl ad N u) t.heap ∧ va_K D vwCl tys t ∧ va_F (xA ad N sz) st t
def MW (l : Launch) (y : MethodName) (k : Cond) (rm : Room) (av : List Value) (D : va_G) (tys : List (ClassId × FieldType)) (ad : Nat → Nat) (N : Nat) (w : Nat → va_E) (sz : Nat) (r : Option Value) (PU : (Nat → va_E) → Prop) : Prop :=
  Met l y (wq k) rm (va_Pc av (cP D tys ad N w sz)) (QW D tys ad N sz r PU) 0 0 (xA ad N sz)
theorem MW.of {l : Launch} {y : MethodName} {bytes : ByteArray} {maxL : Nat} {ret : Option FieldType} {rm : Room} {av : List Value} {D : va_G} {tys : List (ClassId × FieldType)} {ad : Nat → Nat} {N : Nat} {w : Nat → va_E} {sz : Nat} {r : Option Value} {PU : (Nat → va_E) → Prop} (hy : plainName y.cls = true) (hav : (lg_sl av).length ≤ maxL)
    (body : ∀ (p : Program) (e : Env) (s : State) (m : MethodId) (below : List Frame) (meth : Method) (c : Code) (ls : Array Slot), CallFix p m c bytes maxL s av.toArray wsL_law y.cls → meth.sig.returnType = ret → meth.locks = false → lv_has ls maxL (lv_args 0 av) → WW D vwCl tys (xA ad N s.heap.size) s.heap ad N w s s.heap [] →
      W p l e rm s m av.toArray below meth c s.heap [] 0 0 (MQ below (QW D tys ad N s.heap.size r PU) av.toArray s 0 0 (xA ad N s.heap.size)) (F0 m 0 ls [])) : MW l y (.code y bytes maxL ret) rm av D tys ad N w sz r PU := by
  refine Met.ofW (cc := bytes) (maxL := maxL) (ret := ret) hy rfl ?_
  intro p e s m args below meth c s₁ B hml hv
  obtain ⟨rfl, rfl, hP, hK, hD⟩ := hv
  rw [lg_entry_eq]
  exact body p e s m below meth c _ ⟨B.exec, B.bytes, hml, findClass_of_methodNamed B.named, fun w hw => atoms_spec (ws := wq (.code y bytes maxL ret)) B.pre w (List.mem_cons_of_mem _ hw)⟩ B.returns B.notSynchronized (lv_entry av hav) ⟨hK, hP, wl_DA hD, va_S.rf⟩
section XWR
variable {p : Program} {l : Launch} {e : Env} {R : Room} {s : State} {m : MethodId} {args : Array Value} {below : List Frame} {meth : Method} {c : Code} {H : Heap} {locs : List Loc} {cells slots : Nat} {Q : State → Prop}
variable {y : MethodName} {bytes cc : ByteArray} {maxL nL index : Nat} {ret : Option FieldType} {rm : Room} {own : String} {As rest : List Value} {pc : Nat} {ls : Array Slot}
variable {D : va_G} {tys : List (ClassId × FieldType)} {A : Nat → Prop} {H0 : Heap} {ad : Nat → Nat} {N : Nat} {w u : Nat → va_E} {PU : (Nat → va_E) → Prop}
theorem x_wretV (hx : p.tables.exec = Jvm.exec) (hb : c.code = cc) (hr : meth.sig.returnType = none) (hlocks : meth.locks = false) (hw : WW D vwCl tys (xA ad N s.heap.size) s.heap ad N u s H locs) (hPU : PU u) (hdg : decode cc pc = .ok (.return_, 1)) : W p l e R s m args below meth c H locs 0 0 (MQ below (QW D tys ad N s.heap.size none PU) args s 0 0 (xA ad N s.heap.size)) (F0 m pc ls []) :=
  W.vret hx hb hr (fun t ht hW => ⟨rfl, u, hPU, by rw [ht]; exact hw.2.1, va_K.moved hW.alike hw.1, hw.2.2.2.F ht⟩) hw.2.2.2.2.2 hdg hlocks
theorem x_wretI {v : Int32} (hx : p.tables.exec = Jvm.exec) (hb : c.code = cc) (hr : meth.sig.returnType = some .int) (hlocks : meth.locks = false) (hw : WW D vwCl tys (xA ad N s.heap.size) s.heap ad N u s H locs) (hPU : PU u) (hdg : decode cc pc = .ok (.ireturn, 1)) : W p l e R s m args below meth c H locs 0 0 (MQ below (QW D tys ad N s.heap.size (some (.int v)) PU) args s 0 0 (xA ad N s.heap.size)) (F0 m pc ls [.int v]) :=
  W.iret hx hb hr (fun t ht hW => ⟨rfl, u, hPU, by rw [ht]; exact hw.2.1, va_K.moved hW.alike hw.1, hw.2.2.2.F ht⟩) hw.2.2.2.2.2 hdg hlocks
theorem x_wretZ {v : Int32} (hx : p.tables.exec = Jvm.exec) (hb : c.code = cc) (hr : meth.sig.returnType = some .boolean) (hlocks : meth.locks = false) (hn : narrow .boolean (.int v) = .int v) (hw : WW D vwCl tys (xA ad N s.heap.size) s.heap ad N u s H locs) (hPU : PU u) (hdg : decode cc pc = .ok (.ireturn, 1)) : W p l e R s m args below meth c H locs 0 0 (MQ below (QW D tys ad N s.heap.size (some (.int v)) PU) args s 0 0 (xA ad N s.heap.size)) (F0 m pc ls [.int v]) :=
  W.zret hx hb hr hn (fun t ht hW => ⟨rfl, u, hPU, by rw [ht]; exact hw.2.1, va_K.moved hW.alike hw.1, hw.2.2.2.F ht⟩) hw.2.2.2.2.2 hdg hlocks
theorem x_wretL {v : Int64} (hx : p.tables.exec = Jvm.exec) (hb : c.code = cc) (hr : meth.sig.returnType = some .long) (hlocks : meth.locks = false) (hw : WW D vwCl tys (xA ad N s.heap.size) s.heap ad N u s H locs) (hPU : PU u) (hdg : decode cc pc = .ok (.lreturn, 1)) : W p l e R s m args below meth c H locs 0 0 (MQ below (QW D tys ad N s.heap.size (some (.long v)) PU) args s 0 0 (xA ad N s.heap.size)) (F0 m pc ls [.long v]) :=
  W.lret hx hb hr (fun t ht hW => ⟨rfl, u, hPU, by rw [ht]; exact hw.2.1, va_K.moved hW.alike hw.1, hw.2.2.2.F ht⟩) hw.2.2.2.2.2 hdg hlocks
/-- behind a call that ran over the whole world -/
theorem x_after {r : Option Value} {a : Array Value} {st0 : List Value} (hr : va_Run p l e R s m args below meth c H locs cells slots 0 0 (F0 m pc ls st0) rest (QW D tys ad N H.size r PU a) (xA ad N H.size)) (hw : WW D vwCl tys A H0 ad N w s H locs) (hA : ∀ q, H0.size ≤ q → A q)
    (kk : ∀ (u : Nat → va_E) (H1 : Heap) (locs1 : List Loc), PU u → WW D vwCl tys A H0 ad N u s H1 locs1 → W p l e R s m args below meth c H1 locs1 cells slots Q (F0 m (pc + 3) ls (r.toList ++ rest))) : W p l e R s m args below meth c H locs cells slots Q (F0 m pc ls st0) := by
  intro T hT X
  obtain ⟨v, st₀, t, T', L, h0, X', hL, e1, e2, ⟨hv, u, hpu, hP, hK, hF⟩, st⟩ := hr T hT X
  cases hv
  obtain ⟨hK0, hP0, hD0, hS0⟩ := hw
  have hsub : ∀ q, xA ad N H.size q → A q := by
    intro q hq
    rcases hq with ⟨k, hk, rfl⟩ | hq
    · exact hD0.2 k _ (wl_get hk rfl)
    · exact hA q (Nat.le_trans hS0.1 hq)
  obtain ⟨hz, hk⟩ := hF
  rw [h0] at hz hk
  obtain ⟨t2, a1, b1⟩ := kk u T'.heap (locs ++ L) hpu ⟨hK0, by rw [e1]; exact hP, wl_D hD0, Nat.le_trans hS0.1 (by rw [e1]; exact hz), fun q h1 h2 => by
      rw [e1, hk q (Nat.lt_of_lt_of_le h1 hS0.1) (fun z => h2 (hsub q z))]
      exact hS0.2.1 q h1 h2, fun q hq => by
      rcases List.mem_append.mp hq with h | h
      · exact hS0.2.2 q h
      · exact hsub _ (hL q h)⟩ T' rfl X'
  exact ⟨t2, st t2 a1, b1⟩
theorem x_callW {r : Option Value} (S : CallFix p m c cc nL s args wsL_law own) (hF : VF own index y bytes maxL ret As.length) (hw : WW D vwCl tys A H0 ad N w s H locs) (hA : ∀ q, H0.size ≤ q → A q) {k0 ci : Nat} {fs : List Value} {rC : vw_C} (hk0 : k0 < N) (he : w k0 = .inr (ci, fs)) (hc : vwCl[ci]? = some rC) (hcls : rC.1 = y.cls) (hM : MW l y (.code y bytes maxL ret) rm (.ref (ad k0) :: As) D tys ad N w H.size r PU) (hR : RF R rm 0 0 maxL) (hsize : ls.size = nL) (hW : (rest.map fun v => v.category).sum ≤ 16) (hdg : decode cc pc = .ok (.invokevirtual index, 3)) (hf : cells ≤ R.cells ∧ slots ≤ R.slots) {st0 : List Value} (hst : st0 = As.reverse ++ .ref (ad k0) :: rest)
    (kk : ∀ (u : Nat → va_E) (H1 : Heap) (locs1 : List Loc), PU u → WW D vwCl tys A H0 ad N u s H1 locs1 → W p l e R s m args below meth c H1 locs1 cells slots Q (F0 m (pc + 3) ls (r.toList ++ rest))) : W p l e R s m args below meth c H locs cells slots Q (F0 m pc ls st0) := by
  subst hst
  refine x_after (x_runV (e := e) (below := below) (meth := meth) (H := H) (locs := locs) (cells := cells) (slots := slots) (rest := rest) S hF hM hR ⟨cP_blind, ?_, fun U hU hW => ⟨rfl, by rw [hU], by rw [hU]; exact hw.2.1, va_K.moved hW.alike hw.1, hw.2.2.1.weaken (fun _ _ _ _ => trivial)⟩⟩ hsize hW hdg hf) hw hA kk
  rw [← hcls]
  exact va_recv hw.1 hw.2.1 hc (wl_get hk0 he)
theorem x_callW1 {v : Value} (S : CallFix p m c cc nL s args wsL_law own) (hF : VF own index y bytes maxL ret As.length) (hw : WW D vwCl tys A H0 ad N w s H locs) (hA : ∀ q, H0.size ≤ q → A q) {k0 ci : Nat} {fs : List Value} {rC : vw_C} (hk0 : k0 < N) (he : w k0 = .inr (ci, fs)) (hc : vwCl[ci]? = some rC) (hcls : rC.1 = y.cls) (hM : MW l y (.code y bytes maxL ret) rm (.ref (ad k0) :: As) D tys ad N w H.size (some v) PU) (hR : RF R rm 0 0 maxL) (hsize : ls.size = nL) (hW : (rest.map fun v => v.category).sum ≤ 16) (hdg : decode cc pc = .ok (.invokevirtual index, 3)) (hf : cells ≤ R.cells ∧ slots ≤ R.slots) {st0 : List Value} (hst : st0 = As.reverse ++ .ref (ad k0) :: rest)
    (kk : ∀ (u : Nat → va_E) (H1 : Heap) (locs1 : List Loc), PU u → WW D vwCl tys A H0 ad N u s H1 locs1 → W p l e R s m args below meth c H1 locs1 cells slots Q (F0 m (pc + 3) ls (v :: rest))) : W p l e R s m args below meth c H locs cells slots Q (F0 m pc ls st0) :=
  x_callW S hF hw hA hk0 he hc hcls hM hR hsize hW hdg hf hst kk
theorem x_callW0 (S : CallFix p m c cc nL s args wsL_law own) (hF : VF own index y bytes maxL ret As.length) (hw : WW D vwCl tys A H0 ad N w s H locs) (hA : ∀ q, H0.size ≤ q → A q) {k0 ci : Nat} {fs : List Value} {rC : vw_C} (hk0 : k0 < N) (he : w k0 = .inr (ci, fs)) (hc : vwCl[ci]? = some rC) (hcls : rC.1 = y.cls) (hM : MW l y (.code y bytes maxL ret) rm (.ref (ad k0) :: As) D tys ad N w H.size none PU) (hR : RF R rm 0 0 maxL) (hsize : ls.size = nL) (hW : (rest.map fun v => v.category).sum ≤ 16) (hdg : decode cc pc = .ok (.invokevirtual index, 3)) (hf : cells ≤ R.cells ∧ slots ≤ R.slots) {st0 : List Value} (hst : st0 = As.reverse ++ .ref (ad k0) :: rest)
    (kk : ∀ (u : Nat → va_E) (H1 : Heap) (locs1 : List Loc), PU u → WW D vwCl tys A H0 ad N u s H1 locs1 → W p l e R s m args below meth c H1 locs1 cells slots Q (F0 m (pc + 3) ls rest)) : W p l e R s m args below meth c H locs cells slots Q (F0 m pc ls st0) :=
  x_callW S hF hw hA hk0 he hc hcls hM hR hsize hW hdg hf hst kk
end XWR
