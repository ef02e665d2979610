/-! methods that throw: they leave the world as it was; one cell of six slots comes -/
def exs : List String := ["java/lang/IllegalArgumentException", "java/lang/IllegalStateException", "java/lang/UnsupportedOperationException"]
def ups : List String := ["java/lang/RuntimeException", "java/lang/Exception", "java/lang/Throwable"]
def strs : List (Nat × String) := [(39, "n is not 1 .. 16, or t not 1 .. n"), (74, "the node has dealt"), (91, "j is not 0 .. t - 1"), (114, "there is no such complaint"), (122, "nobody would be qualified"), (156, "what is not 0 .. 3"), (183, "they are not t nodes whose parts are kept"), (188, "less than t parts are kept"), (192, "300 rounds ended"), (220, "what is not 0 .. 7"), (222, "there is no such node"), (227, "the number is not 0 .. q - 1"), (229, "what is none of those told"), (231, "the dealer has not dealt"), (233, "all is closed"), (235, "it is not closed"), (237, "a round is not below 0"), (239, "the round has not ended")]
def TX (sa : Nat → Nat) (A : Nat → Prop) (U : State) : Prop :=
  vx_Zq Jvm.Bundle.tN "UNASSIGNED_STACK" Jvm.Bundle.steD A U U.heap ∧ vx_Zq Jvm.Bundle.tN "SUPPRESSED_SENTINEL" Jvm.Bundle.listD A U U.heap ∧ (∀ q ∈ strs, vk_R RX4 q.1 q.2 (sa q.1) U) ∧ (∀ E ∈ exs, va_Nw (.castable E E) U) ∧ ∀ Y ∈ ups, va_Nw (.declares ⟨Y, "<init>", "(Ljava/lang/String;)V"⟩) U
theorem TX.calling {sa : Nat → Nat} {A : Nat → Prop} {U : State} {g : JFrame} {mk : MethodId} {a : Array Value} (h : TX sa A U) : TX sa A (U.calling g mk a) :=
  ⟨vx_Zq.moved (u := U) (U := U.calling g mk a) (Vm.Alike.refl U.vm) h.1, vx_Zq.moved (u := U) (U := U.calling g mk a) (Vm.Alike.refl U.vm) h.2.1, fun q hq => vk_R.same (u := U) rfl (h.2.2.1 q hq), fun E hE => va_Nw.same rfl (u := U) rfl (h.2.2.2.1 E hE), fun Y hY => va_Nw.same rfl (u := U) rfl (h.2.2.2.2 Y hY)⟩
theorem TX.to {sa : Nat → Nat} {A B : Nat → Prop} {s U : State} {H : Heap} (h : TX sa A s) (hW : s.WarmedH U.vm) (hU : U.heap = H) (hk : ∀ a, a < s.heap.size → ¬ A a → H[a]? = s.heap[a]?) (hAB : ∀ q, B q → A q) : TX sa B U := by
  subst hU
  exact ⟨((vx_Zq.moved hW.alike h.1).kept hk).narrow hAB, ((vx_Zq.moved hW.alike h.2.1).kept hk).narrow hAB, fun q hq => vk_R.warm hW (h.2.2.1 q hq), fun E hE => va_Nw.warmC hW (h.2.2.2.1 E hE), fun Y hY => va_Nw.warmD hW (h.2.2.2.2 Y hY)⟩
def XW (D : va_G) (tys : List (ClassId × FieldType)) (ad : Nat → Nat) (N : Nat) (w : Nat → va_E) (sz : Nat) (E0 : String) : String → State → State → Prop := fun E st t =>
  E = E0 ∧ va_P D vwCl (wl ad N w) t.heap ∧ va_K D vwCl tys t ∧ va_F (xA ad N sz) st t
def MT (l : Launch) (y : MethodName) (k : Cond) (rm : Room) (av : List Value) (D : va_G) (tys : List (ClassId × FieldType)) (ad : Nat → Nat) (N : Nat) (w : Nat → va_E) (sz : Nat) (sa : Nat → Nat) (E0 : String) : Prop :=
  vx_Met l y (wq k) rm (va_Pc av (fun U => cP D tys ad N w sz U ∧ TX sa (xA ad N sz) U)) (fun _ _ _ _ => False) (XW D tys ad N w sz E0) 1 6 (xA ad N sz)
theorem MT.of {l : Launch} {y : MethodName} {bytes : ByteArray} {maxL : Nat} {ret : Option FieldType} {rm : Room} {av : List Value} {D : va_G} {tys : List (ClassId × FieldType)} {ad : Nat → Nat} {N : Nat} {w : Nat → va_E} {sz : Nat} {sa : Nat → Nat} {E0 : String} (hy : plainName y.cls = true) (hav : (lg_sl av).length ≤ maxL)
    (body : ∀ (p : Program) (e : Env) (s : State) (m : MethodId) (below : List Frame) (meth : Method) (c : Code) (ls : Array Slot), CallFix p m c bytes maxL s av.toArray wsL_law y.cls → meth.locks = false → (∀ x ∈ c.exceptionTable.toList, False) → lv_has ls maxL (lv_args 0 av) → WW D vwCl tys (xA ad N s.heap.size) s.heap ad N w s s.heap [] → TX sa (xA ad N s.heap.size) s →
      W p l e rm s m av.toArray below meth c s.heap [] 0 0 (vx_MQ below (fun _ _ _ _ => False) (XW D tys ad N w s.heap.size E0) av.toArray s 1 6 (xA ad N s.heap.size)) (F0 m 0 ls [])) : MT l y (.code y bytes maxL ret) rm av D tys ad N w sz sa E0 := by
  refine vx_ofW (cc := bytes) (maxL := maxL) (ret := ret) hy rfl ?_
  intro p e s m args below meth c s₁ B hml htab hv
  obtain ⟨rfl, ⟨rfl, hP, hK, hD⟩, hT⟩ := hv
  rw [lg_entry_eq]
  exact body p e s m below meth c _ ⟨B.exec, B.bytes, hml, findClass_of_methodNamed B.named, fun w hw => atoms_spec (ws := wq (.code y bytes maxL ret)) B.pre w (List.mem_cons_of_mem _ hw)⟩ B.notSynchronized htab (lv_entry av hav) ⟨hK, hP, wl_DA hD, va_S.rf⟩ hT
section XT
variable {p : Program} {l : Launch} {e : Env} {R : Room} {s : State} {m : MethodId} {args : Array Value} {below : List Frame} {meth : Method} {c : Code} {H : Heap} {locs : List Loc} {cells slots : Nat} {Q : State → Prop}
variable {y : MethodName} {bytes cc : ByteArray} {maxL nL index : Nat} {ret : Option FieldType} {rm : Room} {own : String} {As rest : List Value} {pc : Nat} {ls : Array Slot}
variable {D : va_G} {tys : List (ClassId × FieldType)} {A : Nat → Prop} {H0 : Heap} {ad : Nat → Nat} {N : Nat} {w u : Nat → va_E} {sa : Nat → Nat} {E0 : String}
theorem x_XW (hw : WW D vwCl tys (xA ad N s.heap.size) s.heap ad N w s H locs) {t : State} (hal : s.vm.Alike t.vm) (hz : H.size ≤ t.heap.size) (hk : ∀ q, q < H.size → t.heap[q]? = H[q]?) : XW D tys ad N w s.heap.size E0 E0 s t :=
  ⟨rfl, hw.2.1.kept (fun k q hk' => hk q.1 (hw.2.1 k q hk').lt), va_K.moved hal hw.1, Nat.le_trans hw.2.2.2.1 hz, fun q h1 h2 => by rw [hk q (Nat.lt_of_lt_of_le h1 hw.2.2.2.1)]; exact hw.2.2.2.2.1 q h1 h2⟩
theorem x_sub (hw : WW D vwCl tys A H0 ad N w s H locs) (hA : ∀ q, H0.size ≤ q → A q) : ∀ q, xA ad N H.size q → A q := by
  intro q hq
  rcases hq with ⟨k, hk, rfl⟩ | hq
  · exact hw.2.2.1.2 k _ (wl_get hk rfl)
  · exact hA q (Nat.le_trans hw.2.2.2.1 hq)
/-- an instance call of a method that throws: its frame stands, with the exception over it -/
theorem x_runT (S : CallFix p m c cc nL s args wsL_law own) (hF : VF own index y bytes maxL ret As.length) (hw : WW D vwCl tys A s.heap ad N w s H locs) (hA : ∀ q, s.heap.size ≤ q → A q) (hT : TX sa A s) {k0 ci : Nat} {fs : List Value} {rC : vw_C} (hk0 : k0 < N) (he : w k0 = .inr (ci, fs)) (hc : vwCl[ci]? = some rC) (hcls : rC.1 = y.cls) (hM : MT l y (.code y bytes maxL ret) rm (.ref (ad k0) :: As) D tys ad N w H.size sa E0) (hR : RF R rm 1 6 maxL) (hsize : ls.size = nL) (hW : (rest.map fun v => v.category).sum ≤ 16) (hdg : decode cc pc = .ok (.invokevirtual index, 3)) (hf : cells + 1 ≤ R.cells ∧ slots + 6 ≤ R.slots) {st0 : List Value} (hst : st0 = As.reverse ++ .ref (ad k0) :: rest) :
    ∀ T : State, T.heap = H → Stand p l e R s m args below meth c T locs cells slots → ∃ (q : Addr) (T' : State) (L : List Loc) (ce : Cell), Stand p l e R s m args below meth c T' (locs ++ L) (cells + 1) (slots + 6) ∧ WW D vwCl tys A s.heap ad N w s T'.heap (locs ++ L) ∧ T'.heap[q]? = some ce ∧ ce.vm = .none ∧ s.vm.findClass E0 = some ce.cls ∧
      Steps p.tables e below (T.setTop (F0 m pc ls st0)) ((T'.setTop (F0 m pc ls rest)).pushFrame (.throwing q)) := by
  subst hst
  obtain ⟨hx, hb, hml, ho, hts⟩ := S
  obtain ⟨k1, k2, k3, k4, k5, hy, hd⟩ := hF
  obtain ⟨hrc, hrs, hfr, hlo⟩ := hR
  have hsub := x_sub hw hA
  have hbl : FrameBlind (va_Pc (.ref (ad k0) :: As) (fun U => cP D tys ad N w H.size U ∧ TX sa (xA ad N H.size) U)) := fun a U g mk q => ⟨q.1, ⟨q.2.1.1, q.2.1.2.1, va_K.moved (u := U) (U := U.calling g mk a) (Vm.Alike.refl U.vm) q.2.1.2.2.1, q.2.1.2.2.2⟩, q.2.2.calling⟩
  have hK := vx_back (bytes := bytes) (maxL := maxL) (ret := ret) (len := 3) (W9 := 16) (R := R) (p := p) (e := e) (below := below) (s := s) (sargs := args) hM hbl hrc hrs hfr hlo (wq_ride hts k1) List.mem_cons_self (ini_ride (hts _ k2))
  obtain ⟨cellB, hcB, hoB, hclB⟩ := va_recv hw.1 hw.2.1 hc (wl_get hk0 he)
  rw [hcls] at hclB
  intro T hTH X
  rcases vx_callV X hx (C := y.cls) (bytes := bytes) (maxL := maxL) (ret := ret) ho (hts _ k3) (hts _ k4) (hts _ k5) (hts _ k1) hy hK (by rw [hTH]; exact hcB) hoB hclB (g := F0 m pc ls (As.reverse ++ .ref (ad k0) :: rest)) rfl (hsize.trans hml.symm) (argsL := As) (rest := rest) (desc_len hd) rfl (by show 2 * 0 + _ ≤ 16; omega) (by rw [hb]; exact hdg)
    (fun vm₁ hW₁ => ⟨hf.1, hf.2, rfl, ⟨by show T.heap.size = _; rw [hTH], by show va_P _ _ _ T.heap; rw [hTH]; exact hw.2.1, va_K.moved (U := T.setVm vm₁) hW₁.alike hw.1, hw.2.2.1.weaken (fun _ _ _ _ => trivial)⟩, hT.to (U := T.setVm vm₁) hW₁ (show T.heap = H from hTH) (fun a h1 h2 => hw.2.2.2.2.1 a h1 h2) hsub⟩) with ⟨v, vm₁, ⟨U', l2, c2, s2⟩, hW₁, X', ⟨g', mk, t, L, e1, e2, hq, h1, hL, h2, h3⟩, st⟩ | ⟨q, vm₁, ⟨U', l2, c2, s2⟩, hW₁, X', ⟨g', mk, t, L, E, ce, e1, e2, hq, hce, hcv, hcl, h1, hL, h2, h3⟩, st⟩
  · exact hq.elim
  · dsimp only [Pt.U, Pt.locs, Pt.cells, Pt.slots] at X' e1 e2 h1 h2 h3 st hcl
    subst h1; subst h2; subst h3
    obtain ⟨rfl, hP, hKt, hz, hk⟩ := hq
    have hz' : H.size ≤ t.heap.size := by rw [← hTH]; exact hz
    have hk' : ∀ q : Nat, q < H.size → ¬ xA ad N H.size q → t.heap[q]? = H[q]? := by
      intro q h1 h2
      rw [← hTH] at h1 ⊢
      exact hk q h1 h2
    refine ⟨q, U', L, ce, X', ⟨hw.1, by rw [e1]; exact hP, hw.2.2.1, Nat.le_trans hw.2.2.2.1 (by rw [e1]; exact hz'), fun z h1 h2 => ?_, fun z hz9 => ?_⟩, by rw [e1]; exact hce, hcv, vx_cls hW₁ hcl, st⟩
    · rw [e1, hk' z (Nat.lt_of_lt_of_le h1 hw.2.2.2.1) (fun q9 => h2 (hsub z q9))]
      exact hw.2.2.2.2.1 z h1 h2
    · rcases List.mem_append.mp hz9 with h | h
      · exact hw.2.2.2.2.2 z h
      · exact hsub _ (hL z h)
/-- it goes on to the caller -/
theorem x_prop (S : CallFix p m c cc nL s args wsL_law own) (hF : VF own index y bytes maxL ret As.length) (hlocks : meth.locks = false) (htab : ∀ x ∈ c.exceptionTable.toList, False) (hw : WW D vwCl tys (xA ad N s.heap.size) s.heap ad N w s H locs) (hT : TX sa (xA ad N s.heap.size) s) {k0 ci : Nat} {fs : List Value} {rC : vw_C} (hk0 : k0 < N) (he : w k0 = .inr (ci, fs)) (hc : vwCl[ci]? = some rC) (hcls : rC.1 = y.cls) (hM : MT l y (.code y bytes maxL ret) rm (.ref (ad k0) :: As) D tys ad N w H.size sa E0) (hR : RF R rm 1 6 maxL) (hsize : ls.size = nL) (hW : (rest.map fun v => v.category).sum ≤ 16) (hdg : decode cc pc = .ok (.invokevirtual index, 3)) (hf : 1 ≤ R.cells ∧ 6 ≤ R.slots) {st0 : List Value} (hst : st0 = As.reverse ++ .ref (ad k0) :: rest) :
    W p l e R s m args below meth c H locs 0 0 (vx_MQ below (fun _ _ _ _ => False) (XW D tys ad N w s.heap.size E0) args s 1 6 (xA ad N s.heap.size)) (F0 m pc ls st0) := by
  intro T hTH X
  obtain ⟨q, T', L, ce, X', hw', hce, hcv, hcl, st⟩ := x_runT S hF hw (fun q h => Or.inr h) hT hk0 he hc hcls hM hR hsize hW hdg (cells := 0) (slots := 0) ⟨by omega, by omega⟩ hst T hTH X
  obtain ⟨t2, a1, b1⟩ := vx_out (Qc := fun _ _ _ _ => False) (XC := XW D tys ad N w s.heap.size E0) (mc := 1) (ms := 6) (free := xA ad N s.heap.size) (ls := ls) (rest := rest) (pc := pc) (fun x hx => (htab x hx).elim) hlocks hce hcv hcl (fun t ht hal => x_XW hw' hal (by rw [ht]; exact Nat.le_refl _) (fun q _ => by rw [ht])) hw'.2.2.2.2.2 (by omega) (by omega) T' rfl X'
  exact ⟨t2, st.trans a1, b1⟩
end XT
theorem at_IAE : ∀ w ∈ (vx_atS RX4 41 "java/lang/IllegalArgumentException" ["java/lang/RuntimeException", "java/lang/Exception"]).filter goodWord, w ∈ wsL_law := fun w h => by
  unfold wsL_law
  simp only [List.mem_append]
  exact Or.inl (Or.inl (Or.inr h))
theorem x_throwIAE {p : Program} {l : Launch} {e : Env} {R : Room} {s : State} {m : MethodId} {args : Array Value} {below : List Frame} {meth : Method} {c : Code} {H : Heap} {locs : List Loc} {cc : ByteArray} {nL : Nat} {rest : List Value} {pc : Nat} {ls : Array Slot} {D : va_G} {tys : List (ClassId × FieldType)} {ad : Nat → Nat} {N : Nat} {w : Nat → va_E} {sa : Nat → Nat} {is : Nat} {text : String}
    (hl0 : l.stackTraces = false) (S : CallFix p m c cc nL s args wsL_law RX4) (hlocks : meth.locks = false) (htab : ∀ x ∈ c.exceptionTable.toList, False) (hw : WW D vwCl tys (xA ad N s.heap.size) s.heap ad N w s H locs) (hT : TX sa (xA ad N s.heap.size) s) (hq : (is, text) ∈ strs) (hsize : ls.size = nL)
    (d0 : decode cc pc = .ok (.new 37, 3)) (d3 : decode cc (pc + 3) = .ok (.dup, 1)) (d4 : decode cc (pc + 4) = .ok (.ldc is, 2)) (d6 : decode cc (pc + 6) = .ok (.invokespecial 41, 3)) (d9 : decode cc (pc + 9) = .ok (.athrow, 1))
    (hRf : 5 < R.frames) (hRl : (rest.map fun v => v.category).sum + 82 ≤ R.locals) (hRc : 1 ≤ R.cells ∧ 6 ≤ R.slots) :
    W p l e R s m args below meth c H locs 0 0 (vx_MQ below (fun _ _ _ _ => False) (XW D tys ad N w s.heap.size "java/lang/IllegalArgumentException") args s 1 6 (xA ad N s.heap.size)) (F0 m pc ls rest) := by
  obtain ⟨hx, hb, hml, hown, hts⟩ := S
  refine vx_throwS (names := ["java/lang/RuntimeException", "java/lang/Exception"]) (A := xA ad N s.heap.size) (sa := sa is) hx hb hl0 hown (by decide +kernel) (by decide +kernel) (hts (.classLink RX4 37 "java/lang/IllegalArgumentException") (List.mem_of_getElem? (i := 79) (by decide +kernel))) (hts (.initialized "java/lang/IllegalArgumentException") (List.mem_of_getElem? (i := 80) (by decide +kernel))) (hT.2.2.1 (is, text) hq)
    (vx_hat (L := vx_atS RX4 41 "java/lang/IllegalArgumentException" ["java/lang/RuntimeException", "java/lang/Exception"]) (B := [.castable "java/lang/IllegalArgumentException" "java/lang/IllegalArgumentException", .declares ⟨"java/lang/RuntimeException", "<init>", "(Ljava/lang/String;)V"⟩, .declares ⟨"java/lang/Exception", "<init>", "(Ljava/lang/String;)V"⟩, .declares ⟨"java/lang/Throwable", "<init>", "(Ljava/lang/String;)V"⟩]) (fun w h => hts w (at_IAE w h)) (by decide +kernel) (vx_c (va_Nw.use rfl (hT.2.2.2.1 _ (by decide))) (vx_c (va_Nw.use rfl (hT.2.2.2.2 _ (by decide))) (vx_c (va_Nw.use rfl (hT.2.2.2.2 _ (by decide))) (vx_c (va_Nw.use rfl (hT.2.2.2.2 _ (by decide))) vx_n)))))
    (by decide +kernel) hT.1 hT.2.1 hw.2.2.2 (hsize.trans hml.symm) d0 d3 d4 d6 d9 (fun x hx => (htab x hx).elim) hRf (by simpa using hRl) (by omega) (by omega) hlocks (fun t hal hz hk => x_XW hw hal hz hk) hw.2.2.2.2.2 (by omega) (by omega)
theorem at_ISE : ∀ w ∈ (vx_atS RX4 76 "java/lang/IllegalStateException" ["java/lang/RuntimeException", "java/lang/Exception"]).filter goodWord, w ∈ wsL_law := fun w h => by
  unfold wsL_law
  simp only [List.mem_append]
  exact Or.inl (Or.inr h)
theorem x_throwISE {p : Program} {l : Launch} {e : Env} {R : Room} {s : State} {m : MethodId} {args : Array Value} {below : List Frame} {meth : Method} {c : Code} {H : Heap} {locs : List Loc} {cc : ByteArray} {nL : Nat} {rest : List Value} {pc : Nat} {ls : Array Slot} {D : va_G} {tys : List (ClassId × FieldType)} {ad : Nat → Nat} {N : Nat} {w : Nat → va_E} {sa : Nat → Nat} {is : Nat} {text : String}
    (hl0 : l.stackTraces = false) (S : CallFix p m c cc nL s args wsL_law RX4) (hlocks : meth.locks = false) (htab : ∀ x ∈ c.exceptionTable.toList, False) (hw : WW D vwCl tys (xA ad N s.heap.size) s.heap ad N w s H locs) (hT : TX sa (xA ad N s.heap.size) s) (hq : (is, text) ∈ strs) (hsize : ls.size = nL)
    (d0 : decode cc pc = .ok (.new 72, 3)) (d3 : decode cc (pc + 3) = .ok (.dup, 1)) (d4 : decode cc (pc + 4) = .ok (.ldc is, 2)) (d6 : decode cc (pc + 6) = .ok (.invokespecial 76, 3)) (d9 : decode cc (pc + 9) = .ok (.athrow, 1))
    (hRf : 5 < R.frames) (hRl : (rest.map fun v => v.category).sum + 82 ≤ R.locals) (hRc : 1 ≤ R.cells ∧ 6 ≤ R.slots) :
    W p l e R s m args below meth c H locs 0 0 (vx_MQ below (fun _ _ _ _ => False) (XW D tys ad N w s.heap.size "java/lang/IllegalStateException") args s 1 6 (xA ad N s.heap.size)) (F0 m pc ls rest) := by
  obtain ⟨hx, hb, hml, hown, hts⟩ := S
  refine vx_throwS (names := ["java/lang/RuntimeException", "java/lang/Exception"]) (A := xA ad N s.heap.size) (sa := sa is) hx hb hl0 hown (by decide +kernel) (by decide +kernel) (hts (.classLink RX4 72 "java/lang/IllegalStateException") (List.mem_of_getElem? (i := 125) (by decide +kernel))) (hts (.initialized "java/lang/IllegalStateException") (List.mem_of_getElem? (i := 126) (by decide +kernel))) (hT.2.2.1 (is, text) hq)
    (vx_hat (L := vx_atS RX4 76 "java/lang/IllegalStateException" ["java/lang/RuntimeException", "java/lang/Exception"]) (B := [.castable "java/lang/IllegalStateException" "java/lang/IllegalStateException", .declares ⟨"java/lang/RuntimeException", "<init>", "(Ljava/lang/String;)V"⟩, .declares ⟨"java/lang/Exception", "<init>", "(Ljava/lang/String;)V"⟩, .declares ⟨"java/lang/Throwable", "<init>", "(Ljava/lang/String;)V"⟩]) (fun w h => hts w (at_ISE w h)) (by decide +kernel) (vx_c (va_Nw.use rfl (hT.2.2.2.1 _ (by decide))) (vx_c (va_Nw.use rfl (hT.2.2.2.2 _ (by decide))) (vx_c (va_Nw.use rfl (hT.2.2.2.2 _ (by decide))) (vx_c (va_Nw.use rfl (hT.2.2.2.2 _ (by decide))) vx_n)))))
    (by decide +kernel) hT.1 hT.2.1 hw.2.2.2 (hsize.trans hml.symm) d0 d3 d4 d6 d9 (fun x hx => (htab x hx).elim) hRf (by simpa using hRl) (by omega) (by omega) hlocks (fun t hal hz hk => x_XW hw hal hz hk) hw.2.2.2.2.2 (by omega) (by omega)
theorem at_UOE : ∀ w ∈ (vx_atS RX4 194 "java/lang/UnsupportedOperationException" ["java/lang/RuntimeException", "java/lang/Exception"]).filter goodWord, w ∈ wsL_law := fun w h => by
  unfold wsL_law
  simp only [List.mem_append]
  exact Or.inr h
theorem x_throwUOE {p : Program} {l : Launch} {e : Env} {R : Room} {s : State} {m : MethodId} {args : Array Value} {below : List Frame} {meth : Method} {c : Code} {H : Heap} {locs : List Loc} {cc : ByteArray} {nL : Nat} {rest : List Value} {pc : Nat} {ls : Array Slot} {D : va_G} {tys : List (ClassId × FieldType)} {ad : Nat → Nat} {N : Nat} {w : Nat → va_E} {sa : Nat → Nat} {is : Nat} {text : String}
    (hl0 : l.stackTraces = false) (S : CallFix p m c cc nL s args wsL_law RX4) (hlocks : meth.locks = false) (htab : ∀ x ∈ c.exceptionTable.toList, False) (hw : WW D vwCl tys (xA ad N s.heap.size) s.heap ad N w s H locs) (hT : TX sa (xA ad N s.heap.size) s) (hq : (is, text) ∈ strs) (hsize : ls.size = nL)
    (d0 : decode cc pc = .ok (.new 190, 3)) (d3 : decode cc (pc + 3) = .ok (.dup, 1)) (d4 : decode cc (pc + 4) = .ok (.ldc is, 2)) (d6 : decode cc (pc + 6) = .ok (.invokespecial 194, 3)) (d9 : decode cc (pc + 9) = .ok (.athrow, 1))
    (hRf : 5 < R.frames) (hRl : (rest.map fun v => v.category).sum + 82 ≤ R.locals) (hRc : 1 ≤ R.cells ∧ 6 ≤ R.slots) :
    W p l e R s m args below meth c H locs 0 0 (vx_MQ below (fun _ _ _ _ => False) (XW D tys ad N w s.heap.size "java/lang/UnsupportedOperationException") args s 1 6 (xA ad N s.heap.size)) (F0 m pc ls rest) := by
  obtain ⟨hx, hb, hml, hown, hts⟩ := S
  refine vx_throwS (names := ["java/lang/RuntimeException", "java/lang/Exception"]) (A := xA ad N s.heap.size) (sa := sa is) hx hb hl0 hown (by decide +kernel) (by decide +kernel) (hts (.classLink RX4 190 "java/lang/UnsupportedOperationException") (List.mem_of_getElem? (i := 531) (by decide +kernel))) (hts (.initialized "java/lang/UnsupportedOperationException") (List.mem_of_getElem? (i := 532) (by decide +kernel))) (hT.2.2.1 (is, text) hq)
    (vx_hat (L := vx_atS RX4 194 "java/lang/UnsupportedOperationException" ["java/lang/RuntimeException", "java/lang/Exception"]) (B := [.castable "java/lang/UnsupportedOperationException" "java/lang/UnsupportedOperationException", .declares ⟨"java/lang/RuntimeException", "<init>", "(Ljava/lang/String;)V"⟩, .declares ⟨"java/lang/Exception", "<init>", "(Ljava/lang/String;)V"⟩, .declares ⟨"java/lang/Throwable", "<init>", "(Ljava/lang/String;)V"⟩]) (fun w h => hts w (at_UOE w h)) (by decide +kernel) (vx_c (va_Nw.use rfl (hT.2.2.2.1 _ (by decide))) (vx_c (va_Nw.use rfl (hT.2.2.2.2 _ (by decide))) (vx_c (va_Nw.use rfl (hT.2.2.2.2 _ (by decide))) (vx_c (va_Nw.use rfl (hT.2.2.2.2 _ (by decide))) vx_n)))))
    (by decide +kernel) hT.1 hT.2.1 hw.2.2.2 (hsize.trans hml.symm) d0 d3 d4 d6 d9 (fun x hx => (htab x hx).elim) hRf (by simpa using hRl) (by omega) (by omega) hlocks (fun t hal hz hk => x_XW hw hal hz hk) hw.2.2.2.2.2 (by omega) (by omega)
