/-! worlds by number: cell k lies at ad k and holds w k -/
def wl (ad : Nat → Nat) (N : Nat) (w : Nat → va_E) : va_W := (List.range N).map fun k => (ad k, w k)
theorem wl_len {ad : Nat → Nat} {N : Nat} {w : Nat → va_E} : (wl ad N w).length = N := by simp [wl]
theorem wl_get {ad : Nat → Nat} {N k : Nat} {w : Nat → va_E} {e : va_E} (h : k < N) (he : w k = e) : (wl ad N w)[k]? = some (ad k, e) := by
  unfold wl
  rw [List.getElem?_map, List.getElem?_range h, ← he]
  rfl
theorem wl_inv {ad : Nat → Nat} {N k : Nat} {w : Nat → va_E} {q : Nat × va_E} (h : (wl ad N w)[k]? = some q) : k < N ∧ q = (ad k, w k) := by
  have hk : k < N := by
    have := (List.getElem?_eq_some_iff.mp h).1
    rwa [wl_len] at this
  refine ⟨hk, ?_⟩
  rw [wl_get hk rfl] at h
  exact (Option.some.inj h).symm
theorem wl_set {ad : Nat → Nat} {N k : Nat} {w : Nat → va_E} {e : va_E} (h : k < N) : (wl ad N w).set k (ad k, e) = wl ad N (va_up w k e) := by
  apply List.ext_getElem?
  intro i
  by_cases hi : i < N
  · rw [wl_get hi rfl, List.getElem?_set]
    by_cases hk : k = i
    · subst hk
      rw [if_pos rfl, if_pos (by rw [wl_len]; exact h), va_up_self]
    · rw [if_neg hk, wl_get hi rfl, va_up_ne _ _ (fun q => hk q.symm)]
  · rw [List.getElem?_eq_none (by rw [List.length_set, wl_len]; omega), List.getElem?_eq_none (by rw [wl_len]; omega)]
theorem wl_push {ad : Nat → Nat} {N a : Nat} {w : Nat → va_E} {e : va_E} : wl ad N w ++ [(a, e)] = wl (va_up ad N a) (N + 1) (va_up w N e) := by
  apply List.ext_getElem?
  intro i
  by_cases hi : i < N
  · rw [List.getElem?_append_left (by rw [wl_len]; exact hi), wl_get hi rfl, wl_get (by omega) rfl, va_up_ne _ _ (by omega), va_up_ne _ _ (by omega)]
  · rw [List.getElem?_append_right (by rw [wl_len]; omega), wl_len]
    by_cases h2 : i = N
    · subst h2
      rw [Nat.sub_self, wl_get (by omega) rfl, va_up_self, va_up_self]
      rfl
    · rw [List.getElem?_eq_none (by simp; omega), List.getElem?_eq_none (by rw [wl_len]; omega)]
/-- the world, whole: tables, cells, their places, what has changed -/
def WW (D : va_G) (cl : List vw_C) (tys : List (ClassId × FieldType)) (A : Nat → Prop) (H0 : Heap) (ad : Nat → Nat) (N : Nat) (w : Nat → va_E) (s : State) (H : Heap) (locs : List Loc) : Prop :=
  va_K D cl tys s ∧ va_P D cl (wl ad N w) H ∧ va_D A (wl ad N w) ∧ va_S A H0 H locs
theorem WW.inj {D : va_G} {cl : List vw_C} {tys : List (ClassId × FieldType)} {A : Nat → Prop} {H0 : Heap} {ad : Nat → Nat} {N : Nat} {w : Nat → va_E} {s : State} {H : Heap} {locs : List Loc} (h : WW D cl tys A H0 ad N w s H locs) {i j : Nat} (hi : i < N) (hj : j < N) (e : ad i = ad j) : i = j :=
  h.2.2.1.1 i j _ _ (wl_get hi rfl) (wl_get hj rfl) e
section XR
variable {p : Program} {l : Launch} {e : Env} {R : Room} {s : State} {m : MethodId} {args : Array Value} {below : List Frame} {meth : Method} {c : Code} {H : Heap} {locs : List Loc} {cells slots : Nat} {Q : State → Prop}
variable {cc : ByteArray} {pc : Nat} {ls : Array Slot} {rest : List Value} {D : va_G} {cl : List vw_C} {A : Nat → Prop} {tys : List (ClassId × FieldType)} {H0 : Heap} {ad : Nat → Nat} {N : Nat} {w : Nat → va_E}
theorem x_get (hexec : p.tables.exec = Jvm.exec) (hb : c.code = cc) {own ref C : String} {T : u_T} {NF ci index : Nat} {Ts : List Cond} (hts : ∀ w ∈ Ts, w.before args s = true) (hin : ∀ w ∈ u_ws C T NF, w ∈ Ts) (hown : s.vm.findClass own = some m.cls) (hw : WW D cl tys A H0 ad N w s H locs) {k0 : Nat} {fs : List Value} (hk0 : k0 < N) (he : w k0 = .inr (ci, fs)) (hc : cl[ci]? = some (C, T, NF)) (k : Nat) (hk : k < NF) (hlink : (Cond.fieldLink own index ref (T k).2.1 (T k).2.2.1).before args s = true) (hsame : ∀ x, s.fieldFound? (T k).1 (T k).2.1 (T k).2.2.1 = some x → s.fieldFound? ref (T k).2.1 (T k).2.2.1 = some x) {v : Value} (hv : fs[k]? = some v) (hdg : decode cc pc = .ok (.getfield index, 3))
    (kk : W p l e R s m args below meth c H locs cells slots Q (F0 m (pc + 3) ls (v :: rest))) : W p l e R s m args below meth c H locs cells slots Q (F0 m pc ls (.ref (ad k0) :: rest)) :=
  va_get hexec hb hts hin hown hw.1 hw.2.1 k0 (wl_get hk0 he) hc k hk hlink hsame hv hdg kk
theorem x_put (hexec : p.tables.exec = Jvm.exec) (hb : c.code = cc) {own ref C : String} {T : u_T} {NF ci index : Nat} {Ts : List Cond} (hts : ∀ w ∈ Ts, w.before args s = true) (hin : ∀ w ∈ u_ws C T NF, w ∈ Ts) (ty0 : Nat → FieldType) (hty : ∀ k, k < NF → parseFieldDescriptor (T k).2.2.1 = some (ty0 k)) (hnm : ∀ a, a < NF → ∀ b, b < NF → a ≠ b → (T a).2.1 ≠ (T b).2.1) (hown : s.vm.findClass own = some m.cls) (hw : WW D cl tys A H0 ad N w s H locs) {k0 : Nat} {fs : List Value} (hk0 : k0 < N) (he : w k0 = .inr (ci, fs)) (hc : cl[ci]? = some (C, T, NF)) (k : Nat) (hk : k < NF) (hlink : (Cond.fieldLink own index ref (T k).2.1 (T k).2.2.1).before args s = true) (hsame : ∀ x, s.fieldFound? (T k).1 (T k).2.1 (T k).2.2.1 = some x → s.fieldFound? ref (T k).2.1 (T k).2.2.1 = some x) (hfin : (T k).2.2.2 = false) {ty : FieldType} {v : Value} (hd : parseFieldDescriptor (T k).2.2.1 = some ty) (hn : narrow ty v = v) (hfit : fits ty v = true) (hl : k < fs.length) (hdg : decode cc pc = .ok (.putfield index, 3))
    (kk : ∀ (w1 : Nat → va_E) (H1 : Heap) (locs1 : List Loc), w1 = va_up w k0 (.inr (ci, fs.set k v)) → WW D cl tys A H0 ad N w1 s H1 locs1 → W p l e R s m args below meth c H1 locs1 cells slots Q (F0 m (pc + 3) ls rest)) : W p l e R s m args below meth c H locs cells slots Q (F0 m pc ls (v :: .ref (ad k0) :: rest)) := by
  refine va_put hexec hb hts hin ty0 hty hnm hown hw.1 hw.2.1 hw.2.2.1 hw.2.2.2 k0 (wl_get hk0 he) hc k hk hlink hsame hfin hd hn hfit hl hdg (fun H1 locs1 hP hD hS => ?_)
  rw [wl_set hk0] at hP hD
  exact kk _ H1 locs1 rfl ⟨hw.1, hP, hD, hS⟩
theorem x_iald (hexec : p.tables.exec = Jvm.exec) (hb : c.code = cc) (hw : WW D cl tys A H0 ad N w s H locs) {k0 : Nat} (hk0 : k0 < N) (t0 : Nat) {cA : ClassId} {n : Nat} {f : Nat → Int32} (he : w k0 = .inl (cA, n, .inl f)) (ht : tys[t0]? = some (cA, .int)) {j : Nat} (hj : j < n) (hn : n < 2 ^ 31) {v : Int32} (hv : f j = v) (hdg : decode cc pc = .ok (.iaload, 1))
    (kk : W p l e R s m args below meth c H locs cells slots Q (F0 m (pc + 1) ls (.int v :: rest))) : W p l e R s m args below meth c H locs cells slots Q (F0 m pc ls (.int (nI j) :: .ref (ad k0) :: rest)) := by
  refine va_iald hexec hb hw.1 hw.2.1 k0 t0 (wl_get hk0 he) ht (vp_in_nI hj hn) hdg ?_
  rw [nI_clamp (by omega), hv]
  exact kk
theorem x_zald (hexec : p.tables.exec = Jvm.exec) (hb : c.code = cc) (hw : WW D cl tys A H0 ad N w s H locs) {k0 : Nat} (hk0 : k0 < N) (t0 : Nat) {cA : ClassId} {n : Nat} {f : Nat → Int32} (he : w k0 = .inl (cA, n, .inl f)) (ht : tys[t0]? = some (cA, .boolean)) {j : Nat} (hj : j < n) (hn : n < 2 ^ 31) {v : Int32} (hv : f j = v) (hdg : decode cc pc = .ok (.baload, 1))
    (kk : W p l e R s m args below meth c H locs cells slots Q (F0 m (pc + 1) ls (.int v :: rest))) : W p l e R s m args below meth c H locs cells slots Q (F0 m pc ls (.int (nI j) :: .ref (ad k0) :: rest)) := by
  refine va_zald hexec hb hw.1 hw.2.1 k0 t0 (wl_get hk0 he) ht (vp_in_nI hj hn) hdg ?_
  rw [nI_clamp (by omega), hv]
  exact kk
theorem x_lald (hexec : p.tables.exec = Jvm.exec) (hb : c.code = cc) (hw : WW D cl tys A H0 ad N w s H locs) {k0 : Nat} (hk0 : k0 < N) (t0 : Nat) {cA : ClassId} {n : Nat} {f : Nat → Int64} (he : w k0 = .inl (cA, n, .inr (.inl f))) (ht : tys[t0]? = some (cA, .long)) {j : Nat} (hj : j < n) (hn : n < 2 ^ 31) {v : Int64} (hv : f j = v) (hdg : decode cc pc = .ok (.laload, 1))
    (kk : W p l e R s m args below meth c H locs cells slots Q (F0 m (pc + 1) ls (.long v :: rest))) : W p l e R s m args below meth c H locs cells slots Q (F0 m pc ls (.int (nI j) :: .ref (ad k0) :: rest)) := by
  refine va_lald hexec hb hw.1 hw.2.1 k0 t0 (wl_get hk0 he) ht (vp_in_nI hj hn) hdg ?_
  rw [nI_clamp (by omega), hv]
  exact kk
theorem x_aald (hexec : p.tables.exec = Jvm.exec) (hb : c.code = cc) (hw : WW D cl tys A H0 ad N w s H locs) {k0 : Nat} (hk0 : k0 < N) (t0 : Nat) {cA : ClassId} {C : String} {n : Nat} {f : Nat → Option Nat} (he : w k0 = .inl (cA, n, .inr (.inr (.inr (.inr f))))) (ht : tys[t0]? = some (cA, .object C)) {j : Nat} (hj : j < n) (hn : n < 2 ^ 31) {v : Nat} (hv : f j = some v) (hdg : decode cc pc = .ok (.aaload, 1))
    (kk : W p l e R s m args below meth c H locs cells slots Q (F0 m (pc + 1) ls (.ref v :: rest))) : W p l e R s m args below meth c H locs cells slots Q (F0 m pc ls (.int (nI j) :: .ref (ad k0) :: rest)) := by
  refine va_aldq hexec hb hw.1 hw.2.1 k0 t0 (wl_get hk0 he) ht (vp_in_nI hj hn) hdg ?_
  rw [nI_clamp (by omega), hv]
  exact kk
theorem x_iast (hexec : p.tables.exec = Jvm.exec) (hb : c.code = cc) (hw : WW D cl tys A H0 ad N w s H locs) {k0 : Nat} (hk0 : k0 < N) (t0 : Nat) {cA : ClassId} {n : Nat} {f : Nat → Int32} (he : w k0 = .inl (cA, n, .inl f)) (ht : tys[t0]? = some (cA, .int)) {j : Nat} {x : Int32} (hj : j < n) (hn : n < 2 ^ 31) (hdg : decode cc pc = .ok (.iastore, 1))
    (kk : ∀ (w1 : Nat → va_E) (H1 : Heap) (locs1 : List Loc), w1 = va_up w k0 (.inl (cA, n, .inl (upd f j x))) → WW D cl tys A H0 ad N w1 s H1 locs1 → W p l e R s m args below meth c H1 locs1 cells slots Q (F0 m (pc + 1) ls rest)) : W p l e R s m args below meth c H locs cells slots Q (F0 m pc ls (.int x :: .int (nI j) :: .ref (ad k0) :: rest)) := by
  refine va_iast hexec hb hw.1 hw.2.1 hw.2.2.1 hw.2.2.2 k0 t0 (wl_get hk0 he) ht (vp_in_nI hj hn) hdg (fun H1 locs1 hP hD hS => ?_)
  rw [wl_set hk0, nI_clamp (by omega)] at hP hD
  exact kk _ H1 locs1 rfl ⟨hw.1, hP, hD, hS⟩
theorem x_zast (hexec : p.tables.exec = Jvm.exec) (hb : c.code = cc) (hw : WW D cl tys A H0 ad N w s H locs) {k0 : Nat} (hk0 : k0 < N) (t0 : Nat) {cA : ClassId} {n : Nat} {f : Nat → Int32} (he : w k0 = .inl (cA, n, .inl f)) (ht : tys[t0]? = some (cA, .boolean)) {j : Nat} {x : Int32} (hj : j < n) (hn : n < 2 ^ 31) (hx : vp_nar .boolean x = x) (hdg : decode cc pc = .ok (.bastore, 1))
    (kk : ∀ (w1 : Nat → va_E) (H1 : Heap) (locs1 : List Loc), w1 = va_up w k0 (.inl (cA, n, .inl (upd f j x))) → WW D cl tys A H0 ad N w1 s H1 locs1 → W p l e R s m args below meth c H1 locs1 cells slots Q (F0 m (pc + 1) ls rest)) : W p l e R s m args below meth c H locs cells slots Q (F0 m pc ls (.int x :: .int (nI j) :: .ref (ad k0) :: rest)) := by
  refine va_zast hexec hb hw.1 hw.2.1 hw.2.2.1 hw.2.2.2 k0 t0 (wl_get hk0 he) ht (vp_in_nI hj hn) hdg (fun H1 locs1 hP hD hS => ?_)
  rw [wl_set hk0, nI_clamp (by omega), hx] at hP hD
  exact kk _ H1 locs1 rfl ⟨hw.1, hP, hD, hS⟩
theorem x_last (hexec : p.tables.exec = Jvm.exec) (hb : c.code = cc) (hw : WW D cl tys A H0 ad N w s H locs) {k0 : Nat} (hk0 : k0 < N) (t0 : Nat) {cA : ClassId} {n : Nat} {f : Nat → Int64} (he : w k0 = .inl (cA, n, .inr (.inl f))) (ht : tys[t0]? = some (cA, .long)) {j : Nat} {x : Int64} (hj : j < n) (hn : n < 2 ^ 31) (hdg : decode cc pc = .ok (.lastore, 1))
    (kk : ∀ (w1 : Nat → va_E) (H1 : Heap) (locs1 : List Loc), w1 = va_up w k0 (.inl (cA, n, .inr (.inl (vp_updL f j x)))) → WW D cl tys A H0 ad N w1 s H1 locs1 → W p l e R s m args below meth c H1 locs1 cells slots Q (F0 m (pc + 1) ls rest)) : W p l e R s m args below meth c H locs cells slots Q (F0 m pc ls (.long x :: .int (nI j) :: .ref (ad k0) :: rest)) := by
  refine va_last hexec hb hw.1 hw.2.1 hw.2.2.1 hw.2.2.2 k0 t0 (wl_get hk0 he) ht (vp_in_nI hj hn) hdg (fun H1 locs1 hP hD hS => ?_)
  rw [wl_set hk0, nI_clamp (by omega)] at hP hD
  exact kk _ H1 locs1 rfl ⟨hw.1, hP, hD, hS⟩
end XR
