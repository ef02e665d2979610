/-! cells made one behind the other: cell k lies at b0 + k -/
def adn (b0 : Nat) : Nat → Nat := fun k => b0 + k
theorem adn_D {A : Nat → Prop} {b0 N : Nat} {u : Nat → va_E} (h : ∀ k, k < N → A (b0 + k)) : va_D A (wl (adn b0) N u) := by
  refine ⟨fun i j p q hp hq e => ?_, fun k q hk => ?_⟩
  · obtain ⟨h1, rfl⟩ := wl_inv hp
    obtain ⟨h2, rfl⟩ := wl_inv hq
    exact Nat.add_left_cancel e
  · obtain ⟨h1, rfl⟩ := wl_inv hk
    exact h k h1
theorem wl_snoc {ad : Nat → Nat} {N : Nat} {w : Nat → va_E} {e : va_E} : wl ad N w ++ [(ad N, e)] = wl ad (N + 1) (va_up w N e) := by
  rw [wl_push, va_up_id ad rfl]
section XN
variable {p : Program} {l : Launch} {e : Env} {R : Room} {s : State} {m : MethodId} {args : Array Value} {below : List Frame} {meth : Method} {c : Code} {H : Heap} {locs : List Loc} {cells slots : Nat} {Q : State → Prop}
variable {cc : ByteArray} {pc : Nat} {ls : Array Slot} {rest : List Value} {D : va_G} {cl : List vw_C} {A : Nat → Prop} {tys : List (ClassId × FieldType)} {H0 : Heap} {ad : Nat → Nat} {N : Nat} {w : Nat → va_E}
theorem x_push (hw : WW D cl tys A H0 ad N w s H locs) (hA : ∀ q, H0.size ≤ q → A q) (hsz : H.size = ad N) {H1 : Heap} {e0 : va_E} (z1 : H1.size = ad N + 1) (o1 : ∀ q, q < ad N → H1[q]? = H[q]?) (hat : va_at D cl (ad N, e0) H1) : WW D cl tys A H0 ad (N + 1) (va_up w N e0) s H1 locs := by
  obtain ⟨hK, hP, hD, hS⟩ := hw
  have hk : ∀ (k : Nat) (x : Nat × va_E), (wl ad N w)[k]? = some x → H1[x.1]? = H[x.1]? := fun k x hx => o1 x.1 (by rw [← hsz]; exact (hP k x hx).lt)
  have hle : H0.size ≤ ad N := by rw [← hsz]; exact hS.1
  refine ⟨hK, ?_, ?_, ?_, ?_, hS.2.2⟩
  · rw [← wl_snoc]
    refine (hP.kept hk).app (fun k x hx => ?_)
    have hz : k < 1 := (List.getElem?_eq_some_iff.mp hx).1
    rw [show k = 0 by omega] at hx
    cases hx
    exact hat
  · rw [← wl_snoc]
    exact hD.push hP hsz.symm (hA _ hle)
  · omega
  · intro x h1 h2
    exact (o1 x (by omega)).trans (hS.2.1 x h1 h2)
theorem x_newa (hexec : p.tables.exec = Jvm.exec) (hb : c.code = cc) {atype : ArrayType} {ty : FieldType} (hty : newarray.typeOf atype = ty) (harr : (Cond.arrayClass ty).before args s = true) (hw : WW D cl tys A H0 ad N w s H locs) (hA : ∀ q, H0.size ≤ q → A q) (hsz : H.size = ad N) {N2 : Nat} (hN2 : N2 = N + 1) {cA : ClassId} (t0 : Nat) (ht : tys[t0]? = some (cA, ty))
    {n : Nat} {a0 : vp_A} (ha : ∀ cA : ClassId, vp_cell cA a0 = arrV cA n (fun _ => defaultValue ty)) (hn : n < 2 ^ 31) (hbytes : n * componentBytes ty ≤ 536870912) (hcells : cells + 1 ≤ R.cells) (hslots : slots + n ≤ R.slots) (hdg : decode cc pc = .ok (.newarray atype, 2))
    (kk : ∀ (w1 : Nat → va_E) (H1 : Heap), w1 = va_up w N (.inl (cA, a0)) → WW D cl tys A H0 ad N2 w1 s H1 locs →
      W p l e R s m args below meth c H1 locs (cells + 1) (slots + n) Q (F0 m (pc + 2) ls (.ref (ad N) :: rest))) : W p l e R s m args below meth c H locs cells slots Q (F0 m pc ls (.int (nI n) :: rest)) := by
  subst hN2
  subst hty
  have h2 : s.vm.findClass ("[" ++ (newarray.typeOf atype).toString) = some cA := by
    have h := (hw.1.2 t0 _ ht).2
    cases atype <;> exact h
  refine va_newaK hexec hb harr rfl hdg rfl (nI_pos hn) (nI_clamp hn) hbytes hcells hslots hsz fun H1 cB e1 z1 o1 hAr hNm => ?_
  cases hNm.symm.trans h2
  refine kk _ H1 rfl (x_push hw hA hsz z1 o1 ?_)
  show H1[ad N]? = some (vp_cell _ _)
  rw [ha]
  exact e1
theorem x_newq (hexec : p.tables.exec = Jvm.exec) (hb : c.code = cc) {own C : String} {index : Nat} (hown : s.vm.findClass own = some m.cls) (hclink : (Cond.classLink own index C).before args s = true) (hover : va_AO C s) (hw : WW D cl tys A H0 ad N w s H locs) (hA : ∀ q, H0.size ≤ q → A q) (hsz : H.size = ad N) {N2 : Nat} (hN2 : N2 = N + 1) {cA : ClassId} (t0 : Nat) (ht : tys[t0]? = some (cA, .object C))
    {n : Nat} (hn : n < 2 ^ 31) (hbytes : n * 4 ≤ 536870912) (hcells : cells + 1 ≤ R.cells) (hslots : slots + n ≤ R.slots) (hdg : decode cc pc = .ok (.anewarray index, 3))
    (kk : ∀ (w1 : Nat → va_E) (H1 : Heap), w1 = va_up w N (.inl (cA, n, .inr (.inr (.inr (.inr (fun _ => none)))))) → WW D cl tys A H0 ad N2 w1 s H1 locs →
      W p l e R s m args below meth c H1 locs (cells + 1) (slots + n) Q (F0 m (pc + 3) ls (.ref (ad N) :: rest))) : W p l e R s m args below meth c H locs cells slots Q (F0 m pc ls (.int (nI n) :: rest)) := by
  subst hN2
  obtain ⟨kA2, comp2, g2, g3, g4, g1⟩ := (hw.1.2 t0 _ ht).2
  have hcl : (nI n).toNatClampNeg = n := nI_clamp hn
  have hbytes' : (nI n).toNatClampNeg * 4 ≤ 536870912 := by rw [hcl]; exact hbytes
  have hslots' : slots + (nI n).toNatClampNeg ≤ R.slots := by rw [hcl]; exact hslots
  refine W.anew hexec hb hown hclink (va_AO.use hover) rfl hdg rfl (nI_pos hn) hbytes' hcells hslots' fun cB kA comp f1 f2 f3 f4 => ?_
  cases f1.symm.trans g1
  rw [hcl, hsz]
  generalize hH1 : H.push ({ cls := cA, slots := Array.replicate n .null, vm := .none } : Cell) = H1
  have z1 : H1.size = ad N + 1 := by rw [← hH1, Array.size_push, hsz]
  have e1 : H1[ad N]? = some (arrV cA n (fun _ => .null)) := by rw [← hH1, ← hsz, Array.getElem?_push_size, ← arrV_new]
  have o1 : ∀ q : Nat, q < ad N → H1[q]? = H[q]? := fun q hq => by rw [← hH1, Array.getElem?_push, if_neg (Nat.ne_of_lt (by rw [hsz]; exact hq))]
  refine kk _ H1 rfl (x_push hw hA hsz z1 o1 ?_)
  show H1[ad N]? = some (vp_cell _ _)
  rw [vp_cell_q]
  exact e1
theorem x_new (hexec : p.tables.exec = Jvm.exec) (hb : c.code = cc) {own C : String} {T : u_T} {NF ci index : Nat} {Ts : List Cond} (hts : ∀ w ∈ Ts, w.before args s = true) (hin : ∀ w ∈ u_ws C T NF, w ∈ Ts) (ty : Nat → FieldType) (hty : ∀ k, k < NF → parseFieldDescriptor (T k).2.2.1 = some (ty k)) (hown : s.vm.findClass own = some m.cls) (hcl : (Cond.classLink own index C).before args s = true) (hinst : (Cond.instantiable C NF).before args s = true) (hini : (Cond.initialized C).before args s = true)
    (hw : WW D cl tys A H0 ad N w s H locs) (hA : ∀ q, H0.size ≤ q → A q) (hsz : H.size = ad N) {N2 : Nat} (hN2 : N2 = N + 1) (hc : cl[ci]? = some (C, T, NF)) {fs : List Value} (hfs : ∀ j, j < NF → defaultValue (ty j) = vp_V fs j) (hcells : cells + 1 ≤ R.cells) (hslots : slots + NF ≤ R.slots) (hdg : decode cc pc = .ok (.new index, 3))
    (kk : ∀ (w1 : Nat → va_E) (H1 : Heap), w1 = va_up w N (.inr (ci, fs)) → WW D cl tys A H0 ad N2 w1 s H1 locs →
      W p l e R s m args below meth c H1 locs (cells + 1) (slots + NF) Q (F0 m (pc + 3) ls (.ref (ad N) :: rest))) : W p l e R s m args below meth c H locs cells slots Q (F0 m pc ls rest) := by
  subst hN2
  have hKn := hw.1.1 ci _ hc
  refine W.newcK hexec hb hown hcl hinst hini rfl hdg hcells hslots hKn.2.1 hsz fun H1 kC hkC e1 z1 o1 => ?_
  refine kk _ H1 rfl (x_push hw hA hsz z1 o1 ?_)
  exact ⟨_, hc, (u_born ty hts hin hKn hkC e1 hty).to hfs⟩
theorem x_putF (hexec : p.tables.exec = Jvm.exec) (hb : c.code = cc) {own ref C : String} {T : u_T} {NF ci index : Nat} {Ts : List Cond} (hts : ∀ w ∈ Ts, w.before args s = true) (hin : ∀ w ∈ u_ws C T NF, w ∈ Ts) (ty0 : Nat → FieldType) (hty : ∀ k, k < NF → parseFieldDescriptor (T k).2.2.1 = some (ty0 k)) (hnm : ∀ a, a < NF → ∀ b, b < NF → a ≠ b → (T a).2.1 ≠ (T b).2.1) (hown : s.vm.findClass own = some m.cls) (hw : WW D cl tys A H0 ad N w s H locs) {k0 : Nat} {fs : List Value} (hk0 : k0 < N) (he : w k0 = .inr (ci, fs)) (hc : cl[ci]? = some (C, T, NF)) (k : Nat) (hk : k < NF) (hlink : (Cond.fieldLink own index ref (T k).2.1 (T k).2.2.1).before args s = true) (hsame : ∀ x, s.fieldFound? (T k).1 (T k).2.1 (T k).2.2.1 = some x → s.fieldFound? ref (T k).2.1 (T k).2.2.1 = some x) (hfin : (T k).2.2.2 = true) (hin2 : meth.name = "<init>") (hdecl : (T k).1 = own) {ty : FieldType} {v : Value} (hd : parseFieldDescriptor (T k).2.2.1 = some ty) (hn : narrow ty v = v) (hfit : fits ty v = true) (hl : k < fs.length) (hdg : decode cc pc = .ok (.putfield index, 3))
    (kk : ∀ (w1 : Nat → va_E) (H1 : Heap) (locs1 : List Loc), w1 = va_up w k0 (.inr (ci, fs.set k v)) → WW D cl tys A H0 ad N w1 s H1 locs1 → W p l e R s m args below meth c H1 locs1 cells slots Q (F0 m (pc + 3) ls rest)) : W p l e R s m args below meth c H locs cells slots Q (F0 m pc ls (v :: .ref (ad k0) :: rest)) := by
  refine va_putF hexec hb hts hin ty0 hty hnm hown hw.1 hw.2.1 hw.2.2.1 hw.2.2.2 k0 (wl_get hk0 he) hc k hk hlink hsame hfin hin2 hdecl hd hn hfit hl hdg (fun H1 locs1 hP hD hS => ?_)
  rw [wl_set hk0] at hP hD
  exact kk _ H1 locs1 rfl ⟨hw.1, hP, hD, hS⟩
theorem x_aast (hexec : p.tables.exec = Jvm.exec) (hb : c.code = cc) (hw : WW D cl tys A H0 ad N w s H locs) {k0 kv ci : Nat} (hk0 : k0 < N) (t0 : Nat) {cA : ClassId} {r : vw_C} {n : Nat} {vs : List Value} {f : Nat → Option Nat} (he : w k0 = .inl (cA, n, .inr (.inr (.inr (.inr f))))) (ht : tys[t0]? = some (cA, .object r.1)) (hkv : kv < N) (hv : w kv = .inr (ci, vs)) (hc : cl[ci]? = some r) {j : Nat} (hj : j < n) (hn : n < 2 ^ 31) (hdg : decode cc pc = .ok (.aastore, 1))
    (kk : ∀ (w1 : Nat → va_E) (H1 : Heap) (locs1 : List Loc), w1 = va_up w k0 (.inl (cA, n, .inr (.inr (.inr (.inr (va_up f j (some (ad kv)))))))) → WW D cl tys A H0 ad N w1 s H1 locs1 → W p l e R s m args below meth c H1 locs1 cells slots Q (F0 m (pc + 1) ls rest)) : W p l e R s m args below meth c H locs cells slots Q (F0 m pc ls (.ref (ad kv) :: .int (nI j) :: .ref (ad k0) :: rest)) := by
  refine va_astq hexec hb hw.1 hw.2.1 hw.2.2.1 hw.2.2.2 k0 t0 kv ci (wl_get hk0 he) ht (wl_get hkv hv) hc (vp_in_nI hj hn) hdg (fun H1 locs1 hP hD hS => ?_)
  rw [wl_set hk0, nI_clamp (by omega)] at hP hD
  exact kk _ H1 locs1 rfl ⟨hw.1, hP, hD, hS⟩
/-- the heap's size, by the count of what was made -/
theorem x_sized {b0 : Nat} {g : JFrame} (hw : WW D cl tys A H0 (adn b0) N w s H locs) (hN : 1 ≤ N) (hcnt : s.heap.size + cells = b0 + N) (kk : H.size = adn b0 N → W p l e R s m args below meth c H locs cells slots Q g) : W p l e R s m args below meth c H locs cells slots Q g := by
  intro T hT X
  refine kk ?_ T hT X
  have h1 : T.heap.size ≤ s.heap.size + cells := X.same.2.2.1
  have h2 : adn b0 (N - 1) < H.size := (hw.2.1 (N - 1) _ (wl_get (by omega) rfl)).lt
  rw [hT] at h1
  unfold adn at h2 ⊢
  omega
theorem x_cast {c2 s2 : Nat} {g : JFrame} (hc : cells = c2) (hs : slots = s2) (k : W p l e R s m args below meth c H locs c2 s2 Q g) : W p l e R s m args below meth c H locs cells slots Q g := by
  subst hc; subst hs
  exact k
end XN
/-! constructors: from the cells 0 .. N - 1 they come to the cells 0 .. N' - 1 -/
def QN (D : va_G) (tys : List (ClassId × FieldType)) (b0 N N' : Nat) (PU : (Nat → va_E) → Prop) : Array Value → State → Outcome → State → Prop := fun _ st o t =>
  o = .returned none ∧ ∃ u : Nat → va_E, PU u ∧ va_P D vwCl (wl (adn b0) N' u) t.heap ∧ va_K D vwCl tys t ∧ va_F (xA (adn b0) N (b0 + N)) st t
def MN (l : Launch) (y : MethodName) (k : Cond) (rm : Room) (av : List Value) (D : va_G) (tys : List (ClassId × FieldType)) (EX : State → Prop) (b0 N : Nat) (w : Nat → va_E) (N' mc ms : Nat) (PU : (Nat → va_E) → Prop) : Prop :=
  Met l y (wq k) rm (va_Pc av (fun U => cP D tys (adn b0) N w (b0 + N) U ∧ EX U)) (QN D tys b0 N N' PU) mc ms (xA (adn b0) N (b0 + N))
theorem MN.of {l : Launch} {y : MethodName} {bytes : ByteArray} {maxL : Nat} {rm : Room} {av : List Value} {D : va_G} {tys : List (ClassId × FieldType)} {EX : State → Prop} {b0 N : Nat} {w : Nat → va_E} {N' mc ms : Nat} {PU : (Nat → va_E) → Prop} (hy : plainName y.cls = true) (hnm : y.name = "<init>") (hav : (lg_sl av).length ≤ maxL)
    (body : ∀ (p : Program) (e : Env) (s : State) (m : MethodId) (below : List Frame) (meth : Method) (c : Code) (ls : Array Slot), CallFix p m c bytes maxL s av.toArray wsL_law y.cls → meth.sig.returnType = none → meth.locks = false → meth.name = "<init>" → lv_has ls maxL (lv_args 0 av) → WW D vwCl tys (xA (adn b0) N (b0 + N)) s.heap (adn b0) N w s s.heap [] → s.heap.size = b0 + N → EX s →
      W p l e rm s m av.toArray below meth c s.heap [] 0 0 (MQ below (QN D tys b0 N N' PU) av.toArray s mc ms (xA (adn b0) N (b0 + N))) (F0 m 0 ls [])) : MN l y (.code y bytes maxL none) rm av D tys EX b0 N w N' mc ms PU := by
  refine Met.ofW (cc := bytes) (maxL := maxL) (ret := none) hy rfl ?_
  intro p e s m args below meth c s₁ B hml hv
  obtain ⟨rfl, ⟨hsz, hP, hK, hD⟩, hE⟩ := hv
  have hin : meth.name = "<init>" := (name_of_methodNamed B.named B.method).1.trans hnm
  rw [lg_entry_eq]
  exact body p e s m below meth c _ ⟨B.exec, B.bytes, hml, findClass_of_methodNamed B.named, fun w hw => atoms_spec (ws := wq (.code y bytes maxL none)) B.pre w (List.mem_cons_of_mem _ hw)⟩ B.returns B.notSynchronized hin (lv_entry av hav) ⟨hK, hP, wl_DA hD, va_S.rf⟩ hsz hE
section XNC
variable {p : Program} {l : Launch} {e : Env} {R : Room} {s : State} {m : MethodId} {args : Array Value} {below : List Frame} {meth : Method} {c : Code} {H : Heap} {locs : List Loc} {cells slots : Nat} {Q : State → Prop}
variable {y : MethodName} {bytes cc : ByteArray} {maxL nL index : Nat} {rm : Room} {own : String} {rest : List Value} {pc : Nat} {ls : Array Slot}
variable {D : va_G} {tys : List (ClassId × FieldType)} {A : Nat → Prop} {H0 : Heap} {b0 N N' mc ms : Nat} {w u : Nat → va_E} {PU : (Nat → va_E) → Prop} {EX : State → Prop}
theorem x_nret (hx : p.tables.exec = Jvm.exec) (hb : c.code = cc) (hr : meth.sig.returnType = none) (hlocks : meth.locks = false) (hw : WW D vwCl tys (xA (adn b0) N (b0 + N)) s.heap (adn b0) N' u s H locs) (hPU : PU u) (hdg : decode cc pc = .ok (.return_, 1)) : W p l e R s m args below meth c H locs mc ms (MQ below (QN D tys b0 N N' PU) args s mc ms (xA (adn b0) N (b0 + N))) (F0 m pc ls []) :=
  W.vret hx hb hr (fun t ht hW => ⟨rfl, u, hPU, by rw [ht]; exact hw.2.1, va_K.moved hW.alike hw.1, hw.2.2.2.F ht⟩) hw.2.2.2.2.2 hdg hlocks
theorem x_afterN {a : Array Value} {st0 : List Value} (hr : va_Run p l e R s m args below meth c H locs cells slots mc ms (F0 m pc ls st0) rest (QN D tys b0 N N' PU a) (xA (adn b0) N (b0 + N))) (hw : WW D vwCl tys A H0 (adn b0) N w s H locs) (hA : ∀ q, H0.size ≤ q → A q) (hsz : H.size = b0 + N)
    (kk : ∀ (u : Nat → va_E) (H1 : Heap) (locs1 : List Loc), PU u → WW D vwCl tys A H0 (adn b0) N' u s H1 locs1 → W p l e R s m args below meth c H1 locs1 (cells + mc) (slots + ms) Q (F0 m (pc + 3) ls rest)) : W p l e R s m args below meth c H locs cells slots Q (F0 m pc ls st0) := by
  intro T hT X
  obtain ⟨v, st₀, t, T', L, h0, X', hL, e1, e2, ⟨hv, u, hpu, hP, hK, hF⟩, st⟩ := hr T hT X
  cases hv
  obtain ⟨hK0, hP0, hD0, hS0⟩ := hw
  have hsub : ∀ q, xA (adn b0) N (b0 + N) q → A q := by
    intro q hq
    rcases hq with ⟨k, hk, rfl⟩ | hq
    · exact hD0.2 k _ (wl_get hk rfl)
    · exact hA q (Nat.le_trans hS0.1 (by rw [hsz]; exact hq))
  obtain ⟨hz, hk⟩ := hF
  rw [h0] at hz hk
  obtain ⟨t2, a1, b1⟩ := kk u T'.heap (locs ++ L) hpu ⟨hK0, by rw [e1]; exact hP, adn_D (fun k _ => hsub _ (by
      by_cases hkN : k < N
      · exact Or.inl ⟨k, hkN, rfl⟩
      · exact Or.inr (by omega))), Nat.le_trans hS0.1 (by rw [e1]; exact hz), fun q h1 h2 => by
      rw [e1, hk q (Nat.lt_of_lt_of_le h1 hS0.1) (fun z => h2 (hsub q z))]
      exact hS0.2.1 q h1 h2, fun q hq => by
      rcases List.mem_append.mp hq with h | h
      · exact hS0.2.2 q h
      · exact hsub _ (hL q h)⟩ T' rfl X'
  exact ⟨t2, st t2 a1, b1⟩
theorem cN_blind {av : List Value} (hE : ∀ (U : State) (g : JFrame) (mk : MethodId) (a : Array Value), EX U → EX (U.calling g mk a)) : FrameBlind (va_Pc av (fun U => cP D tys (adn b0) N w (b0 + N) U ∧ EX U)) := fun a U g mk q => by
  obtain ⟨q0, ⟨q1, qP, qK, qD⟩, qE⟩ := q
  exact ⟨q0, ⟨q1, qP, va_K.moved (u := U) (U := U.calling g mk a) (Vm.Alike.refl U.vm) qK, qD⟩, hE U g mk a qE⟩
theorem x_callN (S : CallFix p m c cc nL s args wsL_law own) (hF : IF own index y bytes maxL 0) (hw : WW D vwCl tys A H0 (adn b0) N w s H locs) (hA : ∀ q, H0.size ≤ q → A q) (hsz : H.size = b0 + N) (hE : ∀ (U : State) (g : JFrame) (mk : MethodId) (a : Array Value), EX U → EX (U.calling g mk a)) (hE0 : ∀ U : State, s.WarmedH U.vm → EX U) {k0 : Nat} (hM : MN l y (.code y bytes maxL none) rm [.ref (adn b0 k0)] D tys EX b0 N w N' mc ms PU) (hR : RF R rm mc ms maxL) (hsize : ls.size = nL) (hW : (rest.map fun v => v.category).sum ≤ 16) (hdg : decode cc pc = .ok (.invokespecial index, 3)) (hf : cells + mc ≤ R.cells ∧ slots + ms ≤ R.slots)
    (kk : ∀ (u : Nat → va_E) (H1 : Heap) (locs1 : List Loc), PU u → WW D vwCl tys A H0 (adn b0) N' u s H1 locs1 → W p l e R s m args below meth c H1 locs1 (cells + mc) (slots + ms) Q (F0 m (pc + 3) ls rest)) : W p l e R s m args below meth c H locs cells slots Q (F0 m pc ls (.ref (adn b0 k0) :: rest)) :=
  x_afterN (x_runI (e := e) (below := below) (meth := meth) (H := H) (locs := locs) (cells := cells) (slots := slots) (As := []) (b := adn b0 k0) (rest := rest) S hF hM hR ⟨cN_blind hE, fun U hU hW => ⟨rfl, ⟨by rw [hU]; exact hsz, by rw [hU]; exact hw.2.1, va_K.moved hW.alike hw.1, hw.2.2.1.weaken (fun _ _ _ _ => trivial)⟩, hE0 U hW⟩⟩ hsize hW hdg hf) hw hA hsz kk
/-- of a private constructor of a nest mate -/
theorem x_callNN {host : String} (S : CallFix p m c cc nL s args wsL_law own) (hc : Cond.code y bytes maxL none ∈ wsL_law) (hini : Cond.initialized y.cls ∈ wsL_law) (hins : Cond.instanceMethod y ∈ wsL_law) (hnm : y.name = "<init>") (hd : y.cls ≠ "java/lang/invoke/MethodHandle" ∧ y.cls ≠ "java/lang/invoke/VarHandle" ∧ (parseMethodDescriptor y.desc).map (fun d => d.parameters.length) = some 0) (hl : va_Nw (.methodLinkNest own index y host) s) (hw : WW D vwCl tys A H0 (adn b0) N w s H locs) (hA : ∀ q, H0.size ≤ q → A q) (hsz : H.size = b0 + N) {k0 : Nat} (hM : MN l y (.code y bytes maxL none) rm [.ref (adn b0 k0)] D tys (fun _ => True) b0 N w N' mc ms PU) (hR : rm.cells = mc ∧ rm.slots = ms ∧ rm.frames + 1 ≤ R.frames ∧ 8 + (maxL + 11) + rm.locals ≤ R.locals) (hsize : ls.size = nL) (hW : (rest.map fun v => v.category).sum ≤ 8) (hdg : decode cc pc = .ok (.invokespecial index, 3)) (hf : cells + mc ≤ R.cells ∧ slots + ms ≤ R.slots)
    (kk : ∀ (u : Nat → va_E) (H1 : Heap) (locs1 : List Loc), PU u → WW D vwCl tys A H0 (adn b0) N' u s H1 locs1 → W p l e R s m args below meth c H1 locs1 (cells + mc) (slots + ms) Q (F0 m (pc + 3) ls rest)) : W p l e R s m args below meth c H locs cells slots Q (F0 m pc ls (.ref (adn b0 k0) :: rest)) := by
  have hts := S.2.2.2.2
  have hG : GoodIn wsL_law (wq (.code y bytes maxL none)) := fun w hw => by
    have hm : w ∈ wsL_law := by
      rcases List.mem_cons.mp hw with rfl | h
      · exact hc
      · exact h
    exact ⟨hm, good_of_word (wsL_good w hm)⟩
  exact x_afterN (va_runIN (e := e) (below := below) (meth := meth) (H := H) (locs := locs) (cells := cells) (slots := slots) (As := []) (b := adn b0 k0) (rest := rest) (g := F0 m pc ls (.ref (adn b0 k0) :: rest)) S hM ⟨va_cnB 0 hts hG rfl hR.1 hR.2.1 hl (hts _ hini) hd hR.2.2, hnm, hts _ hins⟩ ⟨cN_blind (fun _ _ _ _ _ => trivial), fun U hU hW => ⟨rfl, ⟨by rw [hU]; exact hsz, by rw [hU]; exact hw.2.1, va_K.moved hW.alike hw.1, hw.2.2.1.weaken (fun _ _ _ _ => trivial)⟩, trivial⟩⟩ rfl rfl hsize rfl (by show 2 * 0 + _ ≤ 8; omega) hdg hf) hw hA hsz kk
end XNC
