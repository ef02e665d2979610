section
-- ===== PART A: goes FIRST, ahead of the names: the tables' words, and 'selects' of the private methods out of them =====
/-- a private method of a class that the tables say can be made, by its rows of tables_1 -/
def lw_okq (q : MethodName × Nat) : Prop := (q.1.cls ≠ "java/lang/invoke/MethodHandle" ∧ q.1.cls ≠ "java/lang/invoke/VarHandle") ∧ Cond.instantiable q.1.cls q.2 ∈ tables_1 ∧ Cond.privateMethod q.1 ∈ tables_1 ∧ Cond.instanceMethod q.1 ∈ tables_1
theorem lw_p0 : lw_okq (⟨"java/lang/Throwable", "fillInStackTrace", "(I)Ljava/lang/Throwable;"⟩, 6) := ⟨⟨by decide +kernel, by decide +kernel⟩, List.mem_of_getElem? (i := 194) (by decide +kernel), List.mem_of_getElem? (i := 192) (by decide +kernel), List.mem_of_getElem? (i := 193) (by decide +kernel)⟩
theorem lw_p1 : lw_okq (⟨"BeaconRing", "needNode", "(I)V"⟩, 10) := ⟨⟨by decide +kernel, by decide +kernel⟩, List.mem_of_getElem? (i := 16) (by decide +kernel), List.mem_of_getElem? (i := 240) (by decide +kernel), List.mem_of_getElem? (i := 241) (by decide +kernel)⟩
theorem lw_p2 : lw_okq (⟨"BeaconRing", "needOpen", "()V"⟩, 10) := ⟨⟨by decide +kernel, by decide +kernel⟩, List.mem_of_getElem? (i := 16) (by decide +kernel), List.mem_of_getElem? (i := 245) (by decide +kernel), List.mem_of_getElem? (i := 246) (by decide +kernel)⟩
theorem lw_p3 : lw_okq (⟨"BeaconRing", "needExponent", "(I)V"⟩, 10) := ⟨⟨by decide +kernel, by decide +kernel⟩, List.mem_of_getElem? (i := 16) (by decide +kernel), List.mem_of_getElem? (i := 298) (by decide +kernel), List.mem_of_getElem? (i := 299) (by decide +kernel)⟩
theorem lw_p4 : lw_okq (⟨"BeaconRing", "needDealt", "(I)V"⟩, 10) := ⟨⟨by decide +kernel, by decide +kernel⟩, List.mem_of_getElem? (i := 16) (by decide +kernel), List.mem_of_getElem? (i := 307) (by decide +kernel), List.mem_of_getElem? (i := 308) (by decide +kernel)⟩
theorem lw_p5 : lw_okq (⟨"BeaconRing", "countComplaints", "()I"⟩, 10) := ⟨⟨by decide +kernel, by decide +kernel⟩, List.mem_of_getElem? (i := 16) (by decide +kernel), List.mem_of_getElem? (i := 354) (by decide +kernel), List.mem_of_getElem? (i := 355) (by decide +kernel)⟩
theorem lw_p6 : lw_okq (⟨"BeaconRing", "findQualified", "()I"⟩, 10) := ⟨⟨by decide +kernel, by decide +kernel⟩, List.mem_of_getElem? (i := 16) (by decide +kernel), List.mem_of_getElem? (i := 388) (by decide +kernel), List.mem_of_getElem? (i := 389) (by decide +kernel)⟩
theorem lw_p7 : lw_okq (⟨"BeaconRing", "makeKeys", "()V"⟩, 10) := ⟨⟨by decide +kernel, by decide +kernel⟩, List.mem_of_getElem? (i := 16) (by decide +kernel), List.mem_of_getElem? (i := 397) (by decide +kernel), List.mem_of_getElem? (i := 398) (by decide +kernel)⟩
theorem lw_p8 : lw_okq (⟨"BeaconRing", "sumOfShares", "(I)I"⟩, 10) := ⟨⟨by decide +kernel, by decide +kernel⟩, List.mem_of_getElem? (i := 16) (by decide +kernel), List.mem_of_getElem? (i := 403) (by decide +kernel), List.mem_of_getElem? (i := 404) (by decide +kernel)⟩
theorem lw_p9 : lw_okq (⟨"BeaconRing$Rounds", "startNext", "()V"⟩, 7) := ⟨⟨by decide +kernel, by decide +kernel⟩, List.mem_of_getElem? (i := 56) (by decide +kernel), List.mem_of_getElem? (i := 413) (by decide +kernel), List.mem_of_getElem? (i := 414) (by decide +kernel)⟩
theorem lw_p10 : lw_okq (⟨"BeaconRing", "needWhat", "(II)V"⟩, 10) := ⟨⟨by decide +kernel, by decide +kernel⟩, List.mem_of_getElem? (i := 16) (by decide +kernel), List.mem_of_getElem? (i := 428) (by decide +kernel), List.mem_of_getElem? (i := 429) (by decide +kernel)⟩
theorem lw_p11 : lw_okq (⟨"BeaconRing", "needClosed", "()V"⟩, 10) := ⟨⟨by decide +kernel, by decide +kernel⟩, List.mem_of_getElem? (i := 16) (by decide +kernel), List.mem_of_getElem? (i := 433) (by decide +kernel), List.mem_of_getElem? (i := 434) (by decide +kernel)⟩
theorem lw_p12 : lw_okq (⟨"BeaconRing", "stateFor", "(I)V"⟩, 10) := ⟨⟨by decide +kernel, by decide +kernel⟩, List.mem_of_getElem? (i := 16) (by decide +kernel), List.mem_of_getElem? (i := 453) (by decide +kernel), List.mem_of_getElem? (i := 454) (by decide +kernel)⟩
theorem lw_p13 : lw_okq (⟨"BeaconRing$Statement", "challenge", "(IIII)I"⟩, 3) := ⟨⟨by decide +kernel, by decide +kernel⟩, List.mem_of_getElem? (i := 98) (by decide +kernel), List.mem_of_getElem? (i := 464) (by decide +kernel), List.mem_of_getElem? (i := 465) (by decide +kernel)⟩
theorem lw_p14 : lw_okq (⟨"BeaconRing$Rounds", "weight", "(II)I"⟩, 7) := ⟨⟨by decide +kernel, by decide +kernel⟩, List.mem_of_getElem? (i := 56) (by decide +kernel), List.mem_of_getElem? (i := 519) (by decide +kernel), List.mem_of_getElem? (i := 520) (by decide +kernel)⟩
theorem lw_p15 : lw_okq (⟨"BeaconRing$Rounds", "inverse", "(I)I"⟩, 7) := ⟨⟨by decide +kernel, by decide +kernel⟩, List.mem_of_getElem? (i := 56) (by decide +kernel), List.mem_of_getElem? (i := 523) (by decide +kernel), List.mem_of_getElem? (i := 524) (by decide +kernel)⟩
def lw_privs_1 : List (MethodName × Nat) := [(⟨"java/lang/Throwable", "fillInStackTrace", "(I)Ljava/lang/Throwable;"⟩, 6), (⟨"BeaconRing", "needNode", "(I)V"⟩, 10), (⟨"BeaconRing", "needOpen", "()V"⟩, 10), (⟨"BeaconRing", "needExponent", "(I)V"⟩, 10), (⟨"BeaconRing", "needDealt", "(I)V"⟩, 10), (⟨"BeaconRing", "countComplaints", "()I"⟩, 10), (⟨"BeaconRing", "findQualified", "()I"⟩, 10), (⟨"BeaconRing", "makeKeys", "()V"⟩, 10), (⟨"BeaconRing", "sumOfShares", "(I)I"⟩, 10), (⟨"BeaconRing$Rounds", "startNext", "()V"⟩, 7), (⟨"BeaconRing", "needWhat", "(II)V"⟩, 10), (⟨"BeaconRing", "needClosed", "()V"⟩, 10), (⟨"BeaconRing", "stateFor", "(I)V"⟩, 10), (⟨"BeaconRing$Statement", "challenge", "(IIII)I"⟩, 3), (⟨"BeaconRing$Rounds", "weight", "(II)I"⟩, 7), (⟨"BeaconRing$Rounds", "inverse", "(I)I"⟩, 7)]
theorem lw_r1 : ∀ q ∈ lw_privs_1, lw_okq q := List.forall_mem_cons.mpr ⟨lw_p0, List.forall_mem_cons.mpr ⟨lw_p1, List.forall_mem_cons.mpr ⟨lw_p2, List.forall_mem_cons.mpr ⟨lw_p3, List.forall_mem_cons.mpr ⟨lw_p4, List.forall_mem_cons.mpr ⟨lw_p5, List.forall_mem_cons.mpr ⟨lw_p6, List.forall_mem_cons.mpr ⟨lw_p7, List.forall_mem_cons.mpr ⟨lw_p8, List.forall_mem_cons.mpr ⟨lw_p9, List.forall_mem_cons.mpr ⟨lw_p10, List.forall_mem_cons.mpr ⟨lw_p11, List.forall_mem_cons.mpr ⟨lw_p12, List.forall_mem_cons.mpr ⟨lw_p13, List.forall_mem_cons.mpr ⟨lw_p14, List.forall_mem_cons.mpr ⟨lw_p15, fun _ h => absurd h List.not_mem_nil⟩⟩⟩⟩⟩⟩⟩⟩⟩⟩⟩⟩⟩⟩⟩⟩
theorem lw_p16 : lw_okq (⟨"BeaconRing", "needEnded", "(I)V"⟩, 10) := ⟨⟨by decide +kernel, by decide +kernel⟩, List.mem_of_getElem? (i := 16) (by decide +kernel), List.mem_of_getElem? (i := 569) (by decide +kernel), List.mem_of_getElem? (i := 570) (by decide +kernel)⟩
theorem lw_p17 : lw_okq (⟨"BeaconRing", "countDealt", "()I"⟩, 10) := ⟨⟨by decide +kernel, by decide +kernel⟩, List.mem_of_getElem? (i := 16) (by decide +kernel), List.mem_of_getElem? (i := 590) (by decide +kernel), List.mem_of_getElem? (i := 591) (by decide +kernel)⟩
theorem lw_p18 : lw_okq (⟨"BeaconRing", "countOut", "()I"⟩, 10) := ⟨⟨by decide +kernel, by decide +kernel⟩, List.mem_of_getElem? (i := 16) (by decide +kernel), List.mem_of_getElem? (i := 594) (by decide +kernel), List.mem_of_getElem? (i := 595) (by decide +kernel)⟩
theorem lw_p19 : lw_okq (⟨"BeaconRingModel", "refuses", "(I)Z"⟩, 18) := ⟨⟨by decide +kernel, by decide +kernel⟩, List.mem_of_getElem? (i := 599) (by decide +kernel), List.mem_of_getElem? (i := 669) (by decide +kernel), List.mem_of_getElem? (i := 670) (by decide +kernel)⟩
theorem lw_p20 : lw_okq (⟨"BeaconRingModel", "isNode", "(I)Z"⟩, 18) := ⟨⟨by decide +kernel, by decide +kernel⟩, List.mem_of_getElem? (i := 599) (by decide +kernel), List.mem_of_getElem? (i := 677) (by decide +kernel), List.mem_of_getElem? (i := 678) (by decide +kernel)⟩
theorem lw_p21 : lw_okq (⟨"BeaconRingModel", "hashes", "(J)V"⟩, 18) := ⟨⟨by decide +kernel, by decide +kernel⟩, List.mem_of_getElem? (i := 599) (by decide +kernel), List.mem_of_getElem? (i := 681) (by decide +kernel), List.mem_of_getElem? (i := 682) (by decide +kernel)⟩
theorem lw_p22 : lw_okq (⟨"BeaconRingModel", "right", "(II)J"⟩, 18) := ⟨⟨by decide +kernel, by decide +kernel⟩, List.mem_of_getElem? (i := 599) (by decide +kernel), List.mem_of_getElem? (i := 697) (by decide +kernel), List.mem_of_getElem? (i := 698) (by decide +kernel)⟩
theorem lw_p23 : lw_okq (⟨"BeaconRingModel", "complaints", "(I)I"⟩, 18) := ⟨⟨by decide +kernel, by decide +kernel⟩, List.mem_of_getElem? (i := 599) (by decide +kernel), List.mem_of_getElem? (i := 724) (by decide +kernel), List.mem_of_getElem? (i := 725) (by decide +kernel)⟩
theorem lw_p24 : lw_okq (⟨"BeaconRingModel", "isQualified", "(I)Z"⟩, 18) := ⟨⟨by decide +kernel, by decide +kernel⟩, List.mem_of_getElem? (i := 599) (by decide +kernel), List.mem_of_getElem? (i := 736) (by decide +kernel), List.mem_of_getElem? (i := 737) (by decide +kernel)⟩
theorem lw_p25 : lw_okq (⟨"BeaconRingModel", "base", "()J"⟩, 18) := ⟨⟨by decide +kernel, by decide +kernel⟩, List.mem_of_getElem? (i := 599) (by decide +kernel), List.mem_of_getElem? (i := 748) (by decide +kernel), List.mem_of_getElem? (i := 749) (by decide +kernel)⟩
theorem lw_p26 : lw_okq (⟨"BeaconRingModel", "message", "()J"⟩, 18) := ⟨⟨by decide +kernel, by decide +kernel⟩, List.mem_of_getElem? (i := 599) (by decide +kernel), List.mem_of_getElem? (i := 752) (by decide +kernel), List.mem_of_getElem? (i := 753) (by decide +kernel)⟩
theorem lw_p27 : lw_okq (⟨"BeaconRingModel", "said", "(II)J"⟩, 18) := ⟨⟨by decide +kernel, by decide +kernel⟩, List.mem_of_getElem? (i := 599) (by decide +kernel), List.mem_of_getElem? (i := 761) (by decide +kernel), List.mem_of_getElem? (i := 762) (by decide +kernel)⟩
theorem lw_p28 : lw_okq (⟨"BeaconRingModel", "challenge", "(JJJJJ)J"⟩, 18) := ⟨⟨by decide +kernel, by decide +kernel⟩, List.mem_of_getElem? (i := 599) (by decide +kernel), List.mem_of_getElem? (i := 765) (by decide +kernel), List.mem_of_getElem? (i := 766) (by decide +kernel)⟩
theorem lw_p29 : lw_okq (⟨"BeaconRingModel", "holds", "(IJJJ)Z"⟩, 18) := ⟨⟨by decide +kernel, by decide +kernel⟩, List.mem_of_getElem? (i := 599) (by decide +kernel), List.mem_of_getElem? (i := 773) (by decide +kernel), List.mem_of_getElem? (i := 774) (by decide +kernel)⟩
theorem lw_p30 : lw_okq (⟨"BeaconRingModel", "combined", "(I)J"⟩, 18) := ⟨⟨by decide +kernel, by decide +kernel⟩, List.mem_of_getElem? (i := 599) (by decide +kernel), List.mem_of_getElem? (i := 784) (by decide +kernel), List.mem_of_getElem? (i := 785) (by decide +kernel)⟩
def lw_privs_2 : List (MethodName × Nat) := [(⟨"BeaconRing", "needEnded", "(I)V"⟩, 10), (⟨"BeaconRing", "countDealt", "()I"⟩, 10), (⟨"BeaconRing", "countOut", "()I"⟩, 10), (⟨"BeaconRingModel", "refuses", "(I)Z"⟩, 18), (⟨"BeaconRingModel", "isNode", "(I)Z"⟩, 18), (⟨"BeaconRingModel", "hashes", "(J)V"⟩, 18), (⟨"BeaconRingModel", "right", "(II)J"⟩, 18), (⟨"BeaconRingModel", "complaints", "(I)I"⟩, 18), (⟨"BeaconRingModel", "isQualified", "(I)Z"⟩, 18), (⟨"BeaconRingModel", "base", "()J"⟩, 18), (⟨"BeaconRingModel", "message", "()J"⟩, 18), (⟨"BeaconRingModel", "said", "(II)J"⟩, 18), (⟨"BeaconRingModel", "challenge", "(JJJJJ)J"⟩, 18), (⟨"BeaconRingModel", "holds", "(IJJJ)Z"⟩, 18), (⟨"BeaconRingModel", "combined", "(I)J"⟩, 18)]
theorem lw_r2 : ∀ q ∈ lw_privs_2, lw_okq q := List.forall_mem_cons.mpr ⟨lw_p16, List.forall_mem_cons.mpr ⟨lw_p17, List.forall_mem_cons.mpr ⟨lw_p18, List.forall_mem_cons.mpr ⟨lw_p19, List.forall_mem_cons.mpr ⟨lw_p20, List.forall_mem_cons.mpr ⟨lw_p21, List.forall_mem_cons.mpr ⟨lw_p22, List.forall_mem_cons.mpr ⟨lw_p23, List.forall_mem_cons.mpr ⟨lw_p24, List.forall_mem_cons.mpr ⟨lw_p25, List.forall_mem_cons.mpr ⟨lw_p26, List.forall_mem_cons.mpr ⟨lw_p27, List.forall_mem_cons.mpr ⟨lw_p28, List.forall_mem_cons.mpr ⟨lw_p29, List.forall_mem_cons.mpr ⟨lw_p30, fun _ h => absurd h List.not_mem_nil⟩⟩⟩⟩⟩⟩⟩⟩⟩⟩⟩⟩⟩⟩⟩
def lw_privs : List (MethodName × Nat) := lw_privs_1 ++ (lw_privs_2)
def lw_tbl : List Cond := k2_sels lw_privs ++ tables_1
theorem lw_privs_ok : ∀ q ∈ lw_privs, lw_okq q := by
  show ∀ q ∈ lw_privs_1 ++ (lw_privs_2), lw_okq q
  exact List.forall_mem_append.mpr ⟨lw_r1, lw_r2⟩
end
section
/-! ===== BEGIN words of one list among another's, by their places ===== -/
theorem goodIn_r {big : List Cond} (ws : List Cond) (ps : List Nat) (hp : ws = ps.filterMap (fun i => big[i]?)) (h : ws.all goodWord = true) : GoodIn big ws := by
  intro w hw
  have h1 := List.all_eq_true.mp h w hw
  rw [hp] at hw
  obtain ⟨i, -, hi⟩ := List.mem_filterMap.mp hw
  have hm : w ∈ big := by first | exact List.mem_of_getElem? hi | exact List.getElem?_mem hi
  exact ⟨hm, good_of_word h1⟩
theorem goodIn_app {big a b : List Cond} (ha : GoodIn big a) (hb : GoodIn big b) : GoodIn big (a ++ b) := fun w h => (List.mem_append.mp h).elim (ha w) (hb w)
theorem goodIn_ca {big a b : List Cond} {c : Cond} (ha : GoodIn big (c :: a)) (hb : GoodIn big b) : GoodIn big (c :: (a ++ b)) := fun w h => (List.mem_cons.mp h).elim (fun e => ha w (List.mem_cons.mpr (Or.inl e))) (fun h => (List.mem_append.mp h).elim (fun h => ha w (List.mem_cons.mpr (Or.inr h))) (hb w))
theorem goodIn_sub {big ws : List Cond} (hm : ∀ w ∈ ws, w ∈ big) (h : ws.all goodWord = true) : GoodIn big ws := fun w hw => ⟨hm w hw, good_of_word (List.all_eq_true.mp h w hw)⟩
/-! ===== END ===== -/

/-! ===== BEGIN exceptions that leave a method, and their catching by the caller (launches without stack traces) ===== -/
section VXA
/-! The laws vx_back, vx_callV, vx_callS, vx_callSW, vx_throw0, vx_throwS follow proofs of the library, with one case more: JvmDerived/Free/Laws.lean (Back.of_free), Shelf42/LK1.lean (callV, callS), Shelf/KitTraced.lean (throwNew0V, throwNewS). -/
/-- where a method has thrown q: the class by its name, the cell, what was written, the world -/
def vx_T (XC : String → State → State → Prop) (st : State) (q : Addr) (t : State) (mc ms : Nat) (free : Addr → Prop) : Prop :=
  ∃ (E : String) (ce : Cell) (L : List Loc), XC E st t ∧ t.heap[q]? = some ce ∧ ce.vm = .none ∧ st.vm.findClass E = some ce.cls ∧ st.WarmedH t.vm ∧ st.sameButNew ({ t with vm := st.vm } : State) L mc ms ∧ ∀ z ∈ L, free z.base
def vx_Q (Qc : Array Value → State → Outcome → State → Prop) (XC : String → State → State → Prop) (mc ms : Nat) (free : Addr → Prop) : Array Value → State → Outcome → State → Prop := fun a st o t =>
  (Qc a st o t ∧ ∃ L, FrameEnd st o t L mc ms ∧ ∀ q ∈ L, free q.base) ∨ ∃ q, o = .threw q ∧ vx_T XC st q t mc ms free
/-- a callee that returns or throws -/
def vx_Met (l : Launch) (y : MethodName) (ws : List Cond) (rm : Room) (Pc : Array Value → State → Prop) (Qc : Array Value → State → Outcome → State → Prop) (XC : String → State → State → Prop) (mc ms : Nat) (free : Addr → Prop) : Prop :=
  MetFree l y (headSpec ws rm) Pc (fun _ _ _ _ _ => True) (vx_Q Qc XC mc ms free)
def vx_Post (XC : String → State → State → Prop) (mc ms : Nat) (free : Addr → Prop) : Pt → Array Value → Addr → Pt → Prop := fun A a q B =>
  ∃ (g : JFrame) (mk : MethodId) (t : State) (L : List Loc) (E : String) (ce : Cell), B.U.heap = t.heap ∧ B.U.vm = t.vm ∧ XC E (A.U.calling g mk a) t ∧ t.heap[q]? = some ce ∧ ce.vm = .none ∧ A.U.vm.findClass E = some ce.cls ∧ B.locs = A.locs ++ L ∧ (∀ z ∈ L, free z.base) ∧ B.cells = A.cells + mc ∧ B.slots = A.slots + ms
def vx_Back (l : Launch) (R : Room) (p : Program) (e : Env) (below : List Frame) (s : State) (sargs : Array Value) (y : MethodName) (len W9 : Nat)
    (Pre : Pt → Array Value → Prop) (Post : Pt → Array Value → Option Value → Pt → Prop) (PostX : Pt → Array Value → Addr → Pt → Prop) : Prop :=
  ∀ (m : MethodId) (meth : Method) (c : Code) (A : Pt) (g : JFrame) (ig : Instr) (mk : MethodId) (a : Array Value),
    Stand p l e R s m sargs below meth c A.U A.locs A.cells A.slots → g.method = m → g.locals.size = c.maxLocals → decode c.code g.pc = .ok (ig, len) →
    2 * g.monitorRoom + (g.stack.map fun v => v.category).sum ≤ W9 → A.U.methodNamed? y = some mk → Pre A a →
    (∃ (v : Option Value) (B : Pt), Stand p l e R s m sargs below meth c B.U B.locs B.cells B.slots ∧ Post A a v B ∧
      Steps p.tables e below (doInvoke e (A.U.setTop g) [] mk a).1 (B.U.setTop { g with pc := g.pc + len, stack := v.toList ++ g.stack })) ∨
    (∃ (q : Addr) (B : Pt), Stand p l e R s m sargs below meth c B.U B.locs B.cells B.slots ∧ PostX A a q B ∧
      Steps p.tables e below (doInvoke e (A.U.setTop g) [] mk a).1 ((B.U.setTop g).pushFrame (.throwing q)))
section Payer
variable {l : Launch} {R : Room} {p : Program} {e : Env} {below : List Frame} {s : State} {sargs : Array Value} {y : MethodName} {len W9 : Nat}
theorem vx_back {ws : List Cond} {rm : Room} {Pc : Array Value → State → Prop} {Qc : Array Value → State → Outcome → State → Prop} {XC : String → State → State → Prop} {mc ms : Nat} {free : Addr → Prop} {bytes : ByteArray} {maxL : Nat} {ret : Option FieldType}
    (hM : vx_Met l y ws rm Pc Qc XC mc ms free) (hblind : FrameBlind Pc) (hrc : rm.cells = mc) (hrs : rm.slots = ms)
    (hframes : rm.frames + 1 ≤ R.frames) (hlocals : W9 + (maxL + 11) + rm.locals ≤ R.locals)
    (hws : ∀ w ∈ ws, ∀ a' U, s.WarmedH U.vm → w.before a' U = true) (hcode : Cond.code y bytes maxL ret ∈ ws) (hinit : ∀ a' U, s.WarmedH U.vm → (Cond.initialized y.cls).before a' U = true) :
    vx_Back l R p e below s sargs y len W9 (PreOf R mc ms Pc) (PostOf Qc mc ms free) (vx_Post XC mc ms free) := by
  intro m meth c A g ig mk a X hg hsize hdg hW hn hp
  have h1 : (headSpec ws rm).pre.before a A.U = true := atoms_intro fun w hw => hws w hw _ _ X.warmed
  have h2 : (Cond.code y bytes maxL ret).before a A.U = true := hws _ hcode _ _ X.warmed
  have h3 : (Cond.initialized y.cls).before a A.U = true := hinit _ _ X.warmed
  have h4 : A.cells + (headSpec ws rm).room.cells ≤ R.cells := by rw [show (headSpec ws rm).room.cells = mc from hrc]; exact hp.1
  have h5 : A.slots + (headSpec ws rm).room.slots ≤ R.slots := by rw [show (headSpec ws rm).room.slots = ms from hrs]; exact hp.2.1
  have hPc : Pc a (A.U.calling g mk a) := hblind _ _ _ _ hp.2.2
  obtain ⟨U, Ls, c0, s0⟩ := A
  dsimp only [Pt.U, Pt.locs, Pt.cells, Pt.slots] at h1 h2 h3 h4 h5 X hn hPc ⊢
  obtain ⟨methY, cY, hmY, hcY, -, hlY, -, -, -, -⟩ := Cond.code_spec hn h2
  obtain ⟨kY, hkY, -⟩ := className_of_methodNamed hn
  have hinitY : kY.init = .initialized := Cond.initialized_spec (findClass_of_methodNamed hn) hkY h3
  have h : At U g.method c below := by rw [hg]; exact X.here
  have hlocals9 : W9 + (maxL + 11) + (headSpec ws rm).room.locals ≤ R.locals := hlocals
  have happ : (headSpec ws rm).appliesLoose y e.platform (U.calling g mk a) = true :=
    Spec.appliesLoose_calling (g := g) h hdg hn hkY hinitY
      (X.room_calling (g := g) (R' := (headSpec ws rm).room) hsize hmY hcY hframes (by rw [hlY]; omega) h4 h5) h1
  obtain ⟨mid, hmid⟩ := h.above
  have hfr : (U.setTop g).frames = (.java g :: mid) ++ below := by rw [State.frames_setTop' g h.top, hmid]; rfl
  obtain ⟨o, s₂, hsteps, -, hend, hq⟩ := Steps.callFree hM p X.admits X.cas X.clock (acts := []) hfr happ hPc trivial
  have hq' : vx_Q Qc XC mc ms free a (U.calling g mk a) o s₂ := hq
  rw [State.frames_setTop' g h.top] at hend
  obtain ⟨g₀, hg0⟩ := Option.isSome_iff_exists.mp h.top
  obtain ⟨r, hr⟩ := State.topJava?_eq_some.mp hg0
  have hr' : (({ U with heap := s₂.heap, slotsUsed := s₂.slotsUsed } : State).setVm s₂.vm).frames = .java g₀ :: r := hr
  rcases hq' with ⟨hqc, L, hfe, hL⟩ | ⟨q, rfl, E, ce, L, hx, hce, hcv, hcl, hW₂, hsm, hL⟩
  · obtain ⟨⟨v, rfl⟩, hW₂, e2, q2, q3, q4, q5, q6⟩ := id hfe
    have e3 : s₂ = ({ (U.calling g mk a).setFrames s₂.frames with heap := s₂.heap, slotsUsed := s₂.slotsUsed } : State).setVm s₂.vm := by
      have : s₂ = ({ s₂ with vm := (U.calling g mk a).vm } : State).setVm s₂.vm := rfl
      rw [e2] at this
      exact this
    obtain ⟨c₂, i₂, len₂, hc₂, hd₂, hf₂⟩ := hend
    have hW' : U.WarmedH s₂.vm := hW₂
    have hcc : c₂ = c := by
      have h1 : s₂.code? g.method = U.code? g.method := by
        rw [State.code?_eq, State.code?_eq, hW'.alike.method?]
      exact Option.some.inj (hc₂.symm.trans (h1.trans h.code))
    subst hcc
    have hlen : len₂ = len := by rw [hdg] at hd₂; cases hd₂; rfl
    subst hlen
    have hs₂ : s₂ = (({ U with heap := s₂.heap, slotsUsed := s₂.slotsUsed } : State).setVm s₂.vm).setTop { g with pc := g.pc + len₂, stack := v.toList ++ g.stack } := by
      refine e3.trans ?_
      rw [hf₂, State.calling_eq h.top, State.setFrames_setFrames, State.setTop_of_frames _ hr', hr]
      rfl
    have hsame : U.sameButNew ({ U with heap := s₂.heap, slotsUsed := s₂.slotsUsed } : State) L mc ms := by
      refine ⟨?_, q2, q3, q4, q5, q6⟩
      obtain ⟨t, ht, -⟩ := State.frames_cons hr
      show ({ U with heap := s₂.heap, slotsUsed := s₂.slotsUsed } : State) = { U.setFrames U.frames with heap := s₂.heap, slotsUsed := s₂.slotsUsed }
      rw [State.setFrames_self ht]
    subst hg
    refine Or.inl ⟨v, ⟨(({ U with heap := s₂.heap, slotsUsed := s₂.slotsUsed } : State).setVm s₂.vm), Ls ++ L, c0 + mc, s0 + ms⟩,
      ⟨X.admits, X.cas, X.clock, X.frames, X.room, X.hears, X.method, X.code, (X.here.setHeapUsed s₂.heap s₂.slotsUsed).setVm hW'.alike, X.tail, State.WarmedH.trans X.warmed hW', X.limits, X.bytes, X.same.trans (hsame.setVm s.vm)⟩,
      ⟨g, mk, s₂, L, rfl, rfl, hqc, rfl, hL, rfl, rfl⟩, ?_⟩
    show Steps p.tables e below _ ((({ U with heap := s₂.heap, slotsUsed := s₂.slotsUsed } : State).setVm s₂.vm).setTop { g with pc := g.pc + len₂, stack := v.toList ++ g.stack })
    rw [← hs₂]
    exact hsteps
  · obtain ⟨e2, q2, q3, q4, q5, q6⟩ := id hsm
    have e3 : s₂ = ({ (U.calling g mk a).setFrames s₂.frames with heap := s₂.heap, slotsUsed := s₂.slotsUsed } : State).setVm s₂.vm := by
      have : s₂ = ({ s₂ with vm := (U.calling g mk a).vm } : State).setVm s₂.vm := rfl
      rw [e2] at this
      exact this
    have hf₂ : s₂.frames = .throwing q :: .java g :: U.frames.tail := hend
    have hW' : U.WarmedH s₂.vm := hW₂
    have hs₂ : s₂ = ((({ U with heap := s₂.heap, slotsUsed := s₂.slotsUsed } : State).setVm s₂.vm).setTop g).pushFrame (.throwing q) := by
      refine e3.trans ?_
      rw [hf₂, State.calling_eq h.top, State.setFrames_setFrames, State.pushFrame, State.frames_setTop _ hr', State.setTop_of_frames _ hr', State.setFrames_setFrames, hr]
      rfl
    have hsame : U.sameButNew ({ U with heap := s₂.heap, slotsUsed := s₂.slotsUsed } : State) L mc ms := by
      refine ⟨?_, q2, q3, q4, q5, q6⟩
      obtain ⟨t, ht, -⟩ := State.frames_cons hr
      show ({ U with heap := s₂.heap, slotsUsed := s₂.slotsUsed } : State) = { U.setFrames U.frames with heap := s₂.heap, slotsUsed := s₂.slotsUsed }
      rw [State.setFrames_self ht]
    subst hg
    refine Or.inr ⟨q, ⟨(({ U with heap := s₂.heap, slotsUsed := s₂.slotsUsed } : State).setVm s₂.vm), Ls ++ L, c0 + mc, s0 + ms⟩,
      ⟨X.admits, X.cas, X.clock, X.frames, X.room, X.hears, X.method, X.code, (X.here.setHeapUsed s₂.heap s₂.slotsUsed).setVm hW'.alike, X.tail, State.WarmedH.trans X.warmed hW', X.limits, X.bytes, X.same.trans (hsame.setVm s.vm)⟩,
      ⟨g, mk, s₂, L, E, ce, rfl, rfl, hx, hce, hcv, hcl, rfl, hL, rfl, rfl⟩, ?_⟩
    show Steps p.tables e below _ (((({ U with heap := s₂.heap, slotsUsed := s₂.slotsUsed } : State).setVm s₂.vm).setTop g).pushFrame (.throwing q))
    rw [← hs₂]
    exact hsteps
end Payer
section Calls
variable {p : Program} {l : Launch} {e : Env} {R : Room} {s : State} {m : MethodId} {args : Array Value} {below : List Frame} {meth : Method} {c : Code} {T : State} {locs : List Loc} {cells slots : Nat}
theorem vx_callV (X : Stand p l e R s m args below meth c T locs cells slots) (hexec : p.tables.exec = Jvm.exec) {own C : String} {index : Nat} {y : MethodName} {bytes : ByteArray} {maxL : Nat} {ret : Option FieldType}
    (hown : s.vm.findClass own = some m.cls) (hlink : (Cond.methodLink own index y).before args s = true) (hinst : (Cond.instanceMethod y).before args s = true) (hsel : (Cond.selects C y y).before args s = true)
    (hcode : (Cond.code y bytes maxL ret).before args s = true) (hy : y.cls ≠ "java/lang/invoke/MethodHandle" ∧ y.cls ≠ "java/lang/invoke/VarHandle")
    {W9 : Nat} {Pre : Pt → Array Value → Prop} {Post : Pt → Array Value → Option Value → Pt → Prop} {PostX : Pt → Array Value → Addr → Pt → Prop} (hK : vx_Back l R p e below s args y 3 W9 Pre Post PostX)
    {b : Addr} {cellB : Cell} (hcell : T.heap[b]? = some cellB) (hobj : cellB.vm.isStatics = false) (hcls : s.vm.findClass C = some cellB.cls)
    {g : JFrame} (hg : g.method = m) (hsize : g.locals.size = c.maxLocals) {argsL rest : List Value} (hlen : ∀ sig, parseMethodDescriptor y.desc = some sig → argsL.length = sig.parameters.length)
    (hstack : g.stack = argsL.reverse ++ .ref b :: rest) (hW : 2 * g.monitorRoom + (rest.map fun v => v.category).sum ≤ W9) (hdg : decode c.code g.pc = .ok (.invokevirtual index, 3))
    (hpre : ∀ vm₁, s.WarmedH vm₁ → Pre ⟨T.setVm vm₁, locs, cells, slots⟩ (Value.ref b :: argsL).toArray) :
    (∃ (v : Option Value) (vm₁ : Vm) (B : Pt), s.WarmedH vm₁ ∧ Stand p l e R s m args below meth c B.U B.locs B.cells B.slots ∧ Post ⟨T.setVm vm₁, locs, cells, slots⟩ (Value.ref b :: argsL).toArray v B ∧
      ∀ target, Steps p.tables e below (B.U.setTop { g with pc := g.pc + 3, stack := v.toList ++ rest }) target → Steps p.tables e below (T.setTop g) target) ∨
    (∃ (q : Addr) (vm₁ : Vm) (B : Pt), s.WarmedH vm₁ ∧ Stand p l e R s m args below meth c B.U B.locs B.cells B.slots ∧ PostX ⟨T.setVm vm₁, locs, cells, slots⟩ (Value.ref b :: argsL).toArray q B ∧
      Steps p.tables e below (T.setTop g) ((B.U.setTop { g with stack := rest }).pushFrame (.throwing q))) := by
  obtain ⟨mk, methM, hnamed, hmethM, hstM, habM⟩ := Cond.instanceMethod_spec hinst
  obtain ⟨methM', cM, hmethM', -, -, -, -, -, -, hsigM⟩ := Cond.code_spec hnamed hcode
  cases hmethM.symm.trans hmethM'
  obtain ⟨c2, r2, m2, q1, q2, q3, q4, kP, hkP, hkPi⟩ := Cond.selects_spec hsel
  cases hcls.symm.trans q1
  cases (State.methodFound?_of_named hnamed hy).symm.trans q2
  cases hnamed.symm.trans q3
  have hselP : selectMethod e.platform s.vm cellB.cls mk = .method mk := by rw [Launch.admits_selectMethod X.admits]; exact q4
  obtain ⟨vm₁, X₁, hstep₁⟩ := X.invokevirtual hexec hown hlink hnamed hmethM hstM hkP hkPi hy (a := b) (cell := cellB) hcell
    (fun z h => by rw [h] at hobj; cases hobj) hselP hmethM habM hkP hkPi (g := g) hg (argsL := argsL) (rest := rest) (hlen _ hsigM) hstack hdg
  rcases hK m meth c ⟨T.setVm vm₁, locs, cells, slots⟩ { g with stack := rest } (.invokevirtual index) mk (Value.ref b :: argsL).toArray X₁ hg hsize hdg hW (X₁.named hnamed) (hpre vm₁ X₁.warmed) with ⟨v, B, X', hpost, hsteps⟩ | ⟨q, B, X', hpost, hsteps⟩
  · exact Or.inl ⟨v, vm₁, B, X₁.warmed, X', hpost, fun target h => hstep₁ _ fun acts => by rw [doInvoke_state]; exact hsteps.trans h⟩
  · exact Or.inr ⟨q, vm₁, B, X₁.warmed, X', hpost, hstep₁ _ fun acts => by rw [doInvoke_state]; exact hsteps⟩
theorem vx_callS (X : Stand p l e R s m args below meth c T locs cells slots) (hexec : p.tables.exec = Jvm.exec) {own : String} {index : Nat} {y : MethodName} {bytes : ByteArray} {maxL : Nat} {ret : Option FieldType}
    (hown : s.vm.findClass own = some m.cls) (hlink : (Cond.methodLink own index y).before args s = true) (hstat : (Cond.static y).before args s = true) (hinit : (Cond.initialized y.cls).before args s = true)
    (hcode : (Cond.code y bytes maxL ret).before args s = true) (hy : y.cls ≠ "java/lang/invoke/MethodHandle" ∧ y.cls ≠ "java/lang/invoke/VarHandle")
    {W9 : Nat} {Pre : Pt → Array Value → Prop} {Post : Pt → Array Value → Option Value → Pt → Prop} {PostX : Pt → Array Value → Addr → Pt → Prop} (hK : vx_Back l R p e below s args y 3 W9 Pre Post PostX)
    {g : JFrame} (hg : g.method = m) (hsize : g.locals.size = c.maxLocals) {argsL rest : List Value} (hlen : ∀ sig, parseMethodDescriptor y.desc = some sig → argsL.length = sig.parameters.length)
    (hstack : g.stack = argsL.reverse ++ rest) (hW : 2 * g.monitorRoom + (rest.map fun v => v.category).sum ≤ W9) (hdg : decode c.code g.pc = .ok (.invokestatic index, 3))
    (hpre : ∀ vm₁, s.WarmedH vm₁ → Pre ⟨T.setVm vm₁, locs, cells, slots⟩ argsL.toArray) :
    (∃ (v : Option Value) (vm₁ : Vm) (B : Pt), s.WarmedH vm₁ ∧ Stand p l e R s m args below meth c B.U B.locs B.cells B.slots ∧ Post ⟨T.setVm vm₁, locs, cells, slots⟩ argsL.toArray v B ∧
      ∀ target, Steps p.tables e below (B.U.setTop { g with pc := g.pc + 3, stack := v.toList ++ rest }) target → Steps p.tables e below (T.setTop g) target) ∨
    (∃ (q : Addr) (vm₁ : Vm) (B : Pt), s.WarmedH vm₁ ∧ Stand p l e R s m args below meth c B.U B.locs B.cells B.slots ∧ PostX ⟨T.setVm vm₁, locs, cells, slots⟩ argsL.toArray q B ∧
      Steps p.tables e below (T.setTop g) ((B.U.setTop { g with stack := rest }).pushFrame (.throwing q))) := by
  obtain ⟨mk, hnamed⟩ := Cond.code_named hcode
  obtain ⟨methM, cM, hmethM, -, -, -, -, -, -, hsigM⟩ := Cond.code_spec hnamed hcode
  have hstatic : methM.isStatic = true := Cond.static_spec hnamed hmethM hstat
  obtain ⟨kP, hkP, -⟩ := className_of_methodNamed hnamed
  have hinitP : kP.init = .initialized := Cond.initialized_spec (findClass_of_methodNamed hnamed) hkP hinit
  obtain ⟨vm₁, X₁, hstep₁⟩ := X.invokestatic hexec hown hlink hnamed hmethM hstatic hkP hinitP hy (g := g) hg (argsL := argsL) (rest := rest) (hlen _ hsigM) hstack hdg
  rcases hK m meth c ⟨T.setVm vm₁, locs, cells, slots⟩ { g with stack := rest } (.invokestatic index) mk argsL.toArray X₁ hg hsize hdg hW (X₁.named hnamed) (hpre vm₁ X₁.warmed) with ⟨v, B, X', hpost, hsteps⟩ | ⟨q, B, X', hpost, hsteps⟩
  · exact Or.inl ⟨v, vm₁, B, X₁.warmed, X', hpost, fun target h => hstep₁ _ fun acts => by rw [doInvoke_state]; exact hsteps.trans h⟩
  · exact Or.inr ⟨q, vm₁, B, X₁.warmed, X', hpost, hstep₁ _ fun acts => by rw [doInvoke_state]; exact hsteps⟩
end Calls
theorem vx_cls {s : State} {T : State} {vm₁ : Vm} {E : String} {k : ClassId} (hW : s.WarmedH vm₁) (h : (T.setVm vm₁).vm.findClass E = some k) : s.vm.findClass E = some k := by
  have h1 : vm₁.findClass E = some k := h
  rw [hW.alike.findClass] at h1
  exact h1
/-- the method's frame g, with q thrown over it -/
def vx_W (p : Program) (l : Launch) (e : Env) (R : Room) (s : State) (m : MethodId) (args : Array Value) (below : List Frame) (meth : Method) (c : Code) (H : Heap) (locs : List Loc) (cells slots : Nat) (Q : State → Prop) (g : JFrame) (q : Addr) : Prop :=
  ∀ T : State, T.heap = H → Stand p l e R s m args below meth c T locs cells slots → ∃ t, Steps p.tables e below ((T.setTop g).pushFrame (.throwing q)) t ∧ Q t
def vx_Run (p : Program) (l : Launch) (e : Env) (R : Room) (s : State) (m : MethodId) (args : Array Value) (below : List Frame) (meth : Method) (c : Code) (H : Heap) (locs : List Loc) (cells slots mc ms : Nat) (g : JFrame) (rest : List Value) (Qa : State → Outcome → State → Prop) (XC : String → State → State → Prop) (free : Addr → Prop) : Prop :=
  ∀ T : State, T.heap = H → Stand p l e R s m args below meth c T locs cells slots →
    (∃ (v : Option Value) (st₀ t T' : State) (L : List Loc), st₀.heap = H ∧ Stand p l e R s m args below meth c T' (locs ++ L) (cells + mc) (slots + ms) ∧ (∀ q ∈ L, free q.base) ∧ T'.heap = t.heap ∧ T'.vm = t.vm ∧ Qa st₀ (.returned v) t ∧
      Goes p e below T g T' { g with pc := g.pc + 3, stack := v.toList ++ rest }) ∨
    (∃ (q : Addr) (st₀ t T' : State) (L : List Loc) (E : String) (ce : Cell), st₀.heap = H ∧ Stand p l e R s m args below meth c T' (locs ++ L) (cells + mc) (slots + ms) ∧ (∀ z ∈ L, free z.base) ∧ T'.heap = t.heap ∧ T'.vm = t.vm ∧ XC E st₀ t ∧ t.heap[q]? = some ce ∧ ce.vm = .none ∧ s.vm.findClass E = some ce.cls ∧
      Steps p.tables e below (T.setTop g) ((T'.setTop { g with stack := rest }).pushFrame (.throwing q)))
def vx_X {S : Type} (px : S → Prop) (B : String → S → State → Prop) (A : Nat → Prop) : String → State → State → Prop := fun E st t => ∃ u : S, px u ∧ B E u t ∧ va_F A st t
section Runs
variable {p : Program} {l : Launch} {e : Env} {R : Room} {s : State} {m : MethodId} {args : Array Value} {below : List Frame} {meth : Method} {c : Code} {H : Heap} {locs : List Loc} {cells slots : Nat}
variable {y : MethodName} {bytes cc : ByteArray} {maxL nL mc ms n index : Nat} {ret : Option FieldType} {ws : List Cond} {rm : Room} {Pc : Array Value → State → Prop} {Qc : Array Value → State → Outcome → State → Prop} {XC : String → State → State → Prop} {free : Addr → Prop} {Ts : List Cond} {own C : String} {b : Addr} {As rest : List Value} {g : JFrame}
theorem vx_callBack (cb : CallB R s args own index y bytes maxL ret ws rm mc ms n) (hM : vx_Met l y ws rm Pc Qc XC mc ms free) (hbl : FrameBlind Pc) : vx_Back l R p e below s args y 3 8 (PreOf R mc ms Pc) (PostOf Qc mc ms free) (vx_Post XC mc ms free) := by
  obtain ⟨hrc, hrs, hfr, hlo, hws, hcw, -, hini, -⟩ := cb
  exact vx_back (bytes := bytes) (maxL := maxL) (ret := ret) hM hbl hrc hrs hfr hlo hws hcw (fun a' U hW => word_at hW (Or.inl (by first | rfl | simp [Cond.onTables, Cond.keeps, Cond.steady])) hini)
theorem vx_runV (S : CallFix p m c cc nL s args Ts own) (hM : vx_Met l y ws rm Pc Qc XC mc ms free) (cw : CallW R s args own C index y bytes maxL ret ws rm mc ms n) (hp : PreV s H C b Pc As)
    (hg : g.method = m) (hn : As.length = n) (hsize : g.locals.size = nL) (hstack : g.stack = As.reverse ++ .ref b :: rest) (hW : 2 * g.monitorRoom + (rest.map fun v => v.category).sum ≤ 8) (hdg : decode cc g.pc = .ok (.invokevirtual index, 3)) (hf : cells + mc ≤ R.cells ∧ slots + ms ≤ R.slots) :
    vx_Run p l e R s m args below meth c H locs cells slots mc ms g rest (Qc (Value.ref b :: As).toArray) XC free := by
  have hK : vx_Back l R p e below s args y 3 8 (PreOf R mc ms Pc) (PostOf Qc mc ms free) (vx_Post XC mc ms free) := vx_callBack cw.1 hM hp.1
  obtain ⟨⟨-, -, -, -, -, -, hcode, -, hy, hlen, hl⟩, hin, hse⟩ := cw
  obtain ⟨hx, hb, hml, ho, -⟩ := S
  obtain ⟨-, ⟨cellB, hcB, hoB, hclB⟩, hPc⟩ := hp
  intro T hT X
  rcases vx_callV X hx (C := C) (bytes := bytes) (maxL := maxL) (ret := ret) ho hl hin hse hcode hy hK (by rw [hT]; exact hcB) hoB hclB hg (hsize.trans hml.symm) (argsL := As) (rest := rest) (fun sig h => hn.trans (hlen sig h)) hstack hW (by rw [hb]; exact hdg)
    (fun vm₁ hW₁ => ⟨hf.1, hf.2, hPc (T.setVm vm₁) hT hW₁⟩) with ⟨v, vm₁, ⟨U', l2, c2, s2⟩, hW₁, X', ⟨g', mk, t, L, e1, e2, hq, h1, hL, h2, h3⟩, st⟩ | ⟨q, vm₁, ⟨U', l2, c2, s2⟩, hW₁, X', ⟨g', mk, t, L, E, ce, e1, e2, hq, hce, hcv, hcl, h1, hL, h2, h3⟩, st⟩
  · dsimp only [Pt.U, Pt.locs, Pt.cells, Pt.slots] at X' e1 e2 h1 h2 h3 st
    subst h1; subst h2; subst h3
    exact Or.inl ⟨v, (T.setVm vm₁).calling g' mk (Value.ref b :: As).toArray, t, U', L, hT, X', hL, e1, e2, hq, st⟩
  · dsimp only [Pt.U, Pt.locs, Pt.cells, Pt.slots] at X' e1 e2 h1 h2 h3 st hcl
    subst h1; subst h2; subst h3
    exact Or.inr ⟨q, (T.setVm vm₁).calling g' mk (Value.ref b :: As).toArray, t, U', L, E, ce, hT, X', hL, e1, e2, hq, hce, hcv, vx_cls hW₁ hcl, st⟩
theorem vx_runS (S : CallFix p m c cc nL s args Ts own) (hM : vx_Met l y ws rm Pc Qc XC mc ms free) (cw : CallB R s args own index y bytes maxL ret ws rm mc ms n ∧ (Cond.static y).before args s = true) (hp : PreS s H Pc As)
    (hg : g.method = m) (hn : As.length = n) (hsize : g.locals.size = nL) (hstack : g.stack = As.reverse ++ rest) (hW : 2 * g.monitorRoom + (rest.map fun v => v.category).sum ≤ 8) (hdg : decode cc g.pc = .ok (.invokestatic index, 3)) (hf : cells + mc ≤ R.cells ∧ slots + ms ≤ R.slots) :
    vx_Run p l e R s m args below meth c H locs cells slots mc ms g rest (Qc As.toArray) XC free := by
  have hK : vx_Back l R p e below s args y 3 8 (PreOf R mc ms Pc) (PostOf Qc mc ms free) (vx_Post XC mc ms free) := vx_callBack cw.1 hM hp.1
  obtain ⟨⟨-, -, -, -, -, -, hcode, hini, hy, hlen, hl⟩, hstt⟩ := cw
  obtain ⟨hx, hb, hml, ho, -⟩ := S
  intro T hT X
  rcases vx_callS X hx (bytes := bytes) (maxL := maxL) (ret := ret) ho hl hstt hini hcode hy hK hg (hsize.trans hml.symm) (argsL := As) (rest := rest) (fun sig h => hn.trans (hlen sig h)) hstack hW (by rw [hb]; exact hdg)
    (fun vm₁ hW₁ => ⟨hf.1, hf.2, hp.2 (T.setVm vm₁) hT hW₁⟩) with ⟨v, vm₁, ⟨U', l2, c2, s2⟩, hW₁, X', ⟨g', mk, t, L, e1, e2, hq, h1, hL, h2, h3⟩, st⟩ | ⟨q, vm₁, ⟨U', l2, c2, s2⟩, hW₁, X', ⟨g', mk, t, L, E, ce, e1, e2, hq, hce, hcv, hcl, h1, hL, h2, h3⟩, st⟩
  · dsimp only [Pt.U, Pt.locs, Pt.cells, Pt.slots] at X' e1 e2 h1 h2 h3 st
    subst h1; subst h2; subst h3
    exact Or.inl ⟨v, (T.setVm vm₁).calling g' mk As.toArray, t, U', L, hT, X', hL, e1, e2, hq, st⟩
  · dsimp only [Pt.U, Pt.locs, Pt.cells, Pt.slots] at X' e1 e2 h1 h2 h3 st hcl
    subst h1; subst h2; subst h3
    exact Or.inr ⟨q, (T.setVm vm₁).calling g' mk As.toArray, t, U', L, E, ce, hT, X', hL, e1, e2, hq, hce, hcv, vx_cls hW₁ hcl, st⟩
end Runs
section Rows
variable {p : Program} {l : Launch} {e : Env} {R : Room} {s : State} {m : MethodId} {args : Array Value} {below : List Frame} {meth : Method} {c : Code} {H : Heap} {locs : List Loc} {cells slots : Nat} {Q : State → Prop}
variable {mc ms : Nat} {free : Addr → Prop} {A0 A1 : Nat → Prop} {H0 : Heap} {a : Array Value} {pc : Nat} {ls : Array Slot} {st0 rest : List Value}
theorem vx_keep {st₀ t T' : State} {L : List Loc} (h0 : st₀.heap = H) (e1 : T'.heap = t.heap) (hS : va_S A0 H0 H locs) (hA : ∀ q, q < H.size → A1 q → A0 q) (hf : ∀ q, free q → A0 q) (hL : ∀ q ∈ L, free q.base) (hF : va_F A1 st₀ t) :
    H.size ≤ T'.heap.size ∧ (∀ q : Nat, q < H.size → ¬ A1 q → T'.heap[q]? = H[q]?) ∧ va_S A0 H0 T'.heap (locs ++ L) := by
  obtain ⟨hz, hk⟩ := hF
  rw [h0] at hz hk
  exact ⟨by rw [e1]; exact hz, fun q h1 h2 => by rw [e1]; exact hk q h1 h2,
    ⟨Nat.le_trans hS.1 (by rw [e1]; exact hz), fun q h1 h2 => by rw [e1, hk q (Nat.lt_of_lt_of_le h1 hS.1) (fun z => h2 (hA q (Nat.lt_of_lt_of_le h1 hS.1) z))]; exact hS.2.1 q h1 h2, fun q hq => by
      rcases List.mem_append.mp hq with h | h
      · exact hS.2.2 q h
      · exact hf _ (hL q h)⟩⟩
theorem vx_calli {S SX : Type} {post : Int32 → S → Prop} {px : SX → Prop} {B : S → State → Prop} {BX : String → SX → State → Prop} {AX : Nat → Prop} (hr : vx_Run p l e R s m args below meth c H locs cells slots mc ms (F0 m pc ls st0) rest (va_Qi post B A1 a) (vx_X px BX AX) free) (hS : va_S A0 H0 H locs) (hA : ∀ q, q < H.size → A1 q → A0 q) (hf : ∀ q, free q → A0 q) (hAX : ∀ q, q < H.size → AX q → A0 q)
    (kx : ∀ (E : String) (ce : Cell) (q9 : Addr) (u : SX) (t : State) (H1 : Heap) (locs1 : List Loc), t.heap = H1 → s.vm.Alike t.vm → px u → BX E u t → H.size ≤ H1.size → (∀ q : Nat, q < H.size → ¬ AX q → H1[q]? = H[q]?) → va_S A0 H0 H1 locs1 → H1[q9]? = some ce → ce.vm = .none → s.vm.findClass E = some ce.cls → vx_W p l e R s m args below meth c H1 locs1 (cells + mc) (slots + ms) Q (F0 m pc ls rest) q9)
    (kk : ∀ (r : Int32) (u : S) (t : State) (H1 : Heap) (locs1 : List Loc), t.heap = H1 → s.vm.Alike t.vm → post r u → B u t → H.size ≤ H1.size → (∀ q : Nat, q < H.size → ¬ A1 q → H1[q]? = H[q]?) → va_S A0 H0 H1 locs1 → W p l e R s m args below meth c H1 locs1 (cells + mc) (slots + ms) Q (F0 m (pc + 3) ls (.int r :: rest))) : W p l e R s m args below meth c H locs cells slots Q (F0 m pc ls st0) := by
  intro T hT X
  rcases hr T hT X with ⟨v, st₀, t, T', L, h0, X', hL, e1, e2, ⟨⟨r, u, hv, hp, hb⟩, hF⟩, st⟩ | ⟨q, st₀, t, T', L, E, ce, h0, X', hL, e1, e2, ⟨u, hp, hb, hF⟩, hce, hcv, hcl, st⟩
  · cases hv
    obtain ⟨k1, k2, k3⟩ := vx_keep h0 e1 hS hA hf hL hF
    obtain ⟨t2, a1, b1⟩ := kk r u t T'.heap (locs ++ L) e1.symm (by rw [← e2]; exact X'.warmed.alike) hp hb k1 k2 k3 T' rfl X'
    exact ⟨t2, st t2 a1, b1⟩
  · obtain ⟨k1, k2, k3⟩ := vx_keep h0 e1 hS hAX hf hL hF
    obtain ⟨t2, a1, b1⟩ := kx E ce q u t T'.heap (locs ++ L) e1.symm (by rw [← e2]; exact X'.warmed.alike) hp hb k1 k2 k3 (by rw [e1]; exact hce) hcv hcl T' rfl X'
    exact ⟨t2, st.trans a1, b1⟩
theorem vx_calll {S SX : Type} {post : Int64 → S → Prop} {px : SX → Prop} {B : S → State → Prop} {BX : String → SX → State → Prop} {AX : Nat → Prop} (hr : vx_Run p l e R s m args below meth c H locs cells slots mc ms (F0 m pc ls st0) rest (va_Ql post B A1 a) (vx_X px BX AX) free) (hS : va_S A0 H0 H locs) (hA : ∀ q, q < H.size → A1 q → A0 q) (hf : ∀ q, free q → A0 q) (hAX : ∀ q, q < H.size → AX q → A0 q)
    (kx : ∀ (E : String) (ce : Cell) (q9 : Addr) (u : SX) (t : State) (H1 : Heap) (locs1 : List Loc), t.heap = H1 → s.vm.Alike t.vm → px u → BX E u t → H.size ≤ H1.size → (∀ q : Nat, q < H.size → ¬ AX q → H1[q]? = H[q]?) → va_S A0 H0 H1 locs1 → H1[q9]? = some ce → ce.vm = .none → s.vm.findClass E = some ce.cls → vx_W p l e R s m args below meth c H1 locs1 (cells + mc) (slots + ms) Q (F0 m pc ls rest) q9)
    (kk : ∀ (r : Int64) (u : S) (t : State) (H1 : Heap) (locs1 : List Loc), t.heap = H1 → s.vm.Alike t.vm → post r u → B u t → H.size ≤ H1.size → (∀ q : Nat, q < H.size → ¬ A1 q → H1[q]? = H[q]?) → va_S A0 H0 H1 locs1 → W p l e R s m args below meth c H1 locs1 (cells + mc) (slots + ms) Q (F0 m (pc + 3) ls (.long r :: rest))) : W p l e R s m args below meth c H locs cells slots Q (F0 m pc ls st0) := by
  intro T hT X
  rcases hr T hT X with ⟨v, st₀, t, T', L, h0, X', hL, e1, e2, ⟨⟨r, u, hv, hp, hb⟩, hF⟩, st⟩ | ⟨q, st₀, t, T', L, E, ce, h0, X', hL, e1, e2, ⟨u, hp, hb, hF⟩, hce, hcv, hcl, st⟩
  · cases hv
    obtain ⟨k1, k2, k3⟩ := vx_keep h0 e1 hS hA hf hL hF
    obtain ⟨t2, a1, b1⟩ := kk r u t T'.heap (locs ++ L) e1.symm (by rw [← e2]; exact X'.warmed.alike) hp hb k1 k2 k3 T' rfl X'
    exact ⟨t2, st t2 a1, b1⟩
  · obtain ⟨k1, k2, k3⟩ := vx_keep h0 e1 hS hAX hf hL hF
    obtain ⟨t2, a1, b1⟩ := kx E ce q u t T'.heap (locs ++ L) e1.symm (by rw [← e2]; exact X'.warmed.alike) hp hb k1 k2 k3 (by rw [e1]; exact hce) hcv hcl T' rfl X'
    exact ⟨t2, st.trans a1, b1⟩
theorem vx_callf {S SX : Type} {post : UInt32 → S → Prop} {px : SX → Prop} {B : S → State → Prop} {BX : String → SX → State → Prop} {AX : Nat → Prop} (hr : vx_Run p l e R s m args below meth c H locs cells slots mc ms (F0 m pc ls st0) rest (va_Qf post B A1 a) (vx_X px BX AX) free) (hS : va_S A0 H0 H locs) (hA : ∀ q, q < H.size → A1 q → A0 q) (hf : ∀ q, free q → A0 q) (hAX : ∀ q, q < H.size → AX q → A0 q)
    (kx : ∀ (E : String) (ce : Cell) (q9 : Addr) (u : SX) (t : State) (H1 : Heap) (locs1 : List Loc), t.heap = H1 → s.vm.Alike t.vm → px u → BX E u t → H.size ≤ H1.size → (∀ q : Nat, q < H.size → ¬ AX q → H1[q]? = H[q]?) → va_S A0 H0 H1 locs1 → H1[q9]? = some ce → ce.vm = .none → s.vm.findClass E = some ce.cls → vx_W p l e R s m args below meth c H1 locs1 (cells + mc) (slots + ms) Q (F0 m pc ls rest) q9)
    (kk : ∀ (r : UInt32) (u : S) (t : State) (H1 : Heap) (locs1 : List Loc), t.heap = H1 → s.vm.Alike t.vm → post r u → B u t → H.size ≤ H1.size → (∀ q : Nat, q < H.size → ¬ A1 q → H1[q]? = H[q]?) → va_S A0 H0 H1 locs1 → W p l e R s m args below meth c H1 locs1 (cells + mc) (slots + ms) Q (F0 m (pc + 3) ls (.float r :: rest))) : W p l e R s m args below meth c H locs cells slots Q (F0 m pc ls st0) := by
  intro T hT X
  rcases hr T hT X with ⟨v, st₀, t, T', L, h0, X', hL, e1, e2, ⟨⟨r, u, hv, hp, hb⟩, hF⟩, st⟩ | ⟨q, st₀, t, T', L, E, ce, h0, X', hL, e1, e2, ⟨u, hp, hb, hF⟩, hce, hcv, hcl, st⟩
  · cases hv
    obtain ⟨k1, k2, k3⟩ := vx_keep h0 e1 hS hA hf hL hF
    obtain ⟨t2, a1, b1⟩ := kk r u t T'.heap (locs ++ L) e1.symm (by rw [← e2]; exact X'.warmed.alike) hp hb k1 k2 k3 T' rfl X'
    exact ⟨t2, st t2 a1, b1⟩
  · obtain ⟨k1, k2, k3⟩ := vx_keep h0 e1 hS hAX hf hL hF
    obtain ⟨t2, a1, b1⟩ := kx E ce q u t T'.heap (locs ++ L) e1.symm (by rw [← e2]; exact X'.warmed.alike) hp hb k1 k2 k3 (by rw [e1]; exact hce) hcv hcl T' rfl X'
    exact ⟨t2, st.trans a1, b1⟩
theorem vx_calld {S SX : Type} {post : UInt64 → S → Prop} {px : SX → Prop} {B : S → State → Prop} {BX : String → SX → State → Prop} {AX : Nat → Prop} (hr : vx_Run p l e R s m args below meth c H locs cells slots mc ms (F0 m pc ls st0) rest (va_Qd post B A1 a) (vx_X px BX AX) free) (hS : va_S A0 H0 H locs) (hA : ∀ q, q < H.size → A1 q → A0 q) (hf : ∀ q, free q → A0 q) (hAX : ∀ q, q < H.size → AX q → A0 q)
    (kx : ∀ (E : String) (ce : Cell) (q9 : Addr) (u : SX) (t : State) (H1 : Heap) (locs1 : List Loc), t.heap = H1 → s.vm.Alike t.vm → px u → BX E u t → H.size ≤ H1.size → (∀ q : Nat, q < H.size → ¬ AX q → H1[q]? = H[q]?) → va_S A0 H0 H1 locs1 → H1[q9]? = some ce → ce.vm = .none → s.vm.findClass E = some ce.cls → vx_W p l e R s m args below meth c H1 locs1 (cells + mc) (slots + ms) Q (F0 m pc ls rest) q9)
    (kk : ∀ (r : UInt64) (u : S) (t : State) (H1 : Heap) (locs1 : List Loc), t.heap = H1 → s.vm.Alike t.vm → post r u → B u t → H.size ≤ H1.size → (∀ q : Nat, q < H.size → ¬ A1 q → H1[q]? = H[q]?) → va_S A0 H0 H1 locs1 → W p l e R s m args below meth c H1 locs1 (cells + mc) (slots + ms) Q (F0 m (pc + 3) ls (.double r :: rest))) : W p l e R s m args below meth c H locs cells slots Q (F0 m pc ls st0) := by
  intro T hT X
  rcases hr T hT X with ⟨v, st₀, t, T', L, h0, X', hL, e1, e2, ⟨⟨r, u, hv, hp, hb⟩, hF⟩, st⟩ | ⟨q, st₀, t, T', L, E, ce, h0, X', hL, e1, e2, ⟨u, hp, hb, hF⟩, hce, hcv, hcl, st⟩
  · cases hv
    obtain ⟨k1, k2, k3⟩ := vx_keep h0 e1 hS hA hf hL hF
    obtain ⟨t2, a1, b1⟩ := kk r u t T'.heap (locs ++ L) e1.symm (by rw [← e2]; exact X'.warmed.alike) hp hb k1 k2 k3 T' rfl X'
    exact ⟨t2, st t2 a1, b1⟩
  · obtain ⟨k1, k2, k3⟩ := vx_keep h0 e1 hS hAX hf hL hF
    obtain ⟨t2, a1, b1⟩ := kx E ce q u t T'.heap (locs ++ L) e1.symm (by rw [← e2]; exact X'.warmed.alike) hp hb k1 k2 k3 (by rw [e1]; exact hce) hcv hcl T' rfl X'
    exact ⟨t2, st.trans a1, b1⟩
theorem vx_callv {S SX : Type} {post : S → Prop} {px : SX → Prop} {B : S → State → Prop} {BX : String → SX → State → Prop} {AX : Nat → Prop} (hr : vx_Run p l e R s m args below meth c H locs cells slots mc ms (F0 m pc ls st0) rest (va_Qv post B A1 a) (vx_X px BX AX) free) (hS : va_S A0 H0 H locs) (hA : ∀ q, q < H.size → A1 q → A0 q) (hf : ∀ q, free q → A0 q) (hAX : ∀ q, q < H.size → AX q → A0 q)
    (kx : ∀ (E : String) (ce : Cell) (q9 : Addr) (u : SX) (t : State) (H1 : Heap) (locs1 : List Loc), t.heap = H1 → s.vm.Alike t.vm → px u → BX E u t → H.size ≤ H1.size → (∀ q : Nat, q < H.size → ¬ AX q → H1[q]? = H[q]?) → va_S A0 H0 H1 locs1 → H1[q9]? = some ce → ce.vm = .none → s.vm.findClass E = some ce.cls → vx_W p l e R s m args below meth c H1 locs1 (cells + mc) (slots + ms) Q (F0 m pc ls rest) q9)
    (kk : ∀ (u : S) (t : State) (H1 : Heap) (locs1 : List Loc), t.heap = H1 → s.vm.Alike t.vm → post u → B u t → H.size ≤ H1.size → (∀ q : Nat, q < H.size → ¬ A1 q → H1[q]? = H[q]?) → va_S A0 H0 H1 locs1 → W p l e R s m args below meth c H1 locs1 (cells + mc) (slots + ms) Q (F0 m (pc + 3) ls (rest))) : W p l e R s m args below meth c H locs cells slots Q (F0 m pc ls st0) := by
  intro T hT X
  rcases hr T hT X with ⟨v, st₀, t, T', L, h0, X', hL, e1, e2, ⟨⟨u, hv, hp, hb⟩, hF⟩, st⟩ | ⟨q, st₀, t, T', L, E, ce, h0, X', hL, e1, e2, ⟨u, hp, hb, hF⟩, hce, hcv, hcl, st⟩
  · cases hv
    obtain ⟨k1, k2, k3⟩ := vx_keep h0 e1 hS hA hf hL hF
    obtain ⟨t2, a1, b1⟩ := kk u t T'.heap (locs ++ L) e1.symm (by rw [← e2]; exact X'.warmed.alike) hp hb k1 k2 k3 T' rfl X'
    exact ⟨t2, st t2 a1, b1⟩
  · obtain ⟨k1, k2, k3⟩ := vx_keep h0 e1 hS hAX hf hL hF
    obtain ⟨t2, a1, b1⟩ := kx E ce q u t T'.heap (locs ++ L) e1.symm (by rw [← e2]; exact X'.warmed.alike) hp hb k1 k2 k3 (by rw [e1]; exact hce) hcv hcl T' rfl X'
    exact ⟨t2, st.trans a1, b1⟩
end Rows
section Ends
variable {p : Program} {l : Launch} {e : Env} {R : Room} {s : State} {m : MethodId} {args : Array Value} {below : List Frame} {meth : Method} {c : Code} {H : Heap} {locs : List Loc} {cells slots : Nat} {Q : State → Prop}
variable {mc ms : Nat} {free : Addr → Prop} {A0 A1 : Nat → Prop} {H0 : Heap} {a : Array Value} {ls : Array Slot} {st0 rest : List Value}
variable {Qc : Array Value → State → Outcome → State → Prop} {XC : String → State → State → Prop}
/-- what a body that may throw owes at its end -/
def vx_MQ (below : List Frame) (Qc : Array Value → State → Outcome → State → Prop) (XC : String → State → State → Prop) (a : Array Value) (s : State) (mc ms : Nat) (free : Addr → Prop) : State → Prop := fun t =>
  ∃ o, t.status = .running ∧ Ended t below o ∧ vx_Q Qc XC mc ms free a s o t
theorem vx_ret {g : JFrame} {mc ms : Nat} (k : W p l e R s m args below meth c H locs cells slots (MQ below Qc args s mc ms free) g) : W p l e R s m args below meth c H locs cells slots (vx_MQ below Qc XC args s mc ms free) g := by
  intro T hT X
  obtain ⟨t, a1, o, b1, b2, b3, b4⟩ := k T hT X
  exact ⟨t, a1, o, b1, b2, Or.inl ⟨b3, b4⟩⟩
/-- not caught here: it goes on to the caller -/
theorem vx_widen {g : JFrame} {q : Addr} {k n : Nat} (h1 : cells ≤ k) (h2 : slots ≤ n) (kk : vx_W p l e R s m args below meth c H locs k n Q g q) : vx_W p l e R s m args below meth c H locs cells slots Q g q := fun T hT X => kk T hT (stand_widen X h1 h2)
theorem vx_out {pc : Nat} {E : String} {ce : Cell} {q : Addr} {mc ms : Nat} (hout : ∀ x ∈ c.exceptionTable.toList, covers x pc = false) (hlocks : meth.locks = false) (hcell : H[q]? = some ce) (hv : ce.vm = .none) (hcl : s.vm.findClass E = some ce.cls)
    (hx : ∀ t : State, t.heap = H → s.vm.Alike t.vm → XC E s t) (hf : ∀ z ∈ locs, free z.base) (hc : cells ≤ mc) (hs : slots ≤ ms) :
    vx_W p l e R s m args below meth c H locs cells slots (vx_MQ below Qc XC args s mc ms free) (F0 m pc ls rest) q := by
  intro T hT X
  obtain ⟨st1, hrun, hend, hW, hsm⟩ := X.leaveThrown q (g := F0 m pc ls rest) rfl rfl rfl hout hlocks
  have hcell9 : (T.setFrames (.throwing q :: below)).heap[q]? = some ce := by
    show T.heap[q]? = some ce
    rw [hT]; exact hcell
  exact ⟨_, st1, .threw q, hrun, hend, Or.inr ⟨q, rfl, E, ce, locs, hx _ hT hW.alike, hcell9, hv, hcl, hW, hsm.mono hc hs, hf⟩⟩
theorem vx_frame {U : State} {k n : Nat} (h : s.sameButNew ({ U with vm := s.vm } : State) locs k n) : s.heap.size ≤ U.heap.size ∧ ∀ q : Nat, q < s.heap.size → (∀ z ∈ locs, z.base ≠ q) → U.heap[q]? = s.heap[q]? := by
  obtain ⟨-, h2, -, -, -, h6⟩ := h
  refine ⟨h2, fun q hq hz => ?_⟩
  obtain ⟨c9, e1, e2, e3, e4⟩ := h6 q _ (Array.getElem?_eq_getElem hq)
  have hs : c9.slots = (s.heap[q]).slots := Array.ext_getElem? fun i => e4 i fun hm => hz _ hm rfl
  have h9 : c9 = s.heap[q] := by
    rw [hs] at e2
    exact e2
  have e5 : U.heap[q]? = some c9 := e1
  rw [e5, h9, Array.getElem?_eq_getElem hq]
/-- the words of a throw but the four that speak of the heap -/
def vx_no (w : Cond) : Bool := decide (w ≠ .isRef (.static Jvm.Bundle.tN "UNASSIGNED_STACK" Jvm.Bundle.steD)) && decide (w ≠ .isRef (.static Jvm.Bundle.tN "SUPPRESSED_SENTINEL" Jvm.Bundle.listD)) && decide (w ≠ .laysStatic Jvm.Bundle.tN "UNASSIGNED_STACK" Jvm.Bundle.steD) && decide (w ≠ .laysStatic Jvm.Bundle.tN "SUPPRESSED_SENTINEL" Jvm.Bundle.listD)
def vx_at0 (own : String) (ic : Nat) (X : String) (names : List String) : List Cond := (Jvm.Bundle.ownAtoms0 own ic X names).filter vx_no
def vx_atS (own : String) (ic : Nat) (X : String) (names : List String) : List Cond := (Jvm.Bundle.ownAtoms own ic X names).filter vx_no
/-- a word that the tables alone decide, or a good one -/
def vx_ot (w : Cond) : Bool := w.onTables || goodWord w
theorem vx_ot_at {args a' : Array Value} {s U : State} {w : Cond} (hW : s.WarmedH U.vm) (hvm : s.vm = U.vm) (hg : vx_ot w = true) (h : w.before args s = true) : w.before a' U = true := by
  simp only [vx_ot, Bool.or_eq_true] at hg
  rcases hg with hg | hg
  · exact va_tabs hg hvm h
  · exact word_at hW (good_of_word hg) h
/-- a list's words: the good ones out of the method's own list, the others by premises of their own -/
theorem vx_hat {args : Array Value} {s : State} {L B : List Cond} (h1 : ∀ w ∈ L.filter goodWord, w.before args s = true) (h2 : ∀ w ∈ L.filter (fun w => !goodWord w), w ∈ B) (h3 : ∀ w ∈ B, w.before args s = true) : ∀ w ∈ L, w.before args s = true := by
  intro w hw
  by_cases g : goodWord w = true
  · exact h1 w (List.mem_filter.mpr ⟨hw, g⟩)
  · refine h3 w (h2 w (List.mem_filter.mpr ⟨hw, ?_⟩))
    show (!goodWord w) = true
    cases hgw : goodWord w
    · rfl
    · exact absurd hgw g
theorem vx_c {args : Array Value} {s : State} {w : Cond} {B : List Cond} (h : w.before args s = true) (t : ∀ w ∈ B, w.before args s = true) : ∀ w' ∈ w :: B, w'.before args s = true := fun w' h' => (List.mem_cons.mp h').elim (fun e => by rw [e]; exact h) (t w')
theorem vx_n {args : Array Value} {s : State} : ∀ w ∈ ([] : List Cond), w.before args s = true := fun _ h => nomatch h
theorem vx_own {args : Array Value} {s : State} {L : List Cond} (h1 : ∀ w ∈ L.filter vx_no, w.before args s = true)
    (hU : (Cond.isRef (.static Jvm.Bundle.tN "UNASSIGNED_STACK" Jvm.Bundle.steD)).before args s = true) (hN : (Cond.isRef (.static Jvm.Bundle.tN "SUPPRESSED_SENTINEL" Jvm.Bundle.listD)).before args s = true)
    (lU : (Cond.laysStatic Jvm.Bundle.tN "UNASSIGNED_STACK" Jvm.Bundle.steD).before args s = true) (lN : (Cond.laysStatic Jvm.Bundle.tN "SUPPRESSED_SENTINEL" Jvm.Bundle.listD).before args s = true) : ∀ w ∈ L, w.before args s = true := by
  intro w hw
  by_cases e1 : w = .isRef (.static Jvm.Bundle.tN "UNASSIGNED_STACK" Jvm.Bundle.steD)
  · rw [e1]; exact hU
  · by_cases e2 : w = .isRef (.static Jvm.Bundle.tN "SUPPRESSED_SENTINEL" Jvm.Bundle.listD)
    · rw [e2]; exact hN
    · by_cases e3 : w = .laysStatic Jvm.Bundle.tN "UNASSIGNED_STACK" Jvm.Bundle.steD
      · rw [e3]; exact lU
      · by_cases e4 : w = .laysStatic Jvm.Bundle.tN "SUPPRESSED_SENTINEL" Jvm.Bundle.listD
        · rw [e4]; exact lN
        · exact h1 w (List.mem_filter.mpr ⟨hw, by unfold vx_no; rw [decide_eq_true e1, decide_eq_true e2, decide_eq_true e3, decide_eq_true e4]; rfl⟩)
/-- where a static field lies, its class's statics cell in H -/
def vx_L (C n d : String) (A : Nat → Prop) (U : State) (H : Heap) : Prop := ∃ (c : ClassId) (k : Class) (i : Nat) (f : Field) (a : Nat) (cell : Cell), U.vm.findClass C = some c ∧ U.fieldFound? C n d = some (c, k, i, f) ∧ f.isStatic = true ∧ k.statics = some a ∧ H[a]? = some cell ∧ cell.vm.isStatics = true ∧ cell.cls = c ∧ f.slot < cell.slots.size ∧ k.staticTypes[f.slot]? = some f.type ∧ ¬ A a
theorem vx_L.moved {C n d : String} {A : Nat → Prop} {u U : State} {H : Heap} (hvm : u.vm.Alike U.vm) (h : vx_L C n d A u H) : vx_L C n d A U H := by
  obtain ⟨c, k, i, f, a, cell, h1, h2, h3, h4, h5, h6, h7, h8, h9, h10⟩ := h
  obtain ⟨k', hi', he⟩ := State.fieldFound?_setVm hvm h2
  exact ⟨c, k', i, f, a, cell, by rw [hvm.findClass]; exact h1, hi', h3, by rw [he]; exact h4, h5, h6, h7, h8, by rw [he]; exact h9, h10⟩
theorem vx_L.kept {C n d : String} {A : Nat → Prop} {U : State} {H H1 : Heap} (h : vx_L C n d A U H) (hq : ∀ a : Nat, a < H.size → ¬ A a → H1[a]? = H[a]?) : vx_L C n d A U H1 := by
  obtain ⟨c, k, i, f, a, cell, h1, h2, h3, h4, h5, h6, h7, h8, h9, h10⟩ := h
  exact ⟨c, k, i, f, a, cell, h1, h2, h3, h4, by rw [hq a (Array.getElem?_eq_some_iff.mp h5).1 h10]; exact h5, h6, h7, h8, h9, h10⟩
theorem vx_L.narrow {C n d : String} {A B : Nat → Prop} {U : State} {H : Heap} (h : vx_L C n d A U H) (hAB : ∀ q, B q → A q) : vx_L C n d B U H := by
  obtain ⟨c, k, i, f, a, cell, h1, h2, h3, h4, h5, h6, h7, h8, h9, h10⟩ := h
  exact ⟨c, k, i, f, a, cell, h1, h2, h3, h4, h5, h6, h7, h8, h9, fun z => h10 (hAB _ z)⟩
theorem vx_L.word {C n d : String} {A : Nat → Prop} {s : State} {args : Array Value} (h : vx_L C n d A s s.heap) : (Cond.laysStatic C n d).before args s = true := by
  obtain ⟨c, k, i, f, a, cell, h1, h2, h3, h4, h5, h6, h7, h8, h9, -⟩ := h
  show (Cond.laysStatic C n d).holds args s none s [] = true
  exact Cond.laysStatic_of h1 h2 h3 h4 h5 h6 h7 h8 h9
/-- .. and what it holds: null or some reference -/
def vx_Zq (C n d : String) (A : Nat → Prop) (U : State) (H : Heap) : Prop := va_Zq C n d A U H ∧ vx_L C n d A U H
theorem vx_Zq.moved {C n d : String} {A : Nat → Prop} {u U : State} {H : Heap} (hvm : u.vm.Alike U.vm) (h : vx_Zq C n d A u H) : vx_Zq C n d A U H := ⟨va_Zq.moved hvm h.1, vx_L.moved hvm h.2⟩
theorem vx_Zq.kept {C n d : String} {A : Nat → Prop} {U : State} {H H1 : Heap} (h : vx_Zq C n d A U H) (hq : ∀ a : Nat, a < H.size → ¬ A a → H1[a]? = H[a]?) : vx_Zq C n d A U H1 := ⟨va_Zq.kept h.1 hq, vx_L.kept h.2 hq⟩
theorem vx_Zq.narrow {C n d : String} {A B : Nat → Prop} {U : State} {H : Heap} (h : vx_Zq C n d A U H) (hAB : ∀ q, B q → A q) : vx_Zq C n d B U H := ⟨va_Zq.narrow h.1 hAB, vx_L.narrow h.2 hAB⟩
theorem vx_Zqof {args : Array Value} {s : State} {C n d : String} {A : Nat → Prop} (hl : (Cond.laysStatic C n d).before args s = true) (hini : (Cond.initialized C).before args s = true) (h : (Cond.isRef (.static C n d)).before args s = true) (hA : ∀ a : Nat, a < s.heap.size → ¬ A a) : vx_Zq C n d A s s.heap := by
  refine ⟨va_Zqof hl hini h hA, ?_⟩
  obtain ⟨c, k, i, f, a, cell, h1, h2, h3, h4, h5, h6, h7, h8, h9⟩ := Cond.laysStatic_spec hl
  exact ⟨c, k, i, f, a, cell, h1, h2, h3, h4, h5, h6, h7, h8, h9, hA a (Array.getElem?_eq_some_iff.mp h5).1⟩
theorem vx_isRef {C n d : String} {v : Value} {A : Nat → Prop} {s : State} {args : Array Value} (h : va_Z C n d v A s s.heap) (hv : v.isRef = true) : (Cond.isRef (.static C n d)).before args s = true := by
  obtain ⟨cf, kf, fi, f, a, cell, h1, h2, h3, h4, h5, h6, h7, -⟩ := h
  have he : (Term.static C n d).eval args s none [] s = some v := by
    simp [Term.eval, State.fieldNamed?, h1, h2, h4, h5, h6, h7]
  simp only [Cond.before, Cond.holds, Cond.value, he]
  cases v <;> simp_all [Value.isRef]
theorem vx_isRefq {C n d : String} {A : Nat → Prop} {s : State} {args : Array Value} (h : va_Zq C n d A s s.heap) : (Cond.isRef (.static C n d)).before args s = true := by
  rcases h with h | ⟨t, h⟩
  · exact vx_isRef h rfl
  · exact vx_isRef h rfl
/-- the same frame, seen from here: as if the method were called anew in this heap -/
theorem vx_rebase {T : State} (X : Stand p l e R s m args below meth c T locs cells slots) {R' : Room} (hf : R'.frames ≤ R.frames) (hl : R'.locals ≤ R.locals) (hc : cells + R'.cells ≤ R.cells) (hs : slots + R'.slots ≤ R.slots) :
    Stand p l e R' ((T.setVm s.vm).setFrames (.invoking m args :: below)) m args below meth c T [] 0 0 := by
  have htop : (T.setVm s.vm).topJava?.isSome := X.here.top
  have hF : ((T.setVm s.vm).setFrames (.invoking m args :: below)).frames = .invoking m args :: below := State.frames_setFrames _ (State.cur_lt_of_top htop)
  obtain ⟨g₀, hg0⟩ := Option.isSome_iff_exists.mp htop
  obtain ⟨r, hr⟩ := State.topJava?_eq_some.mp hg0
  have hl9 : e.platform.stackLimits (T.setVm s.vm).me = e.platform.stackLimits s.me := X.limits
  have hb9 : (T.setVm s.vm).me.stackBytes = s.me.stackBytes := X.bytes
  refine ⟨X.admits, X.cas, X.clock, hF, ?_, X.hears, X.method, X.code, X.here, X.tail, X.warmed, ?_, ?_, ?_⟩
  · have h := X.room
    have hU : ((T.setVm s.vm).setFrames (.invoking m args :: below)).localsInUse = s.localsInUse := by
      rw [State.localsInUse_invoking hF (meth := meth) (c := c) X.method X.code, State.localsInUse_invoking X.frames X.method X.code]
    simp only [State.hasRoom, Bool.and_eq_true, decide_eq_true_eq] at h ⊢
    obtain ⟨⟨⟨⟨h1, h2, h3, h4, h5, h6⟩, h7⟩, h8⟩, h9⟩ := h
    rw [X.frames, List.length_cons] at h2 h3
    have q1 := X.heapSize
    have q2 := X.used
    simp only [hF, hU, List.length_cons, State.stackLimits_setFrames, State.stackBytes_setFrames, hl9, hb9]
    refine ⟨⟨⟨⟨by omega, by omega, by omega, by omega, by omega, h6⟩, ?_⟩, ?_⟩, X.book⟩
    · show T.heap.size + R'.cells ≤ e.platform.maxCells
      omega
    · show T.slotsUsed + R'.slots ≤ e.platform.maxSlots
      omega
  · rw [State.stackLimits_setFrames]; rfl
  · rw [State.stackBytes_setFrames]; rfl
  · refine ⟨?_, Nat.le_refl _, Nat.le_refl _, ?_, ?_, fun a c9 h9 => ⟨c9, h9, rfl, rfl, fun _ _ => rfl⟩⟩
    · obtain ⟨t, ht, -⟩ := State.frames_cons hr
      show T.setVm s.vm = { ((T.setVm s.vm).setFrames (.invoking m args :: below)).setFrames (T.setVm s.vm).frames with heap := T.heap, slotsUsed := T.slotsUsed }
      rw [State.setFrames_setFrames, State.setFrames_self ht]
      rfl
    · show T.slotsUsed = T.slotsUsed + ((T.heap.toList.drop T.heap.size).map (·.slots.size)).sum
      rw [List.drop_eq_nil_of_le (Nat.le_of_eq Array.length_toList)]
      rfl
    · show ((T.heap.toList.drop T.heap.size).map (·.slots.size)).sum ≤ 0
      rw [List.drop_eq_nil_of_le (Nat.le_of_eq Array.length_toList)]
      exact Nat.le_refl _
/-- 'throw new E()': new; dup; invokespecial; athrow -/
theorem vx_throw0 {cc : ByteArray} {pc : Nat} (hexec : p.tables.exec = Jvm.exec) (hb : c.code = cc) (hl : l.stackTraces = false) {own cls : String} {names : List String} {ik ic mc ms : Nat} {A : Nat → Prop}
    (hown : s.vm.findClass own = some m.cls) (hcls : Jvm.Bundle.fit cls = true) (hnames : ∀ n ∈ names, Jvm.Bundle.fit n = true)
    (hk : (Cond.classLink own ik cls).before args s = true) (hini : (Cond.initialized cls).before args s = true) (hat : ∀ w ∈ vx_at0 own ic cls names, w.before args s = true)
    (hgood : ∀ w ∈ Cond.classLink own ik cls :: Cond.initialized cls :: vx_at0 own ic cls names, vx_ot w = true)
    (hU : vx_Zq Jvm.Bundle.tN "UNASSIGNED_STACK" Jvm.Bundle.steD A s s.heap) (hN : vx_Zq Jvm.Bundle.tN "SUPPRESSED_SENTINEL" Jvm.Bundle.listD A s s.heap) (hS : va_S A s.heap H locs) (hsize : ls.size = c.maxLocals)
    (d0 : decode cc pc = .ok (.new ik, 3)) (d3 : decode cc (pc + 3) = .ok (.dup, 1)) (d4 : decode cc (pc + 4) = .ok (.invokespecial ic, 3)) (d7 : decode cc (pc + 7) = .ok (.athrow, 1))
    (hout : ∀ x ∈ c.exceptionTable.toList, covers x (pc + 7) = false)
    (hRframes : names.length + 3 < R.frames) (hRlocals : (rest.map fun v => v.category).sum + (13 * (names.length + 1) + 42) ≤ R.locals) (hRcells : cells + 1 ≤ R.cells) (hRslots : slots + 6 ≤ R.slots) (hlocks : meth.locks = false)
    (hx : ∀ t : State, s.vm.Alike t.vm → H.size ≤ t.heap.size → (∀ q : Nat, q < H.size → t.heap[q]? = H[q]?) → XC cls s t)
    (hf : ∀ z ∈ locs, free z.base) (hc : cells + 1 ≤ mc) (hs : slots + 6 ≤ ms) :
    W p l e R s m args below meth c H locs cells slots (vx_MQ below Qc XC args s mc ms free) (F0 m pc ls rest) := by
  intro T hT X
  have htr : e.platform.stackTraces = false := (show e.platform.stackTraces = l.stackTraces by rw [X.admits.platform]).trans hl
  have Y := vx_rebase X (R' := { frames := R.frames, locals := R.locals, cells := 1, slots := 6 }) (Nat.le_refl _) (Nat.le_refl _) hRcells hRslots
  obtain ⟨s', hA⟩ : ∃ z, z = (T.setVm s.vm).setFrames (.invoking m args :: below) := ⟨_, rfl⟩
  rw [← hA] at Y
  have hvm : s'.vm = s.vm := by rw [hA]; rfl
  have hhp : s'.heap = H := by rw [hA]; exact hT
  have hW0 : s.WarmedH s'.vm := by rw [hvm]; exact State.WarmedH.refl s
  have hat' : ∀ w ∈ vx_at0 own ic cls names, w.before args s' = true := fun w hw => vx_ot_at hW0 hvm.symm (hgood w (List.mem_cons_of_mem _ (List.mem_cons_of_mem _ hw))) (hat w hw)
  have hk' : (Cond.classLink own ik cls).before args s' = true := vx_ot_at hW0 hvm.symm (hgood _ List.mem_cons_self) hk
  have hini' : (Cond.initialized cls).before args s' = true := vx_ot_at hW0 hvm.symm (hgood _ (List.mem_cons_of_mem _ List.mem_cons_self)) hini
  have hU' : vx_Zq Jvm.Bundle.tN "UNASSIGNED_STACK" Jvm.Bundle.steD A s' s'.heap := by rw [hhp]; exact vx_Zq.moved hW0.alike (hU.kept hS.2.1)
  have hN' : vx_Zq Jvm.Bundle.tN "SUPPRESSED_SENTINEL" Jvm.Bundle.listD A s' s'.heap := by rw [hhp]; exact vx_Zq.moved hW0.alike (hN.kept hS.2.1)
  have h : ∀ w ∈ Jvm.Bundle.ownAtoms0 own ic cls names, w.before args s' = true := vx_own hat' (vx_isRefq hU'.1) (vx_isRefq hN'.1) hU'.2.word hN'.2.word
  have hown' : s'.vm.findClass own = some m.cls := by rw [hvm]; exact hown
  have hins : (Cond.instantiable cls 6).before args s' = true := h _ (by simp [Jvm.Bundle.ownAtoms0])
  obtain ⟨vm₁, cX, kX, hfX, hkX, -, -, X₁, st1⟩ := Y.newCold hexec (own := own) (C := cls) (index := ik) (n := 6) hown' hk' hins hini'
    (g := F0 m pc ls rest) rfl (by rw [hb]; exact d0) (Nat.le_refl _) (Nat.le_refl _)
  generalize hT1 : (T.setVm vm₁).pushCell { cls := cX, slots := kX.instanceTypes.map defaultValue, vm := .none } = T1 at X₁ st1
  have hcat : (Value.ref T.heap.size).category = 1 := rfl
  have hcellA : T1.heap[T.heap.size]? = some (freshCell cX kX) := by rw [← hT1]; exact State.heap_pushCell_size _ _
  have d3' : decode c.code (pc + 3) = .ok (.dup, 1) := by rw [hb]; exact d3
  obtain ⟨U, hsteps, hrun, hend, hW, hsame, ce, hce, hO⟩ := X₁.ctorThrow0 hexec htr (own := own) (cls := cls) (names := names) (ic := ic) hown' hcls hnames h (fun x hx => nomatch hx) hfX hkX hcellA (by rw [hhp, hT]; exact Nat.le_refl _)
    (g := { method := m, pc := pc + 4, locals := ls, stack := .ref T.heap.size :: .ref T.heap.size :: rest, locked := none }) rfl hsize rfl rfl (rest := rest) rfl
    (by rw [hb]; exact d4) (by rw [hb]; exact d7) hout hRframes (by simp only [List.map_cons, List.sum_cons, hcat]; omega) hlocks
  obtain ⟨f1, f2⟩ := vx_frame hsame
  rw [hhp] at f1 f2
  have hWs : s.WarmedH U.vm := State.WarmedH.trans hW0 hW
  have hcl : s.vm.findClass cls = some ce.cls := by
    have h9 := hO.cls
    rw [hvm] at h9
    exact h9
  have hall : s.sameButNew ({ U with vm := s.vm } : State) locs mc ms := by
    subst hA
    obtain ⟨e1, e2⟩ := hsame
    rw [State.setFrames_setFrames] at e1
    have h2 : (T.setVm s.vm).sameButNew ({ U with vm := s.vm } : State) [] (0 + 1) (0 + 6) := ⟨e1, e2⟩
    have h3 := X.same.trans h2
    rw [List.append_nil] at h3
    exact h3.mono hc hs
  refine ⟨U, ?_, .threw T.heap.size, hrun, hend, Or.inr ⟨T.heap.size, rfl, cls, ce, locs, hx U hWs.alike f1 (fun q hq => f2 q hq (fun z hz => nomatch hz)), hce, hO.vm, hcl, hWs, hall, hf⟩⟩
  refine st1 _ ?_
  show Steps p.tables e below (T1.setTop { method := m, pc := pc + 3, locals := ls, stack := .ref T.heap.size :: rest, locked := none }) _
  jvm_step X₁.here [X₁.here.top, hexec, d3', Value.category]
  exact hsteps
/-- 'throw new E("text")': new; dup; ldc; invokespecial; athrow -/
theorem vx_throwS {cc : ByteArray} {pc : Nat} (hexec : p.tables.exec = Jvm.exec) (hb : c.code = cc) (hl : l.stackTraces = false) {own cls text : String} {names : List String} {ik is ic mc ms sa : Nat} {A : Nat → Prop}
    (hown : s.vm.findClass own = some m.cls) (hcls : Jvm.Bundle.fit cls = true) (hnames : ∀ n ∈ names, Jvm.Bundle.fit n = true)
    (hk : (Cond.classLink own ik cls).before args s = true) (hini : (Cond.initialized cls).before args s = true) (hstr : vk_R own is text sa s) (hat : ∀ w ∈ vx_atS own ic cls names, w.before args s = true)
    (hgood : ∀ w ∈ Cond.classLink own ik cls :: Cond.initialized cls :: vx_atS own ic cls names, vx_ot w = true)
    (hU : vx_Zq Jvm.Bundle.tN "UNASSIGNED_STACK" Jvm.Bundle.steD A s s.heap) (hN : vx_Zq Jvm.Bundle.tN "SUPPRESSED_SENTINEL" Jvm.Bundle.listD A s s.heap) (hS : va_S A s.heap H locs) (hsize : ls.size = c.maxLocals)
    (d0 : decode cc pc = .ok (.new ik, 3)) (d3 : decode cc (pc + 3) = .ok (.dup, 1)) (d4 : decode cc (pc + 4) = .ok (.ldc is, 2)) (d6 : decode cc (pc + 6) = .ok (.invokespecial ic, 3)) (d9 : decode cc (pc + 9) = .ok (.athrow, 1))
    (hout : ∀ x ∈ c.exceptionTable.toList, covers x (pc + 9) = false)
    (hRframes : names.length + 3 < R.frames) (hRlocals : (rest.map fun v => v.category).sum + (13 * (names.length + 1) + 43) ≤ R.locals) (hRcells : cells + 1 ≤ R.cells) (hRslots : slots + 6 ≤ R.slots) (hlocks : meth.locks = false)
    (hx : ∀ t : State, s.vm.Alike t.vm → H.size ≤ t.heap.size → (∀ q : Nat, q < H.size → t.heap[q]? = H[q]?) → XC cls s t)
    (hf : ∀ z ∈ locs, free z.base) (hc : cells + 1 ≤ mc) (hs : slots + 6 ≤ ms) :
    W p l e R s m args below meth c H locs cells slots (vx_MQ below Qc XC args s mc ms free) (F0 m pc ls rest) := by
  intro T hT X
  have htr : e.platform.stackTraces = false := (show e.platform.stackTraces = l.stackTraces by rw [X.admits.platform]).trans hl
  have Y := vx_rebase X (R' := { frames := R.frames, locals := R.locals, cells := 1, slots := 6 }) (Nat.le_refl _) (Nat.le_refl _) hRcells hRslots
  obtain ⟨s', hA⟩ : ∃ z, z = (T.setVm s.vm).setFrames (.invoking m args :: below) := ⟨_, rfl⟩
  rw [← hA] at Y
  have hvm : s'.vm = s.vm := by rw [hA]; rfl
  have hhp : s'.heap = H := by rw [hA]; exact hT
  have hW0 : s.WarmedH s'.vm := by rw [hvm]; exact State.WarmedH.refl s
  have hat' : ∀ w ∈ vx_atS own ic cls names, w.before args s' = true := fun w hw => vx_ot_at hW0 hvm.symm (hgood w (List.mem_cons_of_mem _ (List.mem_cons_of_mem _ hw))) (hat w hw)
  have hk' : (Cond.classLink own ik cls).before args s' = true := vx_ot_at hW0 hvm.symm (hgood _ List.mem_cons_self) hk
  have hini' : (Cond.initialized cls).before args s' = true := vx_ot_at hW0 hvm.symm (hgood _ (List.mem_cons_of_mem _ List.mem_cons_self)) hini
  have hU' : vx_Zq Jvm.Bundle.tN "UNASSIGNED_STACK" Jvm.Bundle.steD A s' s'.heap := by rw [hhp]; exact vx_Zq.moved hW0.alike (hU.kept hS.2.1)
  have hN' : vx_Zq Jvm.Bundle.tN "SUPPRESSED_SENTINEL" Jvm.Bundle.listD A s' s'.heap := by rw [hhp]; exact vx_Zq.moved hW0.alike (hN.kept hS.2.1)
  have h : ∀ w ∈ Jvm.Bundle.ownAtoms own ic cls names, w.before args s' = true := vx_own hat' (vx_isRefq hU'.1) (vx_isRefq hN'.1) hU'.2.word hN'.2.word
  have hown' : s'.vm.findClass own = some m.cls := by rw [hvm]; exact hown
  have hins : (Cond.instantiable cls 6).before args s' = true := h _ (by simp [Jvm.Bundle.ownAtoms])
  obtain ⟨vm₁, cX, kX, hfX, hkX, -, -, X₁, st1⟩ := Y.newCold hexec (own := own) (C := cls) (index := ik) (n := 6) hown' hk' hins hini'
    (g := F0 m pc ls rest) rfl (by rw [hb]; exact d0) (Nat.le_refl _) (Nat.le_refl _)
  generalize hT1 : (T.setVm vm₁).pushCell { cls := cX, slots := kX.instanceTypes.map defaultValue, vm := .none } = T1 at X₁ st1
  have hcat : (Value.ref T.heap.size).category = 1 := rfl
  have hcellA : T1.heap[T.heap.size]? = some (freshCell cX kX) := by rw [← hT1]; exact State.heap_pushCell_size _ _
  have d3' : decode c.code (pc + 3) = .ok (.dup, 1) := by rw [hb]; exact d3
  have d4' : decode c.code (pc + 4) = .ok (.ldc is, 2) := by rw [hb]; exact d4
  have hstr' : vk_R own is text sa s' := vk_R.warm hW0 hstr
  obtain ⟨U, hsteps, hrun, hend, hW, hsame, ce, hce, hO⟩ := X₁.ctorThrowS hexec htr (own := own) (cls := cls) (names := names) (ic := ic) hown' hcls hnames h (fun x hx => nomatch hx) hfX hkX hcellA (by rw [hhp, hT]; exact Nat.le_refl _) (msg := .ref sa) rfl
    (g := { method := m, pc := pc + 6, locals := ls, stack := .ref sa :: .ref T.heap.size :: .ref T.heap.size :: rest, locked := none }) rfl hsize rfl rfl (rest := rest) rfl
    (by rw [hb]; exact d6) (by rw [hb]; exact d9) hout hRframes (by simp only [List.map_cons, List.sum_cons, hcat]; omega) hlocks
  obtain ⟨f1, f2⟩ := vx_frame hsame
  rw [hhp] at f1 f2
  have hWs : s.WarmedH U.vm := State.WarmedH.trans hW0 hW
  have hcl : s.vm.findClass cls = some ce.cls := by
    have h9 := hO.cls
    rw [hvm] at h9
    exact h9
  have hall : s.sameButNew ({ U with vm := s.vm } : State) locs mc ms := by
    subst hA
    obtain ⟨e1, e2⟩ := hsame
    rw [State.setFrames_setFrames] at e1
    have h2 : (T.setVm s.vm).sameButNew ({ U with vm := s.vm } : State) [] (0 + 1) (0 + 6) := ⟨e1, e2⟩
    have h3 := X.same.trans h2
    rw [List.append_nil] at h3
    exact h3.mono hc hs
  refine ⟨U, ?_, .threw T.heap.size, hrun, hend, Or.inr ⟨T.heap.size, rfl, cls, ce, locs, hx U hWs.alike f1 (fun q hq => f2 q hq (fun z hz => nomatch hz)), hce, hO.vm, hcl, hWs, hall, hf⟩⟩
  refine st1 _ ?_
  show Steps p.tables e below (T1.setTop { method := m, pc := pc + 3, locals := ls, stack := .ref T.heap.size :: rest, locked := none }) _
  jvm_step X₁.here [X₁.here.top, hexec, d3', Value.category]
  exact X₁.ldcString hexec (own := own) (text := text) (index := is) (a := sa) hown' hstr'.1 hstr'.2
    (g := { method := m, pc := pc + 4, locals := ls, stack := .ref T.heap.size :: .ref T.heap.size :: rest, locked := none }) rfl d4' _ hsteps
/-- 'throw new E("text")', the text by a wide index -/
theorem vx_throwSW {cc : ByteArray} {pc : Nat} (hexec : p.tables.exec = Jvm.exec) (hb : c.code = cc) (hl : l.stackTraces = false) {own cls text : String} {names : List String} {ik is ic mc ms sa : Nat} {A : Nat → Prop}
    (hown : s.vm.findClass own = some m.cls) (hcls : Jvm.Bundle.fit cls = true) (hnames : ∀ n ∈ names, Jvm.Bundle.fit n = true)
    (hk : (Cond.classLink own ik cls).before args s = true) (hini : (Cond.initialized cls).before args s = true) (hstr : vk_R own is text sa s) (hat : ∀ w ∈ vx_atS own ic cls names, w.before args s = true)
    (hgood : ∀ w ∈ Cond.classLink own ik cls :: Cond.initialized cls :: vx_atS own ic cls names, vx_ot w = true)
    (hU : vx_Zq Jvm.Bundle.tN "UNASSIGNED_STACK" Jvm.Bundle.steD A s s.heap) (hN : vx_Zq Jvm.Bundle.tN "SUPPRESSED_SENTINEL" Jvm.Bundle.listD A s s.heap) (hS : va_S A s.heap H locs) (hsize : ls.size = c.maxLocals)
    (d0 : decode cc pc = .ok (.new ik, 3)) (d3 : decode cc (pc + 3) = .ok (.dup, 1)) (d4 : decode cc (pc + 4) = .ok (.ldc_w is, 3)) (d7 : decode cc (pc + 7) = .ok (.invokespecial ic, 3)) (d10 : decode cc (pc + 10) = .ok (.athrow, 1))
    (hout : ∀ x ∈ c.exceptionTable.toList, covers x (pc + 10) = false)
    (hRframes : names.length + 3 < R.frames) (hRlocals : (rest.map fun v => v.category).sum + (13 * (names.length + 1) + 43) ≤ R.locals) (hRcells : cells + 1 ≤ R.cells) (hRslots : slots + 6 ≤ R.slots) (hlocks : meth.locks = false)
    (hx : ∀ t : State, s.vm.Alike t.vm → H.size ≤ t.heap.size → (∀ q : Nat, q < H.size → t.heap[q]? = H[q]?) → XC cls s t)
    (hf : ∀ z ∈ locs, free z.base) (hc : cells + 1 ≤ mc) (hs : slots + 6 ≤ ms) :
    W p l e R s m args below meth c H locs cells slots (vx_MQ below Qc XC args s mc ms free) (F0 m pc ls rest) := by
  intro T hT X
  have htr : e.platform.stackTraces = false := (show e.platform.stackTraces = l.stackTraces by rw [X.admits.platform]).trans hl
  have Y := vx_rebase X (R' := { frames := R.frames, locals := R.locals, cells := 1, slots := 6 }) (Nat.le_refl _) (Nat.le_refl _) hRcells hRslots
  obtain ⟨s', hA⟩ : ∃ z, z = (T.setVm s.vm).setFrames (.invoking m args :: below) := ⟨_, rfl⟩
  rw [← hA] at Y
  have hvm : s'.vm = s.vm := by rw [hA]; rfl
  have hhp : s'.heap = H := by rw [hA]; exact hT
  have hW0 : s.WarmedH s'.vm := by rw [hvm]; exact State.WarmedH.refl s
  have hat' : ∀ w ∈ vx_atS own ic cls names, w.before args s' = true := fun w hw => vx_ot_at hW0 hvm.symm (hgood w (List.mem_cons_of_mem _ (List.mem_cons_of_mem _ hw))) (hat w hw)
  have hk' : (Cond.classLink own ik cls).before args s' = true := vx_ot_at hW0 hvm.symm (hgood _ List.mem_cons_self) hk
  have hini' : (Cond.initialized cls).before args s' = true := vx_ot_at hW0 hvm.symm (hgood _ (List.mem_cons_of_mem _ List.mem_cons_self)) hini
  have hU' : vx_Zq Jvm.Bundle.tN "UNASSIGNED_STACK" Jvm.Bundle.steD A s' s'.heap := by rw [hhp]; exact vx_Zq.moved hW0.alike (hU.kept hS.2.1)
  have hN' : vx_Zq Jvm.Bundle.tN "SUPPRESSED_SENTINEL" Jvm.Bundle.listD A s' s'.heap := by rw [hhp]; exact vx_Zq.moved hW0.alike (hN.kept hS.2.1)
  have h : ∀ w ∈ Jvm.Bundle.ownAtoms own ic cls names, w.before args s' = true := vx_own hat' (vx_isRefq hU'.1) (vx_isRefq hN'.1) hU'.2.word hN'.2.word
  have hown' : s'.vm.findClass own = some m.cls := by rw [hvm]; exact hown
  have hins : (Cond.instantiable cls 6).before args s' = true := h _ (by simp [Jvm.Bundle.ownAtoms])
  obtain ⟨vm₁, cX, kX, hfX, hkX, -, -, X₁, st1⟩ := Y.newCold hexec (own := own) (C := cls) (index := ik) (n := 6) hown' hk' hins hini'
    (g := F0 m pc ls rest) rfl (by rw [hb]; exact d0) (Nat.le_refl _) (Nat.le_refl _)
  generalize hT1 : (T.setVm vm₁).pushCell { cls := cX, slots := kX.instanceTypes.map defaultValue, vm := .none } = T1 at X₁ st1
  have hcat : (Value.ref T.heap.size).category = 1 := rfl
  have hcellA : T1.heap[T.heap.size]? = some (freshCell cX kX) := by rw [← hT1]; exact State.heap_pushCell_size _ _
  have d3' : decode c.code (pc + 3) = .ok (.dup, 1) := by rw [hb]; exact d3
  have d4' : decode c.code (pc + 4) = .ok (.ldc_w is, 3) := by rw [hb]; exact d4
  have hstr' : vk_R own is text sa s' := vk_R.warm hW0 hstr
  obtain ⟨U, hsteps, hrun, hend, hW, hsame, ce, hce, hO⟩ := X₁.ctorThrowS hexec htr (own := own) (cls := cls) (names := names) (ic := ic) hown' hcls hnames h (fun x hx => nomatch hx) hfX hkX hcellA (by rw [hhp, hT]; exact Nat.le_refl _) (msg := .ref sa) rfl
    (g := { method := m, pc := pc + 7, locals := ls, stack := .ref sa :: .ref T.heap.size :: .ref T.heap.size :: rest, locked := none }) rfl hsize rfl rfl (rest := rest) rfl
    (by rw [hb]; exact d7) (by rw [hb]; exact d10) hout hRframes (by simp only [List.map_cons, List.sum_cons, hcat]; omega) hlocks
  obtain ⟨f1, f2⟩ := vx_frame hsame
  rw [hhp] at f1 f2
  have hWs : s.WarmedH U.vm := State.WarmedH.trans hW0 hW
  have hcl : s.vm.findClass cls = some ce.cls := by
    have h9 := hO.cls
    rw [hvm] at h9
    exact h9
  have hall : s.sameButNew ({ U with vm := s.vm } : State) locs mc ms := by
    subst hA
    obtain ⟨e1, e2⟩ := hsame
    rw [State.setFrames_setFrames] at e1
    have h2 : (T.setVm s.vm).sameButNew ({ U with vm := s.vm } : State) [] (0 + 1) (0 + 6) := ⟨e1, e2⟩
    have h3 := X.same.trans h2
    rw [List.append_nil] at h3
    exact h3.mono hc hs
  refine ⟨U, ?_, .threw T.heap.size, hrun, hend, Or.inr ⟨T.heap.size, rfl, cls, ce, locs, hx U hWs.alike f1 (fun q hq => f2 q hq (fun z hz => nomatch hz)), hce, hO.vm, hcl, hWs, hall, hf⟩⟩
  refine st1 _ ?_
  show Steps p.tables e below (T1.setTop { method := m, pc := pc + 3, locals := ls, stack := .ref T.heap.size :: rest, locked := none }) _
  jvm_step X₁.here [X₁.here.top, hexec, d3', Value.category]
  exact X₁.ldcStringW hexec (own := own) (text := text) (index := is) (a := sa) hown' hstr'.1 hstr'.2
    (g := { method := m, pc := pc + 4, locals := ls, stack := .ref T.heap.size :: .ref T.heap.size :: rest, locked := none }) rfl d4' _ hsteps
end Ends
section Bodies
variable {l : Launch}
theorem vx_ofW {y : MethodName} {ws ws' : List Cond} {rm : Room} {Pc : Array Value → State → Prop} {Qc : Array Value → State → Outcome → State → Prop} {XC : String → State → State → Prop} {mc ms : Nat} {free : Addr → Prop} {cc : ByteArray} {maxL : Nat} {ret : Option FieldType}
    (hy : plainName y.cls = true) (hw : ws = Cond.code y cc maxL ret :: ws')
    (body : ∀ p e s m args below meth c s₁, BodyLoose p l y (headSpec ws rm) cc maxL ret e s m args below meth c s₁ → c.maxLocals = maxL → (∀ x ∈ c.exceptionTable.toList, False) → Pc args s →
      W p l e (headSpec ws rm).room s m args below meth c s.heap [] 0 0 (vx_MQ below Qc XC args s mc ms free) (entryFrame m args maxL)) : vx_Met l y ws rm Pc Qc XC mc ms free := by
  refine MetFree.of_bodyS (code := cc) (maxLocals := maxL) (ret := ret) hy ?_ ?_
  · intro args s m h hn
    obtain ⟨meth, c, h1, h2, h3, h4, h5, h6, -, -⟩ := Cond.code_spec hn (atoms_spec (ws := ws) h _ (by rw [hw]; exact List.mem_cons_self))
    exact ⟨meth, c, h1, h2, h3, h4, h5, h6⟩
  · intro p e s m args below meth c s₁ B hml hP _
    have hh0 : s₁.heap = s.heap := by rw [B.state]; rfl
    have ht : ∀ x ∈ c.exceptionTable.toList, False := by
      obtain ⟨meth9, c9, h1, h2, -, -, -, -, h7, -⟩ := Cond.code_spec B.named (atoms_spec (ws := ws) B.pre _ (by rw [hw]; exact List.mem_cons_self))
      cases Option.some.inj (h1.symm.trans B.method)
      cases Option.some.inj (h2.symm.trans (Stand.of_body B).code)
      intro x hx
      rw [Array.isEmpty_iff.mp h7] at hx
      cases hx
    obtain ⟨t, a1, o, b1, b2, b3⟩ := body p e s m args below meth c s₁ B hml ht hP s₁ hh0 (Stand.of_body B)
    exact ⟨t, o, a1, b1, b2, b3⟩
/-- the table of a body with handlers -/
theorem vx_table {p : Program} {x y : MethodName} {S : Spec} {cc bytes : ByteArray} {maxL maxL' : Nat} {ret ret' : Option FieldType} {e : Env} {s s₁ : State} {m : MethodId} {args : Array Value} {below : List Frame} {meth : Method} {c : Code} {hh : List (Nat × Nat × Nat × Nat)}
    (B : BodyLoose p l y S cc maxL ret e s m args below meth c s₁) (h : (Cond.codeWith y bytes maxL' ret' hh).before args s = true) : c.exceptionTable.toList = tableOf hh := by
  obtain ⟨m9, meth9, c9, hn9, h1, h2, -, -, h6, -⟩ := Cond.codeWith_spec h
  cases Option.some.inj (hn9.symm.trans B.named)
  cases Option.some.inj (h1.symm.trans B.method)
  cases Option.some.inj (h2.symm.trans (Stand.of_body B).code)
  rw [← h6, table_eq]
end Bodies
end VXA
/-! ===== END ===== -/
/-! ===== BEGIN a static call of a method with an exception table ===== -/
section VXS
variable {p : Program} {l : Launch} {e : Env} {R : Room} {s : State} {m : MethodId} {args : Array Value} {below : List Frame} {meth : Method} {c : Code} {T : State} {H : Heap} {locs : List Loc} {cells slots : Nat}
abbrev vx_CSW (R : Room) (s : State) (args : Array Value) (own : String) (index : Nat) (y : MethodName) (bytes : ByteArray) (maxL : Nat) (ret : Option FieldType) (hh : List (Nat × Nat × Nat × Nat)) (ws : List Cond) (rm : Room) (mc ms n : Nat) : Prop :=
  (rm.cells = mc ∧ rm.slots = ms ∧ rm.frames + 1 ≤ R.frames ∧ 8 + (maxL + 11) + rm.locals ≤ R.locals ∧ (∀ w ∈ ws, ∀ (a' : Array Value) (U : State), s.WarmedH U.vm → w.before a' U = true) ∧ Cond.codeWith y bytes maxL ret hh ∈ ws) ∧
  (Cond.codeWith y bytes maxL ret hh).before args s = true ∧ (Cond.initialized y.cls).before args s = true ∧ (y.cls ≠ "java/lang/invoke/MethodHandle" ∧ y.cls ≠ "java/lang/invoke/VarHandle") ∧
  (∀ sig, parseMethodDescriptor y.desc = some sig → n = sig.parameters.length) ∧ (Cond.methodLink own index y).before args s = true ∧ (Cond.static y).before args s = true
theorem vx_cwSW {own : String} {index maxL mc ms : Nat} {y : MethodName} {bytes : ByteArray} {ret : Option FieldType} {hh : List (Nat × Nat × Nat × Nat)} {Ts ws ws' : List Cond} {rm : Room} (n : Nat) (ht : ∀ w ∈ Ts, w.before args s = true) (hT : GoodIn Ts (va_wsS own index y ws)) (hw : ws = Cond.codeWith y bytes maxL ret hh :: ws') (hrc : rm.cells = mc) (hrs : rm.slots = ms)
    (hd : y.cls ≠ "java/lang/invoke/MethodHandle" ∧ y.cls ≠ "java/lang/invoke/VarHandle" ∧ (parseMethodDescriptor y.desc).map (fun d => d.parameters.length) = some n) (hR : rm.frames + 1 ≤ R.frames ∧ 8 + (maxL + 11) + rm.locals ≤ R.locals) :
    vx_CSW R s args own index y bytes maxL ret hh ws rm mc ms n := by
  have ok : ∀ w ∈ va_wsS own index y ws, w.before args s = true := fun w h => ht w (hT w h).1
  have hG : GoodIn Ts ws := fun w h => hT w (by unfold va_wsS; exact List.mem_append_right _ h)
  have hc : Cond.codeWith y bytes maxL ret hh ∈ ws := by rw [hw]; exact List.mem_cons_self
  refine ⟨⟨hrc, hrs, hR.1, hR.2, pay_in ht hG, hc⟩, ht _ (hG _ hc).1, ok _ (by simp [va_wsS]), ⟨hd.1, hd.2.1⟩, fun sig h => ?_, ok _ (by simp [va_wsS]), ok _ (by simp [va_wsS])⟩
  have h2 := hd.2.2
  rw [h] at h2
  exact (Option.some.inj h2).symm
theorem vx_callSW (X : Stand p l e R s m args below meth c T locs cells slots) (hexec : p.tables.exec = Jvm.exec) {own : String} {index : Nat} {y : MethodName} {bytes : ByteArray} {maxL : Nat} {ret : Option FieldType} {hh : List (Nat × Nat × Nat × Nat)}
    (hown : s.vm.findClass own = some m.cls) (hlink : (Cond.methodLink own index y).before args s = true) (hstat : (Cond.static y).before args s = true) (hinit : (Cond.initialized y.cls).before args s = true)
    (hcode : (Cond.codeWith y bytes maxL ret hh).before args s = true) (hy : y.cls ≠ "java/lang/invoke/MethodHandle" ∧ y.cls ≠ "java/lang/invoke/VarHandle")
    {W9 : Nat} {Pre : Pt → Array Value → Prop} {Post : Pt → Array Value → Option Value → Pt → Prop} (hK : Back l R p e below s args y 3 W9 Pre Post)
    {g : JFrame} (hg : g.method = m) (hsize : g.locals.size = c.maxLocals) {argsL rest : List Value} (hlen : ∀ sig, parseMethodDescriptor y.desc = some sig → argsL.length = sig.parameters.length)
    (hstack : g.stack = argsL.reverse ++ rest) (hW : 2 * g.monitorRoom + (rest.map fun v => v.category).sum ≤ W9) (hdg : decode c.code g.pc = .ok (.invokestatic index, 3))
    (hpre : ∀ vm₁, s.WarmedH vm₁ → Pre ⟨T.setVm vm₁, locs, cells, slots⟩ argsL.toArray) :
    ∃ (v : Option Value) (vm₁ : Vm) (B : Pt), s.WarmedH vm₁ ∧ Stand p l e R s m args below meth c B.U B.locs B.cells B.slots ∧ Post ⟨T.setVm vm₁, locs, cells, slots⟩ argsL.toArray v B ∧
      ∀ target, Steps p.tables e below (B.U.setTop { g with pc := g.pc + 3, stack := v.toList ++ rest }) target → Steps p.tables e below (T.setTop g) target := by
  obtain ⟨mk, methM, cM, hnamed, hmethM, -, -, -, -, -, -, hsigM⟩ := Cond.codeWith_spec hcode
  have hstatic : methM.isStatic = true := Cond.static_spec hnamed hmethM hstat
  obtain ⟨kP, hkP, -⟩ := className_of_methodNamed hnamed
  have hinitP : kP.init = .initialized := Cond.initialized_spec (findClass_of_methodNamed hnamed) hkP hinit
  obtain ⟨vm₁, X₁, hstep₁⟩ := X.invokestatic hexec hown hlink hnamed hmethM hstatic hkP hinitP hy (g := g) hg (argsL := argsL) (rest := rest) (hlen _ hsigM) hstack hdg
  obtain ⟨v, B, X', hpost, hsteps⟩ := hK m meth c ⟨T.setVm vm₁, locs, cells, slots⟩ { g with stack := rest } (.invokestatic index) mk argsL.toArray X₁ hg hsize hdg hW (X₁.named hnamed) (hpre vm₁ X₁.warmed)
  exact ⟨v, vm₁, B, X₁.warmed, X', hpost, fun target h => hstep₁ _ fun acts => by rw [doInvoke_state]; exact hsteps.trans h⟩
theorem vx_runSW {y : MethodName} {bytes cc : ByteArray} {maxL nL mc ms n index : Nat} {ret : Option FieldType} {hh : List (Nat × Nat × Nat × Nat)} {ws : List Cond} {rm : Room} {Pc : Array Value → State → Prop} {Qc : Array Value → State → Outcome → State → Prop} {free : Addr → Prop} {Ts : List Cond} {own : String} {As rest : List Value} {g : JFrame}
    (S : CallFix p m c cc nL s args Ts own) (hM : Met l y ws rm Pc Qc mc ms free) (cw : vx_CSW R s args own index y bytes maxL ret hh ws rm mc ms n) (hp : PreS s H Pc As)
    (hg : g.method = m) (hn : As.length = n) (hsize : g.locals.size = nL) (hstack : g.stack = As.reverse ++ rest) (hW : 2 * g.monitorRoom + (rest.map fun v => v.category).sum ≤ 8) (hdg : decode cc g.pc = .ok (.invokestatic index, 3)) (hf : cells + mc ≤ R.cells ∧ slots + ms ≤ R.slots) :
    va_Run p l e R s m args below meth c H locs cells slots mc ms g rest (Qc As.toArray) (free) := by
  obtain ⟨⟨hrc, hrs, hfr, hlo, hws, hcw⟩, hcode, hini, hy, hlen, hl, hstt⟩ := cw
  have hK : Back l R p e below s args y 3 8 (PreOf R mc ms Pc) (PostOf Qc mc ms free) := va_backW (hh := hh) (bytes := bytes) (maxL := maxL) (ret := ret) hM hp.1 hrc hrs hfr hlo hws hcw (fun a' U hW => word_at hW (Or.inl (by first | rfl | simp [Cond.onTables, Cond.keeps, Cond.steady])) hini)
  obtain ⟨hx, hb, hml, ho, -⟩ := S
  intro T hT X
  obtain ⟨v, vm₁, ⟨U', l2, c2, s2⟩, hW₁, X', ⟨g', mk, t, L, e1, e2, hq, h1, hL, h2, h3⟩, st⟩ := vx_callSW X hx (hh := hh) (bytes := bytes) (maxL := maxL) (ret := ret) ho hl hstt hini hcode hy hK hg (hsize.trans hml.symm) (argsL := As) (rest := rest) (fun sig h => hn.trans (hlen sig h)) hstack hW (by rw [hb]; exact hdg)
    (fun vm₁ hW₁ => ⟨hf.1, hf.2, hp.2 (T.setVm vm₁) hT hW₁⟩)
  dsimp only [Pt.U, Pt.locs, Pt.cells, Pt.slots] at X' e1 e2 h1 h2 h3 st
  subst h1; subst h2; subst h3
  exact ⟨v, (T.setVm vm₁).calling g' mk As.toArray, t, U', L, hT, X', hL, e1, e2, hq, st⟩
/-- a thing of a world lies in the heap -/
theorem vx_lt {D : va_G} {cl : List vw_C} {ws : va_W} {H1 : Heap} (h : va_P D cl ws H1) {k : Nat} {q : Nat × va_E} (hk : ws[k]? = some q) : q.1 < H1.size := (h k q hk).lt
end VXS
/-! ===== END ===== -/
/-! ===== BEGIN methods with a table of their own: called by a name, returning or throwing ===== -/
section VXH
/-! vx_backW, vx_callVX, vx_callSX, vx_callVW, vx_runVW, vx_runVX, vx_runSX, vx_ofWH follow the same proofs as their sisters above (Free/Laws.lean, Shelf42/LK1.lean); vx_outP calls Shelf42/NT130.lean (outThrough). -/
section
variable {l : Launch} {R : Room} {p : Program} {e : Env} {below : List Frame} {s : State} {sargs : Array Value} {y : MethodName} {len W9 : Nat}
theorem vx_backW {ws : List Cond} {rm : Room} {Pc : Array Value → State → Prop} {Qc : Array Value → State → Outcome → State → Prop} {XC : String → State → State → Prop} {mc ms : Nat} {free : Addr → Prop} {bytes : ByteArray} {maxL : Nat} {ret : Option FieldType} {hh : List (Nat × Nat × Nat × Nat)}
    (hM : vx_Met l y ws rm Pc Qc XC mc ms free) (hblind : FrameBlind Pc) (hrc : rm.cells = mc) (hrs : rm.slots = ms)
    (hframes : rm.frames + 1 ≤ R.frames) (hlocals : W9 + (maxL + 11) + rm.locals ≤ R.locals)
    (hws : ∀ w ∈ ws, ∀ a' U, s.WarmedH U.vm → w.before a' U = true) (hcode : Cond.codeWith y bytes maxL ret hh ∈ ws) (hinit : ∀ a' U, s.WarmedH U.vm → (Cond.initialized y.cls).before a' U = true) :
    vx_Back l R p e below s sargs y len W9 (PreOf R mc ms Pc) (PostOf Qc mc ms free) (vx_Post XC mc ms free) := by
  intro m meth c A g ig mk a X hg hsize hdg hW hn hp
  have h1 : (headSpec ws rm).pre.before a A.U = true := atoms_intro fun w hw => hws w hw _ _ X.warmed
  have h2 : (Cond.codeWith y bytes maxL ret hh).before a A.U = true := hws _ hcode _ _ X.warmed
  have h3 : (Cond.initialized y.cls).before a A.U = true := hinit _ _ X.warmed
  have h4 : A.cells + (headSpec ws rm).room.cells ≤ R.cells := by rw [show (headSpec ws rm).room.cells = mc from hrc]; exact hp.1
  have h5 : A.slots + (headSpec ws rm).room.slots ≤ R.slots := by rw [show (headSpec ws rm).room.slots = ms from hrs]; exact hp.2.1
  have hPc : Pc a (A.U.calling g mk a) := hblind _ _ _ _ hp.2.2
  obtain ⟨U, Ls, c0, s0⟩ := A
  dsimp only [Pt.U, Pt.locs, Pt.cells, Pt.slots] at h1 h2 h3 h4 h5 X hn hPc ⊢
  obtain ⟨m9, methY, cY, hn9, hmY, hcY, -, hlY, -⟩ := Cond.codeWith_spec h2
  cases Option.some.inj (hn9.symm.trans hn)
  obtain ⟨kY, hkY, -⟩ := className_of_methodNamed hn
  have hinitY : kY.init = .initialized := Cond.initialized_spec (findClass_of_methodNamed hn) hkY h3
  have h : At U g.method c below := by rw [hg]; exact X.here
  have hlocals9 : W9 + (maxL + 11) + (headSpec ws rm).room.locals ≤ R.locals := hlocals
  have happ : (headSpec ws rm).appliesLoose y e.platform (U.calling g mk a) = true :=
    Spec.appliesLoose_calling (g := g) h hdg hn hkY hinitY
      (X.room_calling (g := g) (R' := (headSpec ws rm).room) hsize hmY hcY hframes (by rw [hlY]; omega) h4 h5) h1
  obtain ⟨mid, hmid⟩ := h.above
  have hfr : (U.setTop g).frames = (.java g :: mid) ++ below := by rw [State.frames_setTop' g h.top, hmid]; rfl
  obtain ⟨o, s₂, hsteps, -, hend, hq⟩ := Steps.callFree hM p X.admits X.cas X.clock (acts := []) hfr happ hPc trivial
  have hq' : vx_Q Qc XC mc ms free a (U.calling g mk a) o s₂ := hq
  rw [State.frames_setTop' g h.top] at hend
  obtain ⟨g₀, hg0⟩ := Option.isSome_iff_exists.mp h.top
  obtain ⟨r, hr⟩ := State.topJava?_eq_some.mp hg0
  have hr' : (({ U with heap := s₂.heap, slotsUsed := s₂.slotsUsed } : State).setVm s₂.vm).frames = .java g₀ :: r := hr
  rcases hq' with ⟨hqc, L, hfe, hL⟩ | ⟨q, rfl, E, ce, L, hx, hce, hcv, hcl, hW₂, hsm, hL⟩
  · obtain ⟨⟨v, rfl⟩, hW₂, e2, q2, q3, q4, q5, q6⟩ := id hfe
    have e3 : s₂ = ({ (U.calling g mk a).setFrames s₂.frames with heap := s₂.heap, slotsUsed := s₂.slotsUsed } : State).setVm s₂.vm := by
      have : s₂ = ({ s₂ with vm := (U.calling g mk a).vm } : State).setVm s₂.vm := rfl
      rw [e2] at this
      exact this
    obtain ⟨c₂, i₂, len₂, hc₂, hd₂, hf₂⟩ := hend
    have hW' : U.WarmedH s₂.vm := hW₂
    have hcc : c₂ = c := by
      have h1 : s₂.code? g.method = U.code? g.method := by
        rw [State.code?_eq, State.code?_eq, hW'.alike.method?]
      exact Option.some.inj (hc₂.symm.trans (h1.trans h.code))
    subst hcc
    have hlen : len₂ = len := by rw [hdg] at hd₂; cases hd₂; rfl
    subst hlen
    have hs₂ : s₂ = (({ U with heap := s₂.heap, slotsUsed := s₂.slotsUsed } : State).setVm s₂.vm).setTop { g with pc := g.pc + len₂, stack := v.toList ++ g.stack } := by
      refine e3.trans ?_
      rw [hf₂, State.calling_eq h.top, State.setFrames_setFrames, State.setTop_of_frames _ hr', hr]
      rfl
    have hsame : U.sameButNew ({ U with heap := s₂.heap, slotsUsed := s₂.slotsUsed } : State) L mc ms := by
      refine ⟨?_, q2, q3, q4, q5, q6⟩
      obtain ⟨t, ht, -⟩ := State.frames_cons hr
      show ({ U with heap := s₂.heap, slotsUsed := s₂.slotsUsed } : State) = { U.setFrames U.frames with heap := s₂.heap, slotsUsed := s₂.slotsUsed }
      rw [State.setFrames_self ht]
    subst hg
    refine Or.inl ⟨v, ⟨(({ U with heap := s₂.heap, slotsUsed := s₂.slotsUsed } : State).setVm s₂.vm), Ls ++ L, c0 + mc, s0 + ms⟩,
      ⟨X.admits, X.cas, X.clock, X.frames, X.room, X.hears, X.method, X.code, (X.here.setHeapUsed s₂.heap s₂.slotsUsed).setVm hW'.alike, X.tail, State.WarmedH.trans X.warmed hW', X.limits, X.bytes, X.same.trans (hsame.setVm s.vm)⟩,
      ⟨g, mk, s₂, L, rfl, rfl, hqc, rfl, hL, rfl, rfl⟩, ?_⟩
    show Steps p.tables e below _ ((({ U with heap := s₂.heap, slotsUsed := s₂.slotsUsed } : State).setVm s₂.vm).setTop { g with pc := g.pc + len₂, stack := v.toList ++ g.stack })
    rw [← hs₂]
    exact hsteps
  · obtain ⟨e2, q2, q3, q4, q5, q6⟩ := id hsm
    have e3 : s₂ = ({ (U.calling g mk a).setFrames s₂.frames with heap := s₂.heap, slotsUsed := s₂.slotsUsed } : State).setVm s₂.vm := by
      have : s₂ = ({ s₂ with vm := (U.calling g mk a).vm } : State).setVm s₂.vm := rfl
      rw [e2] at this
      exact this
    have hf₂ : s₂.frames = .throwing q :: .java g :: U.frames.tail := hend
    have hW' : U.WarmedH s₂.vm := hW₂
    have hs₂ : s₂ = ((({ U with heap := s₂.heap, slotsUsed := s₂.slotsUsed } : State).setVm s₂.vm).setTop g).pushFrame (.throwing q) := by
      refine e3.trans ?_
      rw [hf₂, State.calling_eq h.top, State.setFrames_setFrames, State.pushFrame, State.frames_setTop _ hr', State.setTop_of_frames _ hr', State.setFrames_setFrames, hr]
      rfl
    have hsame : U.sameButNew ({ U with heap := s₂.heap, slotsUsed := s₂.slotsUsed } : State) L mc ms := by
      refine ⟨?_, q2, q3, q4, q5, q6⟩
      obtain ⟨t, ht, -⟩ := State.frames_cons hr
      show ({ U with heap := s₂.heap, slotsUsed := s₂.slotsUsed } : State) = { U.setFrames U.frames with heap := s₂.heap, slotsUsed := s₂.slotsUsed }
      rw [State.setFrames_self ht]
    subst hg
    refine Or.inr ⟨q, ⟨(({ U with heap := s₂.heap, slotsUsed := s₂.slotsUsed } : State).setVm s₂.vm), Ls ++ L, c0 + mc, s0 + ms⟩,
      ⟨X.admits, X.cas, X.clock, X.frames, X.room, X.hears, X.method, X.code, (X.here.setHeapUsed s₂.heap s₂.slotsUsed).setVm hW'.alike, X.tail, State.WarmedH.trans X.warmed hW', X.limits, X.bytes, X.same.trans (hsame.setVm s.vm)⟩,
      ⟨g, mk, s₂, L, E, ce, rfl, rfl, hx, hce, hcv, hcl, rfl, hL, rfl, rfl⟩, ?_⟩
    show Steps p.tables e below _ (((({ U with heap := s₂.heap, slotsUsed := s₂.slotsUsed } : State).setVm s₂.vm).setTop g).pushFrame (.throwing q))
    rw [← hs₂]
    exact hsteps
end
variable {p : Program} {l : Launch} {e : Env} {R : Room} {s : State} {m : MethodId} {args : Array Value} {below : List Frame} {meth : Method} {c : Code} {T : State} {H : Heap} {locs : List Loc} {cells slots : Nat}
theorem vx_callVX (X : Stand p l e R s m args below meth c T locs cells slots) (hexec : p.tables.exec = Jvm.exec) {own C : String} {index : Nat} {y : MethodName} {bytes : ByteArray} {maxL : Nat} {ret : Option FieldType} {hh : List (Nat × Nat × Nat × Nat)}
    (hown : s.vm.findClass own = some m.cls) (hlink : (Cond.methodLink own index y).before args s = true) (hinst : (Cond.instanceMethod y).before args s = true) (hsel : (Cond.selects C y y).before args s = true)
    (hcode : (Cond.codeWith y bytes maxL ret hh).before args s = true) (hy : y.cls ≠ "java/lang/invoke/MethodHandle" ∧ y.cls ≠ "java/lang/invoke/VarHandle")
    {W9 : Nat} {Pre : Pt → Array Value → Prop} {Post : Pt → Array Value → Option Value → Pt → Prop} {PostX : Pt → Array Value → Addr → Pt → Prop} (hK : vx_Back l R p e below s args y 3 W9 Pre Post PostX)
    {b : Addr} {cellB : Cell} (hcell : T.heap[b]? = some cellB) (hobj : cellB.vm.isStatics = false) (hcls : s.vm.findClass C = some cellB.cls)
    {g : JFrame} (hg : g.method = m) (hsize : g.locals.size = c.maxLocals) {argsL rest : List Value} (hlen : ∀ sig, parseMethodDescriptor y.desc = some sig → argsL.length = sig.parameters.length)
    (hstack : g.stack = argsL.reverse ++ .ref b :: rest) (hW : 2 * g.monitorRoom + (rest.map fun v => v.category).sum ≤ W9) (hdg : decode c.code g.pc = .ok (.invokevirtual index, 3))
    (hpre : ∀ vm₁, s.WarmedH vm₁ → Pre ⟨T.setVm vm₁, locs, cells, slots⟩ (Value.ref b :: argsL).toArray) :
    (∃ (v : Option Value) (vm₁ : Vm) (B : Pt), s.WarmedH vm₁ ∧ Stand p l e R s m args below meth c B.U B.locs B.cells B.slots ∧ Post ⟨T.setVm vm₁, locs, cells, slots⟩ (Value.ref b :: argsL).toArray v B ∧
      ∀ target, Steps p.tables e below (B.U.setTop { g with pc := g.pc + 3, stack := v.toList ++ rest }) target → Steps p.tables e below (T.setTop g) target) ∨
    (∃ (q : Addr) (vm₁ : Vm) (B : Pt), s.WarmedH vm₁ ∧ Stand p l e R s m args below meth c B.U B.locs B.cells B.slots ∧ PostX ⟨T.setVm vm₁, locs, cells, slots⟩ (Value.ref b :: argsL).toArray q B ∧
      Steps p.tables e below (T.setTop g) ((B.U.setTop { g with stack := rest }).pushFrame (.throwing q))) := by
  obtain ⟨mk, methM, hnamed, hmethM, hstM, habM⟩ := Cond.instanceMethod_spec hinst
  obtain ⟨m8, methM', cM, hn8, hmethM', -, -, -, -, -, -, hsigM⟩ := Cond.codeWith_spec hcode
  cases Option.some.inj (hn8.symm.trans hnamed)
  cases hmethM.symm.trans hmethM'
  obtain ⟨c2, r2, m2, q1, q2, q3, q4, kP, hkP, hkPi⟩ := Cond.selects_spec hsel
  cases hcls.symm.trans q1
  cases (State.methodFound?_of_named hnamed hy).symm.trans q2
  cases hnamed.symm.trans q3
  have hselP : selectMethod e.platform s.vm cellB.cls mk = .method mk := by rw [Launch.admits_selectMethod X.admits]; exact q4
  obtain ⟨vm₁, X₁, hstep₁⟩ := X.invokevirtual hexec hown hlink hnamed hmethM hstM hkP hkPi hy (a := b) (cell := cellB) hcell
    (fun z h => by rw [h] at hobj; cases hobj) hselP hmethM habM hkP hkPi (g := g) hg (argsL := argsL) (rest := rest) (hlen _ hsigM) hstack hdg
  rcases hK m meth c ⟨T.setVm vm₁, locs, cells, slots⟩ { g with stack := rest } (.invokevirtual index) mk (Value.ref b :: argsL).toArray X₁ hg hsize hdg hW (X₁.named hnamed) (hpre vm₁ X₁.warmed) with ⟨v, B, X', hpost, hsteps⟩ | ⟨q, B, X', hpost, hsteps⟩
  · exact Or.inl ⟨v, vm₁, B, X₁.warmed, X', hpost, fun target h => hstep₁ _ fun acts => by rw [doInvoke_state]; exact hsteps.trans h⟩
  · exact Or.inr ⟨q, vm₁, B, X₁.warmed, X', hpost, hstep₁ _ fun acts => by rw [doInvoke_state]; exact hsteps⟩
theorem vx_callSX (X : Stand p l e R s m args below meth c T locs cells slots) (hexec : p.tables.exec = Jvm.exec) {own : String} {index : Nat} {y : MethodName} {bytes : ByteArray} {maxL : Nat} {ret : Option FieldType} {hh : List (Nat × Nat × Nat × Nat)}
    (hown : s.vm.findClass own = some m.cls) (hlink : (Cond.methodLink own index y).before args s = true) (hstat : (Cond.static y).before args s = true) (hinit : (Cond.initialized y.cls).before args s = true)
    (hcode : (Cond.codeWith y bytes maxL ret hh).before args s = true) (hy : y.cls ≠ "java/lang/invoke/MethodHandle" ∧ y.cls ≠ "java/lang/invoke/VarHandle")
    {W9 : Nat} {Pre : Pt → Array Value → Prop} {Post : Pt → Array Value → Option Value → Pt → Prop} {PostX : Pt → Array Value → Addr → Pt → Prop} (hK : vx_Back l R p e below s args y 3 W9 Pre Post PostX)
    {g : JFrame} (hg : g.method = m) (hsize : g.locals.size = c.maxLocals) {argsL rest : List Value} (hlen : ∀ sig, parseMethodDescriptor y.desc = some sig → argsL.length = sig.parameters.length)
    (hstack : g.stack = argsL.reverse ++ rest) (hW : 2 * g.monitorRoom + (rest.map fun v => v.category).sum ≤ W9) (hdg : decode c.code g.pc = .ok (.invokestatic index, 3))
    (hpre : ∀ vm₁, s.WarmedH vm₁ → Pre ⟨T.setVm vm₁, locs, cells, slots⟩ argsL.toArray) :
    (∃ (v : Option Value) (vm₁ : Vm) (B : Pt), s.WarmedH vm₁ ∧ Stand p l e R s m args below meth c B.U B.locs B.cells B.slots ∧ Post ⟨T.setVm vm₁, locs, cells, slots⟩ argsL.toArray v B ∧
      ∀ target, Steps p.tables e below (B.U.setTop { g with pc := g.pc + 3, stack := v.toList ++ rest }) target → Steps p.tables e below (T.setTop g) target) ∨
    (∃ (q : Addr) (vm₁ : Vm) (B : Pt), s.WarmedH vm₁ ∧ Stand p l e R s m args below meth c B.U B.locs B.cells B.slots ∧ PostX ⟨T.setVm vm₁, locs, cells, slots⟩ argsL.toArray q B ∧
      Steps p.tables e below (T.setTop g) ((B.U.setTop { g with stack := rest }).pushFrame (.throwing q))) := by
  obtain ⟨mk, methM, cM, hnamed, hmethM, -, -, -, -, -, -, hsigM⟩ := Cond.codeWith_spec hcode
  have hstatic : methM.isStatic = true := Cond.static_spec hnamed hmethM hstat
  obtain ⟨kP, hkP, -⟩ := className_of_methodNamed hnamed
  have hinitP : kP.init = .initialized := Cond.initialized_spec (findClass_of_methodNamed hnamed) hkP hinit
  obtain ⟨vm₁, X₁, hstep₁⟩ := X.invokestatic hexec hown hlink hnamed hmethM hstatic hkP hinitP hy (g := g) hg (argsL := argsL) (rest := rest) (hlen _ hsigM) hstack hdg
  rcases hK m meth c ⟨T.setVm vm₁, locs, cells, slots⟩ { g with stack := rest } (.invokestatic index) mk argsL.toArray X₁ hg hsize hdg hW (X₁.named hnamed) (hpre vm₁ X₁.warmed) with ⟨v, B, X', hpost, hsteps⟩ | ⟨q, B, X', hpost, hsteps⟩
  · exact Or.inl ⟨v, vm₁, B, X₁.warmed, X', hpost, fun target h => hstep₁ _ fun acts => by rw [doInvoke_state]; exact hsteps.trans h⟩
  · exact Or.inr ⟨q, vm₁, B, X₁.warmed, X', hpost, hstep₁ _ fun acts => by rw [doInvoke_state]; exact hsteps⟩
theorem vx_callVW (X : Stand p l e R s m args below meth c T locs cells slots) (hexec : p.tables.exec = Jvm.exec) {own C : String} {index : Nat} {y : MethodName} {bytes : ByteArray} {maxL : Nat} {ret : Option FieldType} {hh : List (Nat × Nat × Nat × Nat)}
    (hown : s.vm.findClass own = some m.cls) (hlink : (Cond.methodLink own index y).before args s = true) (hinst : (Cond.instanceMethod y).before args s = true) (hsel : (Cond.selects C y y).before args s = true)
    (hcode : (Cond.codeWith y bytes maxL ret hh).before args s = true) (hy : y.cls ≠ "java/lang/invoke/MethodHandle" ∧ y.cls ≠ "java/lang/invoke/VarHandle")
    {W9 : Nat} {Pre : Pt → Array Value → Prop} {Post : Pt → Array Value → Option Value → Pt → Prop} (hK : Back l R p e below s args y 3 W9 Pre Post)
    {b : Addr} {cellB : Cell} (hcell : T.heap[b]? = some cellB) (hobj : cellB.vm.isStatics = false) (hcls : s.vm.findClass C = some cellB.cls)
    {g : JFrame} (hg : g.method = m) (hsize : g.locals.size = c.maxLocals) {argsL rest : List Value} (hlen : ∀ sig, parseMethodDescriptor y.desc = some sig → argsL.length = sig.parameters.length)
    (hstack : g.stack = argsL.reverse ++ .ref b :: rest) (hW : 2 * g.monitorRoom + (rest.map fun v => v.category).sum ≤ W9) (hdg : decode c.code g.pc = .ok (.invokevirtual index, 3))
    (hpre : ∀ vm₁, s.WarmedH vm₁ → Pre ⟨T.setVm vm₁, locs, cells, slots⟩ (Value.ref b :: argsL).toArray) :
    ∃ (v : Option Value) (vm₁ : Vm) (B : Pt), s.WarmedH vm₁ ∧ Stand p l e R s m args below meth c B.U B.locs B.cells B.slots ∧ Post ⟨T.setVm vm₁, locs, cells, slots⟩ (Value.ref b :: argsL).toArray v B ∧
      ∀ target, Steps p.tables e below (B.U.setTop { g with pc := g.pc + 3, stack := v.toList ++ rest }) target → Steps p.tables e below (T.setTop g) target := by
  obtain ⟨mk, methM, hnamed, hmethM, hstM, habM⟩ := Cond.instanceMethod_spec hinst
  obtain ⟨m8, methM', cM, hn8, hmethM', -, -, -, -, -, -, hsigM⟩ := Cond.codeWith_spec hcode
  cases Option.some.inj (hn8.symm.trans hnamed)
  cases hmethM.symm.trans hmethM'
  obtain ⟨c2, r2, m2, q1, q2, q3, q4, kP, hkP, hkPi⟩ := Cond.selects_spec hsel
  cases hcls.symm.trans q1
  cases (State.methodFound?_of_named hnamed hy).symm.trans q2
  cases hnamed.symm.trans q3
  have hselP : selectMethod e.platform s.vm cellB.cls mk = .method mk := by rw [Launch.admits_selectMethod X.admits]; exact q4
  obtain ⟨vm₁, X₁, hstep₁⟩ := X.invokevirtual hexec hown hlink hnamed hmethM hstM hkP hkPi hy (a := b) (cell := cellB) hcell
    (fun z h => by rw [h] at hobj; cases hobj) hselP hmethM habM hkP hkPi (g := g) hg (argsL := argsL) (rest := rest) (hlen _ hsigM) hstack hdg
  obtain ⟨v, B, X', hpost, hsteps⟩ := hK m meth c ⟨T.setVm vm₁, locs, cells, slots⟩ { g with stack := rest } (.invokevirtual index) mk (Value.ref b :: argsL).toArray X₁ hg hsize hdg hW (X₁.named hnamed) (hpre vm₁ X₁.warmed)
  exact ⟨v, vm₁, B, X₁.warmed, X', hpost, fun target h => hstep₁ _ fun acts => by rw [doInvoke_state]; exact hsteps.trans h⟩
abbrev vx_CVW (R : Room) (s : State) (args : Array Value) (own C : String) (index : Nat) (y : MethodName) (bytes : ByteArray) (maxL : Nat) (ret : Option FieldType) (hh : List (Nat × Nat × Nat × Nat)) (ws : List Cond) (rm : Room) (mc ms n : Nat) : Prop :=
  (rm.cells = mc ∧ rm.slots = ms ∧ rm.frames + 1 ≤ R.frames ∧ 8 + (maxL + 11) + rm.locals ≤ R.locals ∧ (∀ w ∈ ws, ∀ (a' : Array Value) (U : State), s.WarmedH U.vm → w.before a' U = true) ∧ Cond.codeWith y bytes maxL ret hh ∈ ws) ∧
  (Cond.codeWith y bytes maxL ret hh).before args s = true ∧ (Cond.initialized y.cls).before args s = true ∧ (y.cls ≠ "java/lang/invoke/MethodHandle" ∧ y.cls ≠ "java/lang/invoke/VarHandle") ∧
  (∀ sig, parseMethodDescriptor y.desc = some sig → n = sig.parameters.length) ∧ (Cond.methodLink own index y).before args s = true ∧ (Cond.instanceMethod y).before args s = true ∧ (Cond.selects C y y).before args s = true
theorem vx_cwVW {own C : String} {index maxL mc ms : Nat} {y : MethodName} {bytes : ByteArray} {ret : Option FieldType} {hh : List (Nat × Nat × Nat × Nat)} {Ts ws ws' : List Cond} {rm : Room} (n : Nat) (ht : ∀ w ∈ Ts, w.before args s = true) (hT : GoodIn Ts (wsV own index C y ws)) (hw : ws = Cond.codeWith y bytes maxL ret hh :: ws') (hrc : rm.cells = mc) (hrs : rm.slots = ms)
    (hd : y.cls = C ∧ y.cls ≠ "java/lang/invoke/MethodHandle" ∧ y.cls ≠ "java/lang/invoke/VarHandle" ∧ (parseMethodDescriptor y.desc).map (fun d => d.parameters.length) = some n) (hR : rm.frames + 1 ≤ R.frames ∧ 8 + (maxL + 11) + rm.locals ≤ R.locals) :
    vx_CVW R s args own C index y bytes maxL ret hh ws rm mc ms n := by
  obtain ⟨hC, hd⟩ := hd
  subst hC
  have ok : ∀ w ∈ wsV own index y.cls y ws, w.before args s = true := fun w h => ht w (hT w h).1
  have hG : GoodIn Ts ws := fun w h => hT w (by unfold wsV; exact List.mem_append_right _ h)
  have hc : Cond.codeWith y bytes maxL ret hh ∈ ws := by rw [hw]; exact List.mem_cons_self
  refine ⟨⟨hrc, hrs, hR.1, hR.2, pay_in ht hG, hc⟩, ht _ (hG _ hc).1, ok _ (by simp [wsV]), ⟨hd.1, hd.2.1⟩, fun sig h => ?_, ok _ (by simp [wsV]), ok _ (by simp [wsV]), ok _ (by simp [wsV])⟩
  have h2 := hd.2.2
  rw [h] at h2
  exact (Option.some.inj h2).symm
theorem vx_runVW {y : MethodName} {bytes cc : ByteArray} {maxL nL mc ms n index : Nat} {ret : Option FieldType} {hh : List (Nat × Nat × Nat × Nat)} {ws : List Cond} {rm : Room} {Pc : Array Value → State → Prop} {Qc : Array Value → State → Outcome → State → Prop} {free : Addr → Prop} {Ts : List Cond} {own C : String} {b : Addr} {As rest : List Value} {g : JFrame}
    (S : CallFix p m c cc nL s args Ts own) (hM : Met l y ws rm Pc Qc mc ms free) (cw : vx_CVW R s args own C index y bytes maxL ret hh ws rm mc ms n) (hp : PreV s H C b Pc As)
    (hg : g.method = m) (hn : As.length = n) (hsize : g.locals.size = nL) (hstack : g.stack = As.reverse ++ .ref b :: rest) (hW : 2 * g.monitorRoom + (rest.map fun v => v.category).sum ≤ 8) (hdg : decode cc g.pc = .ok (.invokevirtual index, 3)) (hf : cells + mc ≤ R.cells ∧ slots + ms ≤ R.slots) :
    va_Run p l e R s m args below meth c H locs cells slots mc ms g rest (Qc (Value.ref b :: As).toArray) free := by
  obtain ⟨⟨hrc, hrs, hfr, hlo, hws, hcw⟩, hcode, hini, hy, hlen, hl, hin, hse⟩ := cw
  have hK : Back l R p e below s args y 3 8 (PreOf R mc ms Pc) (PostOf Qc mc ms free) := va_backW (hh := hh) (bytes := bytes) (maxL := maxL) (ret := ret) hM hp.1 hrc hrs hfr hlo hws hcw (fun a' U hW => word_at hW (Or.inl (by first | rfl | simp [Cond.onTables, Cond.keeps, Cond.steady])) hini)
  obtain ⟨hx, hb, hml, ho, -⟩ := S
  obtain ⟨-, ⟨cellB, hcB, hoB, hclB⟩, hPc⟩ := hp
  intro T hT X
  obtain ⟨v, vm₁, ⟨U', l2, c2, s2⟩, hW₁, X', ⟨g', mk, t, L, e1, e2, hq, h1, hL, h2, h3⟩, st⟩ := vx_callVW X hx (C := C) (hh := hh) (bytes := bytes) (maxL := maxL) (ret := ret) ho hl hin hse hcode hy hK (by rw [hT]; exact hcB) hoB hclB hg (hsize.trans hml.symm) (argsL := As) (rest := rest) (fun sig h => hn.trans (hlen sig h)) hstack hW (by rw [hb]; exact hdg)
    (fun vm₁ hW₁ => ⟨hf.1, hf.2, hPc (T.setVm vm₁) hT hW₁⟩)
  dsimp only [Pt.U, Pt.locs, Pt.cells, Pt.slots] at X' e1 e2 h1 h2 h3 st
  subst h1; subst h2; subst h3
  exact ⟨v, (T.setVm vm₁).calling g' mk (Value.ref b :: As).toArray, t, U', L, hT, X', hL, e1, e2, hq, st⟩
section
variable {y : MethodName} {bytes cc : ByteArray} {maxL nL mc ms n index : Nat} {ret : Option FieldType} {ws : List Cond} {rm : Room} {Pc : Array Value → State → Prop} {Qc : Array Value → State → Outcome → State → Prop} {XC : String → State → State → Prop} {free : Addr → Prop} {Ts : List Cond} {own C : String} {b : Addr} {As rest : List Value} {g : JFrame}
theorem vx_runVX {hh : List (Nat × Nat × Nat × Nat)} (S : CallFix p m c cc nL s args Ts own) (hM : vx_Met l y ws rm Pc Qc XC mc ms free) (cw : vx_CVW R s args own C index y bytes maxL ret hh ws rm mc ms n) (hp : PreV s H C b Pc As)
    (hg : g.method = m) (hn : As.length = n) (hsize : g.locals.size = nL) (hstack : g.stack = As.reverse ++ .ref b :: rest) (hW : 2 * g.monitorRoom + (rest.map fun v => v.category).sum ≤ 8) (hdg : decode cc g.pc = .ok (.invokevirtual index, 3)) (hf : cells + mc ≤ R.cells ∧ slots + ms ≤ R.slots) :
    vx_Run p l e R s m args below meth c H locs cells slots mc ms g rest (Qc (Value.ref b :: As).toArray) XC free := by
  obtain ⟨⟨hrc, hrs, hfr, hlo, hws, hcw⟩, hcode, hini, hy, hlen, hl, hin, hse⟩ := cw
  have hK : vx_Back l R p e below s args y 3 8 (PreOf R mc ms Pc) (PostOf Qc mc ms free) (vx_Post XC mc ms free) := vx_backW (hh := hh) (bytes := bytes) (maxL := maxL) (ret := ret) hM hp.1 hrc hrs hfr hlo hws hcw (fun a' U hW => word_at hW (Or.inl (by first | rfl | simp [Cond.onTables, Cond.keeps, Cond.steady])) hini)
  obtain ⟨hx, hb, hml, ho, -⟩ := S
  obtain ⟨-, ⟨cellB, hcB, hoB, hclB⟩, hPc⟩ := hp
  intro T hT X
  rcases vx_callVX X hx (C := C) (hh := hh) (bytes := bytes) (maxL := maxL) (ret := ret) ho hl hin hse hcode hy hK (by rw [hT]; exact hcB) hoB hclB hg (hsize.trans hml.symm) (argsL := As) (rest := rest) (fun sig h => hn.trans (hlen sig h)) hstack hW (by rw [hb]; exact hdg)
    (fun vm₁ hW₁ => ⟨hf.1, hf.2, hPc (T.setVm vm₁) hT hW₁⟩) with ⟨v, vm₁, ⟨U', l2, c2, s2⟩, hW₁, X', ⟨g', mk, t, L, e1, e2, hq, h1, hL, h2, h3⟩, st⟩ | ⟨q, vm₁, ⟨U', l2, c2, s2⟩, hW₁, X', ⟨g', mk, t, L, E, ce, e1, e2, hq, hce, hcv, hcl, h1, hL, h2, h3⟩, st⟩
  · dsimp only [Pt.U, Pt.locs, Pt.cells, Pt.slots] at X' e1 e2 h1 h2 h3 st
    subst h1; subst h2; subst h3
    exact Or.inl ⟨v, (T.setVm vm₁).calling g' mk (Value.ref b :: As).toArray, t, U', L, hT, X', hL, e1, e2, hq, st⟩
  · dsimp only [Pt.U, Pt.locs, Pt.cells, Pt.slots] at X' e1 e2 h1 h2 h3 st hcl
    subst h1; subst h2; subst h3
    exact Or.inr ⟨q, (T.setVm vm₁).calling g' mk (Value.ref b :: As).toArray, t, U', L, E, ce, hT, X', hL, e1, e2, hq, hce, hcv, vx_cls hW₁ hcl, st⟩
theorem vx_runSX {hh : List (Nat × Nat × Nat × Nat)} (S : CallFix p m c cc nL s args Ts own) (hM : vx_Met l y ws rm Pc Qc XC mc ms free) (cw : vx_CSW R s args own index y bytes maxL ret hh ws rm mc ms n) (hp : PreS s H Pc As)
    (hg : g.method = m) (hn : As.length = n) (hsize : g.locals.size = nL) (hstack : g.stack = As.reverse ++ rest) (hW : 2 * g.monitorRoom + (rest.map fun v => v.category).sum ≤ 8) (hdg : decode cc g.pc = .ok (.invokestatic index, 3)) (hf : cells + mc ≤ R.cells ∧ slots + ms ≤ R.slots) :
    vx_Run p l e R s m args below meth c H locs cells slots mc ms g rest (Qc As.toArray) XC free := by
  obtain ⟨⟨hrc, hrs, hfr, hlo, hws, hcw⟩, hcode, hini, hy, hlen, hl, hstt⟩ := cw
  have hK : vx_Back l R p e below s args y 3 8 (PreOf R mc ms Pc) (PostOf Qc mc ms free) (vx_Post XC mc ms free) := vx_backW (hh := hh) (bytes := bytes) (maxL := maxL) (ret := ret) hM hp.1 hrc hrs hfr hlo hws hcw (fun a' U hW => word_at hW (Or.inl (by first | rfl | simp [Cond.onTables, Cond.keeps, Cond.steady])) hini)
  obtain ⟨hx, hb, hml, ho, -⟩ := S
  intro T hT X
  rcases vx_callSX X hx (hh := hh) (bytes := bytes) (maxL := maxL) (ret := ret) ho hl hstt hini hcode hy hK hg (hsize.trans hml.symm) (argsL := As) (rest := rest) (fun sig h => hn.trans (hlen sig h)) hstack hW (by rw [hb]; exact hdg)
    (fun vm₁ hW₁ => ⟨hf.1, hf.2, hp.2 (T.setVm vm₁) hT hW₁⟩) with ⟨v, vm₁, ⟨U', l2, c2, s2⟩, hW₁, X', ⟨g', mk, t, L, e1, e2, hq, h1, hL, h2, h3⟩, st⟩ | ⟨q, vm₁, ⟨U', l2, c2, s2⟩, hW₁, X', ⟨g', mk, t, L, E, ce, e1, e2, hq, hce, hcv, hcl, h1, hL, h2, h3⟩, st⟩
  · dsimp only [Pt.U, Pt.locs, Pt.cells, Pt.slots] at X' e1 e2 h1 h2 h3 st
    subst h1; subst h2; subst h3
    exact Or.inl ⟨v, (T.setVm vm₁).calling g' mk As.toArray, t, U', L, hT, X', hL, e1, e2, hq, st⟩
  · dsimp only [Pt.U, Pt.locs, Pt.cells, Pt.slots] at X' e1 e2 h1 h2 h3 st hcl
    subst h1; subst h2; subst h3
    exact Or.inr ⟨q, (T.setVm vm₁).calling g' mk As.toArray, t, U', L, E, ce, hT, X', hL, e1, e2, hq, hce, hcv, vx_cls hW₁ hcl, st⟩
end
end VXH
theorem vx_ofWH {l : Launch} {y : MethodName} {ws ws' : List Cond} {rm : Room} {Pc : Array Value → State → Prop} {Qc : Array Value → State → Outcome → State → Prop} {XC : String → State → State → Prop} {mc ms : Nat} {free : Addr → Prop} {cc : ByteArray} {maxL : Nat} {ret : Option FieldType} {hh : List (Nat × Nat × Nat × Nat)}
    (hy : plainName y.cls = true) (hw : ws = Cond.codeWith y cc maxL ret hh :: ws')
    (body : ∀ p e s m args below meth c s₁, BodyLoose p l y (headSpec ws rm) cc maxL ret e s m args below meth c s₁ → c.maxLocals = maxL → Pc args s →
      W p l e (headSpec ws rm).room s m args below meth c s.heap [] 0 0 (vx_MQ below Qc XC args s mc ms free) (entryFrame m args maxL)) : vx_Met l y ws rm Pc Qc XC mc ms free := by
  refine MetFree.of_bodyS (code := cc) (maxLocals := maxL) (ret := ret) hy ?_ ?_
  · intro args s m h hn
    obtain ⟨m9, meth, c, hn9, h1, h2, h3, h4, -, h5, h6, -⟩ := Cond.codeWith_spec (atoms_spec (ws := ws) h _ (by rw [hw]; exact List.mem_cons_self))
    cases hn.symm.trans hn9
    exact ⟨meth, c, h1, h2, h3, h4, h5, h6⟩
  · intro p e s m args below meth c s₁ B hml hP _
    have hh0 : s₁.heap = s.heap := by rw [B.state]; rfl
    obtain ⟨t, a1, o, b1, b2, b3⟩ := body p e s m args below meth c s₁ B hml hP s₁ hh0 (Stand.of_body B)
    exact ⟨t, o, a1, b1, b2, b3⟩
/-! ===== END ===== -/
end
section
def RX0 : String := "BeaconRing$Dealer"
def TX0 : u_T := fun k => match k with
  | 0 => ("BeaconRing$Dealer", "commitments", "[I", true)
  | 1 => ("BeaconRing$Dealer", "right", "[I", true)
  | 2 => ("BeaconRing$Dealer", "given", "[I", true)
  | 3 => ("BeaconRing$Dealer", "complaints", "I", false)
  | 4 => ("BeaconRing$Dealer", "hasDealt", "Z", false)
  | _ => ("BeaconRing$Dealer", "isOut", "Z", false)
def tyX0 : Nat → FieldType := fun k => match k with
  | 0 => .array .int
  | 1 => .array .int
  | 2 => .array .int
  | 3 => .int
  | 4 => .boolean
  | _ => .boolean
abbrev wsX00 : List Cond := u_ws RX0 TX0 6
theorem nmX0 : ∀ a, a < 6 → ∀ b, b < 6 → a ≠ b → (TX0 a).2.1 ≠ (TX0 b).2.1 := by decide +kernel
theorem tyX0_ok : ∀ k, k < 6 → parseFieldDescriptor (TX0 k).2.2.1 = some (tyX0 k) := by decide +kernel
abbrev cX0_init : ByteArray := prog_2_method_1_code
def yX0_init : MethodName := ⟨RX0, "<init>", "()V"⟩
abbrev cX0_forget : ByteArray := prog_2_method_2_code
def yX0_forget : MethodName := ⟨RX0, "forget", "()V"⟩
abbrev cX0_dealBySeed : ByteArray := prog_2_method_3_code
def yX0_dealBySeed : MethodName := ⟨RX0, "dealBySeed", "(IJII)V"⟩
abbrev cX0_addToGiven : ByteArray := prog_2_method_4_code
def yX0_addToGiven : MethodName := ⟨RX0, "addToGiven", "(II)I"⟩
abbrev cX0_isRightShare : ByteArray := prog_2_method_5_code
def yX0_isRightShare : MethodName := ⟨RX0, "isRightShare", "(II)Z"⟩
abbrev cX0_gatherComplaints : ByteArray := prog_2_method_6_code
def yX0_gatherComplaints : MethodName := ⟨RX0, "gatherComplaints", "(I)V"⟩
abbrev cX0_hasComplaintOf : ByteArray := prog_2_method_7_code
def yX0_hasComplaintOf : MethodName := ⟨RX0, "hasComplaintOf", "(I)Z"⟩
abbrev cX0_answerComplaint : ByteArray := prog_2_method_8_code
def yX0_answerComplaint : MethodName := ⟨RX0, "answerComplaint", "(II)Z"⟩
abbrev cX0_mayQualify : ByteArray := prog_2_method_9_code
def yX0_mayQualify : MethodName := ⟨RX0, "mayQualify", "()Z"⟩
def RX1 : String := "BeaconRing$Numbers"
def TX1 : u_T := fun k => match k with
  | _ => ("", "", "", false)
def tyX1 : Nat → FieldType := fun k => match k with
  | _ => .int
abbrev wsX10 : List Cond := u_ws RX1 TX1 0
theorem nmX1 : ∀ a, a < 0 → ∀ b, b < 0 → a ≠ b → (TX1 a).2.1 ≠ (TX1 b).2.1 := by decide +kernel
theorem tyX1_ok : ∀ k, k < 0 → parseFieldDescriptor (TX1 k).2.2.1 = some (tyX1 k) := by decide +kernel
abbrev cX1_hasBit : ByteArray := prog_3_method_2_code
def yX1_hasBit : MethodName := ⟨RX1, "hasBit", "(II)Z"⟩
abbrev cX1_times : ByteArray := prog_3_method_3_code
def yX1_times : MethodName := ⟨RX1, "times", "(II)I"⟩
abbrev cX1_power : ByteArray := prog_3_method_4_code
def yX1_power : MethodName := ⟨RX1, "power", "(II)I"⟩
abbrev cX1_powerBelow : ByteArray := prog_3_method_5_code
def yX1_powerBelow : MethodName := ⟨RX1, "powerBelow", "(II)I"⟩
abbrev cX1_isInGroup : ByteArray := prog_3_method_6_code
def yX1_isInGroup : MethodName := ⟨RX1, "isInGroup", "(I)Z"⟩
abbrev cX1_isExponent : ByteArray := prog_3_method_7_code
def yX1_isExponent : MethodName := ⟨RX1, "isExponent", "(I)Z"⟩
abbrev cX1_toExponent : ByteArray := prog_3_method_8_code
def yX1_toExponent : MethodName := ⟨RX1, "toExponent", "(J)I"⟩
abbrev cX1_hash : ByteArray := prog_3_method_9_code
def yX1_hash : MethodName := ⟨RX1, "hash", "(JJ)J"⟩
abbrev cX1_stir : ByteArray := prog_3_method_10_code
def yX1_stir : MethodName := ⟨RX1, "stir", "(JJ)J"⟩
def RX2 : String := "BeaconRing$Rounds"
def TX2 : u_T := fun k => match k with
  | 0 => ("BeaconRing$Rounds", "values", "[J", true)
  | 1 => ("BeaconRing$Rounds", "parts", "[I", true)
  | 2 => ("BeaconRing$Rounds", "inverses", "[I", true)
  | 3 => ("BeaconRing$Rounds", "ended", "I", false)
  | 4 => ("BeaconRing$Rounds", "kept", "I", false)
  | 5 => ("BeaconRing$Rounds", "message", "J", false)
  | _ => ("BeaconRing$Rounds", "base", "I", false)
def tyX2 : Nat → FieldType := fun k => match k with
  | 0 => .array .long
  | 1 => .array .int
  | 2 => .array .int
  | 3 => .int
  | 4 => .int
  | 5 => .long
  | _ => .int
abbrev wsX20 : List Cond := u_ws RX2 TX2 7
theorem nmX2 : ∀ a, a < 7 → ∀ b, b < 7 → a ≠ b → (TX2 a).2.1 ≠ (TX2 b).2.1 := by decide +kernel
theorem tyX2_ok : ∀ k, k < 7 → parseFieldDescriptor (TX2 k).2.2.1 = some (tyX2 k) := by decide +kernel
abbrev cX2_init : ByteArray := prog_4_method_1_code
def yX2_init : MethodName := ⟨RX2, "<init>", "()V"⟩
abbrev cX2_forget : ByteArray := prog_4_method_2_code
def yX2_forget : MethodName := ⟨RX2, "forget", "()V"⟩
abbrev cX2_startFrom : ByteArray := prog_4_method_3_code
def yX2_startFrom : MethodName := ⟨RX2, "startFrom", "(J)V"⟩
abbrev cX2_endWith : ByteArray := prog_4_method_4_code
def yX2_endWith : MethodName := ⟨RX2, "endWith", "(I)V"⟩
abbrev cX2_startNext : ByteArray := prog_4_method_5_code
def yX2_startNext : MethodName := ⟨RX2, "startNext", "()V"⟩
abbrev cX2_keepsPartOf : ByteArray := prog_4_method_6_code
def yX2_keepsPartOf : MethodName := ⟨RX2, "keepsPartOf", "(I)Z"⟩
abbrev cX2_keep : ByteArray := prog_4_method_7_code
def yX2_keep : MethodName := ⟨RX2, "keep", "(II)V"⟩
abbrev cX2_leastKept : ByteArray := prog_4_method_8_code
def yX2_leastKept : MethodName := ⟨RX2, "leastKept", "(I)I"⟩
abbrev cX2_combine : ByteArray := prog_4_method_9_code
def yX2_combine : MethodName := ⟨RX2, "combine", "(I)I"⟩
abbrev cX2_weight : ByteArray := prog_4_method_10_code
def yX2_weight : MethodName := ⟨RX2, "weight", "(II)I"⟩
abbrev cX2_inverse : ByteArray := prog_4_method_11_code
def yX2_inverse : MethodName := ⟨RX2, "inverse", "(I)I"⟩
def RX3 : String := "BeaconRing$Statement"
def TX3 : u_T := fun k => match k with
  | 0 => ("BeaconRing$Statement", "part", "I", false)
  | 1 => ("BeaconRing$Statement", "c", "I", false)
  | _ => ("BeaconRing$Statement", "z", "I", false)
def tyX3 : Nat → FieldType := fun k => match k with
  | 0 => .int
  | 1 => .int
  | _ => .int
abbrev wsX30 : List Cond := u_ws RX3 TX3 3
theorem nmX3 : ∀ a, a < 3 → ∀ b, b < 3 → a ≠ b → (TX3 a).2.1 ≠ (TX3 b).2.1 := by decide +kernel
theorem tyX3_ok : ∀ k, k < 3 → parseFieldDescriptor (TX3 k).2.2.1 = some (tyX3 k) := by decide +kernel
abbrev cX3_init : ByteArray := prog_5_method_1_code
def yX3_init : MethodName := ⟨RX3, "<init>", "()V"⟩
abbrev cX3_state : ByteArray := prog_5_method_2_code
def yX3_state : MethodName := ⟨RX3, "state", "(IIIJ)V"⟩
abbrev cX3_add : ByteArray := prog_5_method_3_code
def yX3_add : MethodName := ⟨RX3, "add", "(III)Z"⟩
abbrev cX3_holds : ByteArray := prog_5_method_4_code
def yX3_holds : MethodName := ⟨RX3, "holds", "(II)Z"⟩
abbrev cX3_challenge : ByteArray := prog_5_method_5_code
def yX3_challenge : MethodName := ⟨RX3, "challenge", "(IIII)I"⟩
abbrev cX3_canAdd : ByteArray := prog_5_method_6_code
def yX3_canAdd : MethodName := ⟨RX3, "canAdd", "(II)Z"⟩
def RX4 : String := "BeaconRing"
def TX4 : u_T := fun k => match k with
  | 0 => ("BeaconRing", "dealers", "[LBeaconRing$Dealer;", true)
  | 1 => ("BeaconRing", "keys", "[I", true)
  | 2 => ("BeaconRing", "publicKeys", "[I", true)
  | 3 => ("BeaconRing", "rounds", "LBeaconRing$Rounds;", true)
  | 4 => ("BeaconRing", "statement", "LBeaconRing$Statement;", true)
  | 5 => ("BeaconRing", "n", "I", false)
  | 6 => ("BeaconRing", "t", "I", false)
  | 7 => ("BeaconRing", "closed", "Z", false)
  | 8 => ("BeaconRing", "qualified", "I", false)
  | _ => ("BeaconRing", "wholePublicKey", "I", false)
def tyX4 : Nat → FieldType := fun k => match k with
  | 0 => .array (.object "BeaconRing$Dealer")
  | 1 => .array .int
  | 2 => .array .int
  | 3 => .object "BeaconRing$Rounds"
  | 4 => .object "BeaconRing$Statement"
  | 5 => .int
  | 6 => .int
  | 7 => .boolean
  | 8 => .int
  | _ => .int
abbrev wsX40 : List Cond := u_ws RX4 TX4 10
theorem nmX4 : ∀ a, a < 10 → ∀ b, b < 10 → a ≠ b → (TX4 a).2.1 ≠ (TX4 b).2.1 := by decide +kernel
theorem tyX4_ok : ∀ k, k < 10 → parseFieldDescriptor (TX4 k).2.2.1 = some (tyX4 k) := by decide +kernel
abbrev cX4_init : ByteArray := prog_1_method_1_code
def yX4_init : MethodName := ⟨RX4, "<init>", "()V"⟩
abbrev cX4_begin : ByteArray := prog_1_method_2_code
def yX4_begin : MethodName := ⟨RX4, "begin", "(II)V"⟩
abbrev cX4_deal : ByteArray := prog_1_method_3_code
def yX4_deal : MethodName := ⟨RX4, "deal", "(IJ)V"⟩
abbrev cX4_spoil : ByteArray := prog_1_method_4_code
def yX4_spoil : MethodName := ⟨RX4, "spoil", "(III)I"⟩
abbrev cX4_commitment : ByteArray := prog_1_method_5_code
def yX4_commitment : MethodName := ⟨RX4, "commitment", "(II)I"⟩
abbrev cX4_share : ByteArray := prog_1_method_6_code
def yX4_share : MethodName := ⟨RX4, "share", "(II)I"⟩
abbrev cX4_isRight : ByteArray := prog_1_method_7_code
def yX4_isRight : MethodName := ⟨RX4, "isRight", "(III)Z"⟩
abbrev cX4_complain : ByteArray := prog_1_method_8_code
def yX4_complain : MethodName := ⟨RX4, "complain", "()I"⟩
abbrev cX4_answer : ByteArray := prog_1_method_9_code
def yX4_answer : MethodName := ⟨RX4, "answer", "(III)Z"⟩
abbrev cX4_close : ByteArray := prog_1_method_10_code
def yX4_close : MethodName := ⟨RX4, "close", "(J)I"⟩
abbrev cX4_key : ByteArray := prog_1_method_11_code
def yX4_key : MethodName := ⟨RX4, "key", "(II)I"⟩
abbrev cX4_round : ByteArray := prog_1_method_12_code
def yX4_round : MethodName := ⟨RX4, "round", "(I)I"⟩
abbrev cX4_says : ByteArray := prog_1_method_13_code
def yX4_says : MethodName := ⟨RX4, "says", "(II)I"⟩
abbrev cX4_offer : ByteArray := prog_1_method_14_code
def yX4_offer : MethodName := ⟨RX4, "offer", "(IIIII)Z"⟩
abbrev cX4_value : ByteArray := prog_1_method_15_code
def yX4_value : MethodName := ⟨RX4, "value", "(I)I"⟩
abbrev cX4_publish : ByteArray := prog_1_method_16_code
def yX4_publish : MethodName := ⟨RX4, "publish", "()I"⟩
abbrev cX4_ended : ByteArray := prog_1_method_17_code
def yX4_ended : MethodName := ⟨RX4, "ended", "(I)J"⟩
abbrev cX4_random : ByteArray := prog_1_method_18_code
def yX4_random : MethodName := ⟨RX4, "random", "(I)J"⟩
abbrev cX4_about : ByteArray := prog_1_method_19_code
def yX4_about : MethodName := ⟨RX4, "about", "(I)I"⟩
abbrev cX4_needNode : ByteArray := prog_1_method_20_code
def yX4_needNode : MethodName := ⟨RX4, "needNode", "(I)V"⟩
abbrev cX4_needExponent : ByteArray := prog_1_method_21_code
def yX4_needExponent : MethodName := ⟨RX4, "needExponent", "(I)V"⟩
abbrev cX4_needWhat : ByteArray := prog_1_method_22_code
def yX4_needWhat : MethodName := ⟨RX4, "needWhat", "(II)V"⟩
abbrev cX4_needDealt : ByteArray := prog_1_method_23_code
def yX4_needDealt : MethodName := ⟨RX4, "needDealt", "(I)V"⟩
abbrev cX4_needOpen : ByteArray := prog_1_method_24_code
def yX4_needOpen : MethodName := ⟨RX4, "needOpen", "()V"⟩
abbrev cX4_needClosed : ByteArray := prog_1_method_25_code
def yX4_needClosed : MethodName := ⟨RX4, "needClosed", "()V"⟩
abbrev cX4_needEnded : ByteArray := prog_1_method_26_code
def yX4_needEnded : MethodName := ⟨RX4, "needEnded", "(I)V"⟩
abbrev cX4_countDealt : ByteArray := prog_1_method_27_code
def yX4_countDealt : MethodName := ⟨RX4, "countDealt", "()I"⟩
abbrev cX4_countComplaints : ByteArray := prog_1_method_28_code
def yX4_countComplaints : MethodName := ⟨RX4, "countComplaints", "()I"⟩
abbrev cX4_countOut : ByteArray := prog_1_method_29_code
def yX4_countOut : MethodName := ⟨RX4, "countOut", "()I"⟩
abbrev cX4_findQualified : ByteArray := prog_1_method_30_code
def yX4_findQualified : MethodName := ⟨RX4, "findQualified", "()I"⟩
abbrev cX4_makeKeys : ByteArray := prog_1_method_31_code
def yX4_makeKeys : MethodName := ⟨RX4, "makeKeys", "()V"⟩
abbrev cX4_sumOfShares : ByteArray := prog_1_method_32_code
def yX4_sumOfShares : MethodName := ⟨RX4, "sumOfShares", "(I)I"⟩
abbrev cX4_stateFor : ByteArray := prog_1_method_33_code
def yX4_stateFor : MethodName := ⟨RX4, "stateFor", "(I)V"⟩
def RX5 : String := "BeaconRingModel"
def TX5 : u_T := fun k => match k with
  | 0 => ("BeaconRingModel", "code", "I", false)
  | 1 => ("BeaconRingModel", "n", "I", false)
  | 2 => ("BeaconRingModel", "t", "I", false)
  | 3 => ("BeaconRingModel", "closed", "Z", false)
  | 4 => ("BeaconRingModel", "dealt", "[Z", true)
  | 5 => ("BeaconRingModel", "out", "[Z", true)
  | 6 => ("BeaconRingModel", "coefficient", "[J", true)
  | 7 => ("BeaconRingModel", "commitment", "[J", true)
  | 8 => ("BeaconRingModel", "share", "[J", true)
  | 9 => ("BeaconRingModel", "complaint", "[Z", true)
  | 10 => ("BeaconRingModel", "qualified", "I", false)
  | 11 => ("BeaconRingModel", "keys", "[J", true)
  | 12 => ("BeaconRingModel", "shown", "[J", true)
  | 13 => ("BeaconRingModel", "values", "[J", true)
  | 14 => ("BeaconRingModel", "rounds", "I", false)
  | 15 => ("BeaconRingModel", "kept", "I", false)
  | 16 => ("BeaconRingModel", "parts", "[J", true)
  | _ => ("BeaconRingModel", "hash", "J", false)
def tyX5 : Nat → FieldType := fun k => match k with
  | 0 => .int
  | 1 => .int
  | 2 => .int
  | 3 => .boolean
  | 4 => .array .boolean
  | 5 => .array .boolean
  | 6 => .array .long
  | 7 => .array .long
  | 8 => .array .long
  | 9 => .array .boolean
  | 10 => .int
  | 11 => .array .long
  | 12 => .array .long
  | 13 => .array .long
  | 14 => .int
  | 15 => .int
  | 16 => .array .long
  | _ => .long
abbrev wsX50 : List Cond := u_ws RX5 TX5 18
theorem nmX5 : ∀ a, a < 18 → ∀ b, b < 18 → a ≠ b → (TX5 a).2.1 ≠ (TX5 b).2.1 := by decide +kernel
theorem tyX5_ok : ∀ k, k < 18 → parseFieldDescriptor (TX5 k).2.2.1 = some (tyX5 k) := by decide +kernel
abbrev cX5_init : ByteArray := prog_7_method_1_code
def yX5_init : MethodName := ⟨RX5, "<init>", "()V"⟩
abbrev cX5_thrown : ByteArray := prog_7_method_2_code
def yX5_thrown : MethodName := ⟨RX5, "thrown", "()I"⟩
abbrev cX5_refuses : ByteArray := prog_7_method_3_code
def yX5_refuses : MethodName := ⟨RX5, "refuses", "(I)Z"⟩
abbrev cX5_hashes : ByteArray := prog_7_method_4_code
def yX5_hashes : MethodName := ⟨RX5, "hashes", "(J)V"⟩
abbrev cX5_rest : ByteArray := prog_7_method_5_code
def yX5_rest : MethodName := ⟨RX5, "rest", "(JJ)J"⟩
abbrev cX5_power : ByteArray := prog_7_method_6_code
def yX5_power : MethodName := ⟨RX5, "power", "(JJJ)J"⟩
abbrev cX5_isNode : ByteArray := prog_7_method_7_code
def yX5_isNode : MethodName := ⟨RX5, "isNode", "(I)Z"⟩
abbrev cX5_isExponent : ByteArray := prog_7_method_8_code
def yX5_isExponent : MethodName := ⟨RX5, "isExponent", "(I)Z"⟩
abbrev cX5_begin : ByteArray := prog_7_method_9_code
def yX5_begin : MethodName := ⟨RX5, "begin", "(II)V"⟩
abbrev cX5_right : ByteArray := prog_7_method_10_code
def yX5_right : MethodName := ⟨RX5, "right", "(II)J"⟩
abbrev cX5_deal : ByteArray := prog_7_method_11_code
def yX5_deal : MethodName := ⟨RX5, "deal", "(IJ)V"⟩
abbrev cX5_spoil : ByteArray := prog_7_method_12_code
def yX5_spoil : MethodName := ⟨RX5, "spoil", "(III)I"⟩
abbrev cX5_commitment : ByteArray := prog_7_method_13_code
def yX5_commitment : MethodName := ⟨RX5, "commitment", "(II)I"⟩
abbrev cX5_share : ByteArray := prog_7_method_14_code
def yX5_share : MethodName := ⟨RX5, "share", "(II)I"⟩
abbrev cX5_isRight : ByteArray := prog_7_method_15_code
def yX5_isRight : MethodName := ⟨RX5, "isRight", "(III)Z"⟩
abbrev cX5_complain : ByteArray := prog_7_method_16_code
def yX5_complain : MethodName := ⟨RX5, "complain", "()I"⟩
abbrev cX5_complaints : ByteArray := prog_7_method_17_code
def yX5_complaints : MethodName := ⟨RX5, "complaints", "(I)I"⟩
abbrev cX5_answer : ByteArray := prog_7_method_18_code
def yX5_answer : MethodName := ⟨RX5, "answer", "(III)Z"⟩
abbrev cX5_isQualified : ByteArray := prog_7_method_19_code
def yX5_isQualified : MethodName := ⟨RX5, "isQualified", "(I)Z"⟩
abbrev cX5_close : ByteArray := prog_7_method_20_code
def yX5_close : MethodName := ⟨RX5, "close", "(J)I"⟩
abbrev cX5_key : ByteArray := prog_7_method_21_code
def yX5_key : MethodName := ⟨RX5, "key", "(II)I"⟩
abbrev cX5_message : ByteArray := prog_7_method_22_code
def yX5_message : MethodName := ⟨RX5, "message", "()J"⟩
abbrev cX5_base : ByteArray := prog_7_method_23_code
def yX5_base : MethodName := ⟨RX5, "base", "()J"⟩
abbrev cX5_round : ByteArray := prog_7_method_24_code
def yX5_round : MethodName := ⟨RX5, "round", "(I)I"⟩
abbrev cX5_challenge : ByteArray := prog_7_method_25_code
def yX5_challenge : MethodName := ⟨RX5, "challenge", "(JJJJJ)J"⟩
abbrev cX5_said : ByteArray := prog_7_method_26_code
def yX5_said : MethodName := ⟨RX5, "said", "(II)J"⟩
abbrev cX5_says : ByteArray := prog_7_method_27_code
def yX5_says : MethodName := ⟨RX5, "says", "(II)I"⟩
abbrev cX5_quotient : ByteArray := prog_7_method_28_code
def yX5_quotient : MethodName := ⟨RX5, "quotient", "(JJJJ)J"⟩
abbrev cX5_holds : ByteArray := prog_7_method_29_code
def yX5_holds : MethodName := ⟨RX5, "holds", "(IJJJ)Z"⟩
abbrev cX5_offer : ByteArray := prog_7_method_30_code
def yX5_offer : MethodName := ⟨RX5, "offer", "(IIIII)Z"⟩
abbrev cX5_combined : ByteArray := prog_7_method_31_code
def yX5_combined : MethodName := ⟨RX5, "combined", "(I)J"⟩
abbrev cX5_value : ByteArray := prog_7_method_32_code
def yX5_value : MethodName := ⟨RX5, "value", "(I)I"⟩
abbrev cX5_publish : ByteArray := prog_7_method_33_code
def yX5_publish : MethodName := ⟨RX5, "publish", "()I"⟩
abbrev cX5_ended : ByteArray := prog_7_method_34_code
def yX5_ended : MethodName := ⟨RX5, "ended", "(I)J"⟩
abbrev cX5_random : ByteArray := prog_7_method_35_code
def yX5_random : MethodName := ⟨RX5, "random", "(I)J"⟩
abbrev cX5_about : ByteArray := prog_7_method_36_code
def yX5_about : MethodName := ⟨RX5, "about", "(I)I"⟩
def RJ6 : String := "java/lang/Integer"
def TJ6 : u_T := fun k => match k with
  | _ => ("", "", "", false)
def tyJ6 : Nat → FieldType := fun k => match k with
  | _ => .int
abbrev wsJ60 : List Cond := u_ws RJ6 TJ6 0
theorem nmJ6 : ∀ a, a < 0 → ∀ b, b < 0 → a ≠ b → (TJ6 a).2.1 ≠ (TJ6 b).2.1 := by decide +kernel
theorem tyJ6_ok : ∀ k, k < 0 → parseFieldDescriptor (TJ6 k).2.2.1 = some (tyJ6 k) := by decide +kernel
abbrev cJ6_bitCount_0f7a4 : ByteArray := prog_11_method_49_code
def yJ6_bitCount_0f7a4 : MethodName := ⟨RJ6, "bitCount", "(I)I"⟩
def RJ9 : String := "java/lang/Math"
def TJ9 : u_T := fun k => match k with
  | _ => ("", "", "", false)
def tyJ9 : Nat → FieldType := fun k => match k with
  | _ => .int
abbrev wsJ90 : List Cond := u_ws RJ9 TJ9 0
theorem nmJ9 : ∀ a, a < 0 → ∀ b, b < 0 → a ≠ b → (TJ9 a).2.1 ≠ (TJ9 b).2.1 := by decide +kernel
theorem tyJ9_ok : ∀ k, k < 0 → parseFieldDescriptor (TJ9 k).2.2.1 = some (tyJ9 k) := by decide +kernel
abbrev cJ9_floorMod_f86c9 : ByteArray := prog_12_method_52_code
def yJ9_floorMod_f86c9 : MethodName := ⟨RJ9, "floorMod", "(JJ)J"⟩
def RJ0 : String := "java/lang/String"
def TJ0 : u_T := fun k => match k with
  | _ => ("", "", "", false)
def tyJ0 : Nat → FieldType := fun k => match k with
  | _ => .int
abbrev wsJ00 : List Cond := u_ws RJ0 TJ0 0
theorem nmJ0 : ∀ a, a < 0 → ∀ b, b < 0 → a ≠ b → (TJ0 a).2.1 ≠ (TJ0 b).2.1 := by decide +kernel
theorem tyJ0_ok : ∀ k, k < 0 → parseFieldDescriptor (TJ0 k).2.2.1 = some (tyJ0 k) := by decide +kernel
def RL : String := "BeaconRingLaw"
abbrev cL_begin : ByteArray := method_3_code
def yL_begin : MethodName := ⟨RL, "begin", "(LBeaconRing;II)I"⟩
abbrev cL_deal : ByteArray := method_4_code
def yL_deal : MethodName := ⟨RL, "deal", "(LBeaconRing;IJ)I"⟩
abbrev cL_spoil : ByteArray := method_5_code
def yL_spoil : MethodName := ⟨RL, "spoil", "(LBeaconRing;III[J)I"⟩
abbrev cL_commitment : ByteArray := method_6_code
def yL_commitment : MethodName := ⟨RL, "commitment", "(LBeaconRing;II[J)I"⟩
abbrev cL_share : ByteArray := method_7_code
def yL_share : MethodName := ⟨RL, "share", "(LBeaconRing;II[J)I"⟩
abbrev cL_isRight : ByteArray := method_8_code
def yL_isRight : MethodName := ⟨RL, "isRight", "(LBeaconRing;III[J)I"⟩
abbrev cL_complain : ByteArray := method_9_code
def yL_complain : MethodName := ⟨RL, "complain", "(LBeaconRing;[J)I"⟩
abbrev cL_answer : ByteArray := method_10_code
def yL_answer : MethodName := ⟨RL, "answer", "(LBeaconRing;III[J)I"⟩
abbrev cL_close : ByteArray := method_11_code
def yL_close : MethodName := ⟨RL, "close", "(LBeaconRing;J[J)I"⟩
abbrev cL_key : ByteArray := method_12_code
def yL_key : MethodName := ⟨RL, "key", "(LBeaconRing;II[J)I"⟩
abbrev cL_round : ByteArray := method_13_code
def yL_round : MethodName := ⟨RL, "round", "(LBeaconRing;I[J)I"⟩
abbrev cL_says : ByteArray := method_14_code
def yL_says : MethodName := ⟨RL, "says", "(LBeaconRing;II[J)I"⟩
abbrev cL_offer : ByteArray := method_15_code
def yL_offer : MethodName := ⟨RL, "offer", "(LBeaconRing;IIIII[J)I"⟩
abbrev cL_value : ByteArray := method_16_code
def yL_value : MethodName := ⟨RL, "value", "(LBeaconRing;I[J)I"⟩
abbrev cL_publish : ByteArray := method_17_code
def yL_publish : MethodName := ⟨RL, "publish", "(LBeaconRing;[J)I"⟩
abbrev cL_ended : ByteArray := method_18_code
def yL_ended : MethodName := ⟨RL, "ended", "(LBeaconRing;I[J)I"⟩
abbrev cL_random : ByteArray := method_19_code
def yL_random : MethodName := ⟨RL, "random", "(LBeaconRing;I[J)I"⟩
abbrev cL_about : ByteArray := method_20_code
def yL_about : MethodName := ⟨RL, "about", "(LBeaconRing;I[J)I"⟩
abbrev cL_law : ByteArray := code
def yL_law : MethodName := ⟨RL, "law", "([I)Z"⟩
def wsL_law0_r1 : List Cond := [Cond.classLink RL 8 RX4, Cond.instantiable RX4 10, Cond.initialized RX4, Cond.classLink RL 80 RX5, Cond.instantiable RX5 18, Cond.initialized RX5, Cond.arrayClass .long, Cond.constantLong RL 92 (4294967295), Cond.methodLink RL 79 yX4_init, Cond.instanceMethod yX4_init, Cond.code yX4_init cX4_init 2 none, Cond.methodLink RX4 1 objectInit, Cond.instanceMethod objectInit, Cond.code objectInit ⟨#[0xb1]⟩ 1 none, Cond.classLink RX4 9 RX0, Cond.fieldLink RX4 11 "BeaconRing" "dealers" "[LBeaconRing$Dealer;", Cond.instantiable RX0 6, Cond.initialized RX0, Cond.arrayClass .int, Cond.fieldLink RX4 16 "BeaconRing" "keys" "[I", Cond.fieldLink RX4 20 "BeaconRing" "publicKeys" "[I", Cond.classLink RX4 23 RX2, Cond.instantiable RX2 7, Cond.initialized RX2]
def wsL_law0_r2 : List Cond := [Cond.fieldLink RX4 26 "BeaconRing" "rounds" "LBeaconRing$Rounds;", Cond.classLink RX4 30 RX3, Cond.instantiable RX3 3, Cond.initialized RX3, Cond.fieldLink RX4 33 "BeaconRing" "statement" "LBeaconRing$Statement;", Cond.instanceMethod yX0_init, Cond.code yX0_init cX0_init 1 none, Cond.methodLink RX0 3 objectInit, Cond.fieldLink RX0 9 "BeaconRing$Dealer" "commitments" "[I", Cond.fieldLink RX0 15 "BeaconRing$Dealer" "right" "[I", Cond.fieldLink RX0 18 "BeaconRing$Dealer" "given" "[I", Cond.methodLink RX4 25 yX2_init, Cond.instanceMethod yX2_init, Cond.code yX2_init cX2_init 3 none, Cond.methodLink RX2 3 objectInit, Cond.fieldLink RX2 9 "BeaconRing$Rounds" "values" "[J", Cond.fieldLink RX2 15 "BeaconRing$Rounds" "parts" "[I", Cond.fieldLink RX2 19 "BeaconRing$Rounds" "inverses" "[I", Cond.constant RX2 24 (1073741789), Cond.methodLink RX2 25 yX1_toExponent, Cond.static yX1_toExponent, Cond.initialized RX1, Cond.code yX1_toExponent cX1_toExponent 2 (some .int), Cond.constantLong RX1 24 (1073741789)]
def wsL_law0_r3 : List Cond := [Cond.methodLink RX1 26 yJ9_floorMod_f86c9, Cond.static yJ9_floorMod_f86c9, Cond.initialized RJ9, Cond.code yJ9_floorMod_f86c9 cJ9_floorMod_f86c9 6 (some .long), Cond.instanceMethod yX3_init, Cond.code yX3_init cX3_init 1 none, Cond.methodLink RX3 3 objectInit, Cond.methodLink RL 82 yX5_init, Cond.instanceMethod yX5_init, Cond.code yX5_init cX5_init 1 none, Cond.methodLink RX5 1 objectInit, Cond.arrayClass .boolean, Cond.fieldLink RX5 7 "BeaconRingModel" "dealt" "[Z", Cond.fieldLink RX5 13 "BeaconRingModel" "out" "[Z", Cond.fieldLink RX5 16 "BeaconRingModel" "coefficient" "[J", Cond.fieldLink RX5 20 "BeaconRingModel" "commitment" "[J", Cond.fieldLink RX5 23 "BeaconRingModel" "share" "[J", Cond.fieldLink RX5 26 "BeaconRingModel" "complaint" "[Z", Cond.fieldLink RX5 29 "BeaconRingModel" "keys" "[J", Cond.fieldLink RX5 32 "BeaconRingModel" "shown" "[J", Cond.fieldLink RX5 35 "BeaconRingModel" "values" "[J", Cond.fieldLink RX5 38 "BeaconRingModel" "parts" "[J", Cond.methodLink RL 83 yL_begin, Cond.static yL_begin]
def wsL_law0_r4 : List Cond := [Cond.initialized RL, Cond.codeWith yL_begin cL_begin 4 (some .int) [(0, 6, 9, 13)], Cond.classLink RL 13 "java/lang/IllegalArgumentException", Cond.methodLink RL 7 yX4_begin, Cond.instanceMethod yX4_begin, Cond.selects RX4 yX4_begin yX4_begin, Cond.code yX4_begin cX4_begin 4 none, Cond.classLink RX4 37 "java/lang/IllegalArgumentException", Cond.initialized "java/lang/IllegalArgumentException", Cond.fieldLink RX4 44 "BeaconRing" "n" "I", Cond.fieldLink RX4 48 "BeaconRing" "t" "I", Cond.fieldLink RX4 51 "BeaconRing" "closed" "Z", Cond.fieldLink RX4 55 "BeaconRing" "qualified" "I", Cond.methodLink RX4 58 yX0_forget, Cond.instanceMethod yX0_forget, Cond.selects RX0 yX0_forget yX0_forget, Cond.code yX0_forget cX0_forget 1 none, Cond.fieldLink RX0 21 "BeaconRing$Dealer" "complaints" "I", Cond.fieldLink RX0 25 "BeaconRing$Dealer" "hasDealt" "Z", Cond.fieldLink RX0 29 "BeaconRing$Dealer" "isOut" "Z", Cond.methodLink RX4 61 yX2_forget, Cond.instanceMethod yX2_forget, Cond.selects RX2 yX2_forget yX2_forget, Cond.code yX2_forget cX2_forget 1 none]
def wsL_law0_r5 : List Cond := [Cond.fieldLink RX2 29 "BeaconRing$Rounds" "ended" "I", Cond.fieldLink RX2 33 "BeaconRing$Rounds" "kept" "I", Cond.methodLink RL 88 yX5_begin, Cond.instanceMethod yX5_begin, Cond.selects RX5 yX5_begin yX5_begin, Cond.code yX5_begin cX5_begin 4 none, Cond.fieldLink RX5 59 "BeaconRingModel" "n" "I", Cond.fieldLink RX5 68 "BeaconRingModel" "t" "I", Cond.fieldLink RX5 71 "BeaconRingModel" "closed" "Z", Cond.fieldLink RX5 75 "BeaconRingModel" "qualified" "I", Cond.fieldLink RX5 78 "BeaconRingModel" "rounds" "I", Cond.fieldLink RX5 81 "BeaconRingModel" "kept" "I", Cond.methodLink RX5 64 yX5_refuses, Cond.instanceMethod yX5_refuses, Cond.selects RX5 yX5_refuses yX5_refuses, Cond.code yX5_refuses cX5_refuses 2 (some .boolean), Cond.fieldLink RX5 41 "BeaconRingModel" "code" "I", Cond.methodLink RL 89 yX5_thrown, Cond.instanceMethod yX5_thrown, Cond.selects RX5 yX5_thrown yX5_thrown, Cond.code yX5_thrown cX5_thrown 1 (some .int), Cond.methodLink RL 94 yL_deal, Cond.static yL_deal, Cond.codeWith yL_deal cL_deal 5 (some .int) [(0, 6, 9, 13), (0, 6, 13, 19)]]
def wsL_law0_r6 : List Cond := [Cond.classLink RL 19 "java/lang/IllegalStateException", Cond.methodLink RL 15 yX4_deal, Cond.instanceMethod yX4_deal, Cond.selects RX4 yX4_deal yX4_deal, Cond.code yX4_deal cX4_deal 4 none, Cond.classLink RX4 72 "java/lang/IllegalStateException", Cond.initialized "java/lang/IllegalStateException", Cond.fieldLink RX4 69 "BeaconRing$Dealer" "hasDealt" "Z", Cond.methodLink RX4 62 yX4_needNode, Cond.instanceMethod yX4_needNode, Cond.selects RX4 yX4_needNode yX4_needNode, Cond.code yX4_needNode cX4_needNode 2 none, Cond.methodLink RX4 66 yX4_needOpen, Cond.instanceMethod yX4_needOpen, Cond.selects RX4 yX4_needOpen yX4_needOpen, Cond.code yX4_needOpen cX4_needOpen 1 none, Cond.methodLink RX4 77 yX0_dealBySeed, Cond.instanceMethod yX0_dealBySeed, Cond.selects RX0 yX0_dealBySeed yX0_dealBySeed, Cond.code yX0_dealBySeed cX0_dealBySeed 9 none, Cond.methodLink RX0 32 yX1_hash, Cond.static yX1_hash, Cond.code yX1_hash cX1_hash 4 (some .long), Cond.methodLink RX1 32 yX1_stir]
def wsL_law0_r7 : List Cond := [Cond.static yX1_stir, Cond.code yX1_stir cX1_stir 6 (some .long), Cond.constantLong RX1 35 (6364136223846793005), Cond.constantLong RX1 37 (1442695040888963407), Cond.constantLong RX1 39 (2862933555777941757), Cond.methodLink RX0 38 yX1_stir, Cond.methodLink RX0 41 yX1_toExponent, Cond.methodLink RX0 45 yX1_power, Cond.static yX1_power, Cond.code yX1_power cX1_power 4 (some .int), Cond.methodLink RX1 11 yX1_times, Cond.static yX1_times, Cond.code yX1_times cX1_times 2 (some .int), Cond.constantLong RX1 9 (2147483579), Cond.methodLink RX1 15 yX1_hasBit, Cond.static yX1_hasBit, Cond.code yX1_hasBit cX1_hasBit 2 (some .boolean), Cond.methodLink RL 97 yX5_deal, Cond.instanceMethod yX5_deal, Cond.selects RX5 yX5_deal yX5_deal, Cond.code yX5_deal cX5_deal 5 none, Cond.fieldLink RX5 45 "BeaconRingModel" "hash" "J", Cond.constantLong RX5 62 (1073741789), Cond.constantLong RX5 91 (4)]
def wsL_law0_r8 : List Cond := [Cond.constantLong RX5 93 (2147483579), Cond.methodLink RX5 84 yX5_isNode, Cond.instanceMethod yX5_isNode, Cond.selects RX5 yX5_isNode yX5_isNode, Cond.code yX5_isNode cX5_isNode 2 (some .boolean), Cond.methodLink RX5 87 yX5_hashes, Cond.instanceMethod yX5_hashes, Cond.selects RX5 yX5_hashes yX5_hashes, Cond.code yX5_hashes cX5_hashes 3 none, Cond.constantLong RX5 49 (6364136223846793005), Cond.constantLong RX5 51 (1442695040888963407), Cond.constantLong RX5 53 (2862933555777941757), Cond.methodLink RX5 55 yX5_rest, Cond.static yX5_rest, Cond.code yX5_rest cX5_rest 6 (some .long), Cond.methodLink RX5 95 yX5_power, Cond.static yX5_power, Cond.code yX5_power cX5_power 12 (some .long), Cond.methodLink RX5 99 yX5_right, Cond.instanceMethod yX5_right, Cond.selects RX5 yX5_right yX5_right, Cond.code yX5_right cX5_right 8 (some .long), Cond.methodLink RL 98 yL_spoil, Cond.static yL_spoil]
def wsL_law0_r9 : List Cond := [Cond.codeWith yL_spoil cL_spoil 6 (some .int) [(0, 12, 15, 13), (0, 12, 19, 19)], Cond.methodLink RL 21 yX4_spoil, Cond.instanceMethod yX4_spoil, Cond.selects RX4 yX4_spoil yX4_spoil, Cond.code yX4_spoil cX4_spoil 4 (some .int), Cond.methodLink RX4 81 yX4_needExponent, Cond.instanceMethod yX4_needExponent, Cond.selects RX4 yX4_needExponent yX4_needExponent, Cond.code yX4_needExponent cX4_needExponent 2 none, Cond.methodLink RX4 224 yX1_isExponent, Cond.static yX1_isExponent, Cond.code yX1_isExponent cX1_isExponent 1 (some .boolean), Cond.constant RX1 19 (1073741789), Cond.methodLink RX4 84 yX4_needDealt, Cond.instanceMethod yX4_needDealt, Cond.selects RX4 yX4_needDealt yX4_needDealt, Cond.code yX4_needDealt cX4_needDealt 2 none, Cond.methodLink RX4 87 yX0_addToGiven, Cond.instanceMethod yX0_addToGiven, Cond.selects RX0 yX0_addToGiven yX0_addToGiven, Cond.code yX0_addToGiven cX0_addToGiven 4 (some .int), Cond.methodLink RL 101 yX5_spoil, Cond.instanceMethod yX5_spoil, Cond.selects RX5 yX5_spoil yX5_spoil]
def wsL_law0_r10 : List Cond := [Cond.code yX5_spoil cX5_spoil 6 (some .int), Cond.methodLink RX5 103 yX5_isExponent, Cond.static yX5_isExponent, Cond.code yX5_isExponent cX5_isExponent 1 (some .boolean), Cond.methodLink RL 102 yL_commitment, Cond.static yL_commitment, Cond.codeWith yL_commitment cL_commitment 5 (some .int) [(0, 10, 13, 13), (0, 10, 17, 19)], Cond.methodLink RL 25 yX4_commitment, Cond.instanceMethod yX4_commitment, Cond.selects RX4 yX4_commitment yX4_commitment, Cond.code yX4_commitment cX4_commitment 3 (some .int), Cond.fieldLink RX4 93 "BeaconRing$Dealer" "commitments" "[I", Cond.methodLink RL 105 yX5_commitment, Cond.instanceMethod yX5_commitment, Cond.selects RX5 yX5_commitment yX5_commitment, Cond.code yX5_commitment cX5_commitment 3 (some .int), Cond.methodLink RL 106 yL_share, Cond.static yL_share, Cond.codeWith yL_share cL_share 5 (some .int) [(0, 10, 13, 13), (0, 10, 17, 19)], Cond.methodLink RL 29 yX4_share, Cond.instanceMethod yX4_share, Cond.selects RX4 yX4_share yX4_share, Cond.code yX4_share cX4_share 3 (some .int), Cond.fieldLink RX4 96 "BeaconRing$Dealer" "given" "[I"]
def wsL_law0_r11 : List Cond := [Cond.methodLink RL 108 yX5_share, Cond.instanceMethod yX5_share, Cond.selects RX5 yX5_share yX5_share, Cond.code yX5_share cX5_share 3 (some .int), Cond.methodLink RL 109 yL_isRight, Cond.static yL_isRight, Cond.codeWith yL_isRight cL_isRight 6 (some .int) [(0, 19, 22, 13), (0, 19, 26, 19)], Cond.methodLink RL 32 yX4_isRight, Cond.instanceMethod yX4_isRight, Cond.selects RX4 yX4_isRight yX4_isRight, Cond.code yX4_isRight cX4_isRight 4 (some .boolean), Cond.methodLink RX4 99 yX0_isRightShare, Cond.instanceMethod yX0_isRightShare, Cond.selects RX0 yX0_isRightShare yX0_isRightShare, Cond.code yX0_isRightShare cX0_isRightShare 3 (some .boolean), Cond.methodLink RL 111 yX5_isRight, Cond.instanceMethod yX5_isRight, Cond.selects RX5 yX5_isRight yX5_isRight, Cond.code yX5_isRight cX5_isRight 5 (some .boolean), Cond.methodLink RL 112 yL_complain, Cond.static yL_complain, Cond.codeWith yL_complain cL_complain 3 (some .int) [(0, 8, 11, 19)], Cond.methodLink RL 36 yX4_complain, Cond.instanceMethod yX4_complain]
def wsL_law0_r12 : List Cond := [Cond.selects RX4 yX4_complain yX4_complain, Cond.code yX4_complain cX4_complain 2 (some .int), Cond.methodLink RX4 103 yX0_gatherComplaints, Cond.instanceMethod yX0_gatherComplaints, Cond.selects RX0 yX0_gatherComplaints yX0_gatherComplaints, Cond.code yX0_gatherComplaints cX0_gatherComplaints 3 none, Cond.methodLink RX0 49 yX0_isRightShare, Cond.methodLink RX4 106 yX4_countComplaints, Cond.instanceMethod yX4_countComplaints, Cond.selects RX4 yX4_countComplaints yX4_countComplaints, Cond.code yX4_countComplaints cX4_countComplaints 3 (some .int), Cond.fieldLink RX4 241 "BeaconRing$Dealer" "complaints" "I", Cond.methodLink RX4 131 yJ6_bitCount_0f7a4, Cond.static yJ6_bitCount_0f7a4, Cond.initialized RJ6, Cond.code yJ6_bitCount_0f7a4 cJ6_bitCount_0f7a4 1 (some .int), Cond.constant RJ6 265 (1431655765), Cond.constant RJ6 266 (858993459), Cond.constant RJ6 267 (252645135), Cond.methodLink RL 115 yX5_complain, Cond.instanceMethod yX5_complain, Cond.selects RX5 yX5_complain yX5_complain, Cond.code yX5_complain cX5_complain 3 (some .int), Cond.methodLink RX5 106 yX5_complaints]
def wsL_law0_r13 : List Cond := [Cond.instanceMethod yX5_complaints, Cond.selects RX5 yX5_complaints yX5_complaints, Cond.code yX5_complaints cX5_complaints 5 (some .int), Cond.methodLink RL 116 yL_answer, Cond.static yL_answer, Cond.codeWith yL_answer cL_answer 6 (some .int) [(0, 19, 22, 13), (0, 19, 26, 19)], Cond.methodLink RL 40 yX4_answer, Cond.instanceMethod yX4_answer, Cond.selects RX4 yX4_answer yX4_answer, Cond.code yX4_answer cX4_answer 4 (some .boolean), Cond.methodLink RX4 110 yX0_hasComplaintOf, Cond.instanceMethod yX0_hasComplaintOf, Cond.selects RX0 yX0_hasComplaintOf yX0_hasComplaintOf, Cond.code yX0_hasComplaintOf cX0_hasComplaintOf 2 (some .boolean), Cond.methodLink RX0 53 yX1_hasBit, Cond.methodLink RX4 116 yX0_answerComplaint, Cond.instanceMethod yX0_answerComplaint, Cond.selects RX0 yX0_answerComplaint yX0_answerComplaint, Cond.code yX0_answerComplaint cX0_answerComplaint 4 (some .boolean), Cond.methodLink RL 118 yX5_answer, Cond.instanceMethod yX5_answer, Cond.selects RX5 yX5_answer yX5_answer, Cond.code yX5_answer cX5_answer 5 (some .boolean), Cond.methodLink RL 119 yL_close]
def wsL_law0_r14 : List Cond := [Cond.static yL_close, Cond.codeWith yL_close cL_close 5 (some .int) [(0, 9, 12, 19)], Cond.methodLink RL 43 yX4_close, Cond.instanceMethod yX4_close, Cond.selects RX4 yX4_close yX4_close, Cond.code yX4_close cX4_close 4 (some .int), Cond.methodLink RX4 119 yX4_findQualified, Cond.instanceMethod yX4_findQualified, Cond.selects RX4 yX4_findQualified yX4_findQualified, Cond.code yX4_findQualified cX4_findQualified 3 (some .int), Cond.methodLink RX4 247 yX0_mayQualify, Cond.instanceMethod yX0_mayQualify, Cond.selects RX0 yX0_mayQualify yX0_mayQualify, Cond.code yX0_mayQualify cX0_mayQualify 1 (some .boolean), Cond.methodLink RX4 124 yX4_makeKeys, Cond.instanceMethod yX4_makeKeys, Cond.selects RX4 yX4_makeKeys yX4_makeKeys, Cond.code yX4_makeKeys cX4_makeKeys 2 none, Cond.fieldLink RX4 144 "BeaconRing" "wholePublicKey" "I", Cond.methodLink RX4 251 yX1_hasBit, Cond.methodLink RX4 254 yX1_times, Cond.methodLink RX4 257 yX4_sumOfShares, Cond.instanceMethod yX4_sumOfShares, Cond.selects RX4 yX4_sumOfShares yX4_sumOfShares]
def wsL_law0_r15 : List Cond := [Cond.code yX4_sumOfShares cX4_sumOfShares 5 (some .int), Cond.methodLink RX4 263 yX1_toExponent, Cond.methodLink RX4 260 yX1_power, Cond.methodLink RX4 127 yX2_startFrom, Cond.instanceMethod yX2_startFrom, Cond.selects RX2 yX2_startFrom yX2_startFrom, Cond.code yX2_startFrom cX2_startFrom 3 none, Cond.methodLink RX2 36 yX2_startNext, Cond.instanceMethod yX2_startNext, Cond.selects RX2 yX2_startNext yX2_startNext, Cond.code yX2_startNext cX2_startNext 2 none, Cond.fieldLink RX2 43 "BeaconRing$Rounds" "message" "J", Cond.constantLong RX2 47 (2147483578), Cond.fieldLink RX2 58 "BeaconRing$Rounds" "base" "I", Cond.methodLink RX2 39 yX1_hash, Cond.methodLink RX2 49 yJ9_floorMod_f86c9, Cond.methodLink RX2 54 yX1_times, Cond.methodLink RL 122 yX5_close, Cond.instanceMethod yX5_close, Cond.selects RX5 yX5_close yX5_close, Cond.code yX5_close cX5_close 9 (some .int), Cond.methodLink RX5 110 yX5_isQualified, Cond.instanceMethod yX5_isQualified, Cond.selects RX5 yX5_isQualified yX5_isQualified]
def wsL_law0_r16 : List Cond := [Cond.code yX5_isQualified cX5_isQualified 2 (some .boolean), Cond.methodLink RL 123 yL_key, Cond.static yL_key, Cond.codeWith yL_key cL_key 5 (some .int) [(0, 10, 13, 13), (0, 10, 17, 19)], Cond.methodLink RL 47 yX4_key, Cond.instanceMethod yX4_key, Cond.selects RX4 yX4_key yX4_key, Cond.code yX4_key cX4_key 4 (some .int), Cond.methodLink RX4 137 yX4_needWhat, Cond.instanceMethod yX4_needWhat, Cond.selects RX4 yX4_needWhat yX4_needWhat, Cond.code yX4_needWhat cX4_needWhat 3 none, Cond.methodLink RX4 141 yX4_needClosed, Cond.instanceMethod yX4_needClosed, Cond.selects RX4 yX4_needClosed yX4_needClosed, Cond.code yX4_needClosed cX4_needClosed 1 none, Cond.methodLink RL 125 yX5_key, Cond.instanceMethod yX5_key, Cond.selects RX5 yX5_key yX5_key, Cond.code yX5_key cX5_key 4 (some .int), Cond.methodLink RL 126 yL_round, Cond.static yL_round, Cond.codeWith yL_round cL_round 4 (some .int) [(0, 9, 12, 19), (0, 9, 15, 13)], Cond.methodLink RL 50 yX4_round]
def wsL_law0_r17 : List Cond := [Cond.instanceMethod yX4_round, Cond.selects RX4 yX4_round yX4_round, Cond.code yX4_round cX4_round 2 (some .int), Cond.fieldLink RX4 147 "BeaconRing$Rounds" "ended" "I", Cond.fieldLink RX4 150 "BeaconRing$Rounds" "base" "I", Cond.fieldLink RX4 153 "BeaconRing$Rounds" "kept" "I", Cond.methodLink RL 129 yX5_round, Cond.instanceMethod yX5_round, Cond.selects RX5 yX5_round yX5_round, Cond.code yX5_round cX5_round 4 (some .int), Cond.methodLink RX5 119 yX5_base, Cond.instanceMethod yX5_base, Cond.selects RX5 yX5_base yX5_base, Cond.code yX5_base cX5_base 3 (some .long), Cond.constantLong RX5 117 (2147483578), Cond.methodLink RX5 113 yX5_message, Cond.instanceMethod yX5_message, Cond.selects RX5 yX5_message yX5_message, Cond.code yX5_message cX5_message 1 (some .long), Cond.methodLink RL 130 yL_says, Cond.static yL_says, Cond.codeWith yL_says cL_says 5 (some .int) [(0, 10, 13, 19), (0, 10, 17, 13)], Cond.methodLink RL 54 yX4_says, Cond.instanceMethod yX4_says]
def wsL_law0_r18 : List Cond := [Cond.selects RX4 yX4_says yX4_says, Cond.code yX4_says cX4_says 3 (some .int), Cond.fieldLink RX4 161 "BeaconRing$Statement" "part" "I", Cond.fieldLink RX4 164 "BeaconRing$Statement" "c" "I", Cond.fieldLink RX4 167 "BeaconRing$Statement" "z" "I", Cond.methodLink RX4 158 yX4_stateFor, Cond.instanceMethod yX4_stateFor, Cond.selects RX4 yX4_stateFor yX4_stateFor, Cond.code yX4_stateFor cX4_stateFor 2 none, Cond.fieldLink RX4 267 "BeaconRing$Rounds" "message" "J", Cond.methodLink RX4 271 yX3_state, Cond.instanceMethod yX3_state, Cond.selects RX3 yX3_state yX3_state, Cond.code yX3_state cX3_state 7 none, Cond.fieldLink RX3 23 "BeaconRing$Statement" "part" "I", Cond.fieldLink RX3 33 "BeaconRing$Statement" "c" "I", Cond.fieldLink RX3 36 "BeaconRing$Statement" "z" "I", Cond.methodLink RX3 9 yX1_hash, Cond.methodLink RX3 15 yX1_toExponent, Cond.methodLink RX3 19 yX1_power, Cond.methodLink RX3 29 yX3_challenge, Cond.instanceMethod yX3_challenge, Cond.selects RX3 yX3_challenge yX3_challenge, Cond.code yX3_challenge cX3_challenge 7 (some .int)]
def wsL_law0_r19 : List Cond := [Cond.methodLink RX3 56 yX1_stir, Cond.methodLink RL 132 yX5_says, Cond.instanceMethod yX5_says, Cond.selects RX5 yX5_says yX5_says, Cond.code yX5_says cX5_says 3 (some .int), Cond.methodLink RX5 126 yX5_said, Cond.instanceMethod yX5_said, Cond.selects RX5 yX5_said yX5_said, Cond.code yX5_said cX5_said 13 (some .long), Cond.methodLink RX5 122 yX5_challenge, Cond.instanceMethod yX5_challenge, Cond.selects RX5 yX5_challenge yX5_challenge, Cond.code yX5_challenge cX5_challenge 11 (some .long), Cond.methodLink RL 133 yL_offer, Cond.static yL_offer, Cond.codeWith yL_offer cL_offer 8 (some .int) [(0, 23, 26, 19), (0, 23, 30, 13)], Cond.methodLink RL 57 yX4_offer, Cond.instanceMethod yX4_offer, Cond.selects RX4 yX4_offer yX4_offer, Cond.code yX4_offer cX4_offer 6 (some .boolean), Cond.methodLink RX4 170 yX2_keepsPartOf, Cond.instanceMethod yX2_keepsPartOf, Cond.selects RX2 yX2_keepsPartOf yX2_keepsPartOf, Cond.code yX2_keepsPartOf cX2_keepsPartOf 2 (some .boolean)]
def wsL_law0_r20 : List Cond := [Cond.methodLink RX2 61 yX1_hasBit, Cond.methodLink RX4 173 yX3_add, Cond.instanceMethod yX3_add, Cond.selects RX3 yX3_add yX3_add, Cond.code yX3_add cX3_add 4 (some .boolean), Cond.methodLink RX3 39 yX3_canAdd, Cond.static yX3_canAdd, Cond.code yX3_canAdd cX3_canAdd 4 (some .boolean), Cond.constantLong RX3 59 (2147483647), Cond.methodLink RX4 177 yX3_holds, Cond.instanceMethod yX3_holds, Cond.selects RX3 yX3_holds yX3_holds, Cond.code yX3_holds cX3_holds 5 (some .boolean), Cond.methodLink RX3 43 yX1_isInGroup, Cond.static yX1_isInGroup, Cond.code yX1_isInGroup cX1_isInGroup 1 (some .boolean), Cond.constant RX1 23 (2147483579), Cond.methodLink RX1 20 yX1_power, Cond.methodLink RX3 47 yX1_isExponent, Cond.methodLink RX3 50 yX1_powerBelow, Cond.static yX1_powerBelow, Cond.code yX1_powerBelow cX1_powerBelow 2 (some .int), Cond.methodLink RX3 53 yX1_times, Cond.methodLink RX4 180 yX2_keep]
def wsL_law0_r21 : List Cond := [Cond.instanceMethod yX2_keep, Cond.selects RX2 yX2_keep yX2_keep, Cond.code yX2_keep cX2_keep 3 none, Cond.methodLink RL 136 yX5_offer, Cond.instanceMethod yX5_offer, Cond.selects RX5 yX5_offer yX5_offer, Cond.code yX5_offer cX5_offer 12 (some .boolean), Cond.methodLink RX5 133 yX5_holds, Cond.instanceMethod yX5_holds, Cond.selects RX5 yX5_holds yX5_holds, Cond.code yX5_holds cX5_holds 10 (some .boolean), Cond.methodLink RX5 129 yX5_quotient, Cond.static yX5_quotient, Cond.code yX5_quotient cX5_quotient 8 (some .long), Cond.methodLink RL 137 yL_value, Cond.static yL_value, Cond.codeWith yL_value cL_value 4 (some .int) [(0, 9, 12, 19), (0, 9, 15, 13)], Cond.methodLink RL 61 yX4_value, Cond.instanceMethod yX4_value, Cond.selects RX4 yX4_value yX4_value, Cond.code yX4_value cX4_value 2 (some .int), Cond.methodLink RX4 185 yX2_combine, Cond.instanceMethod yX2_combine, Cond.selects RX2 yX2_combine yX2_combine]
def wsL_law0_r22 : List Cond := [Cond.code yX2_combine cX2_combine 4 (some .int), Cond.methodLink RX2 69 yX2_weight, Cond.instanceMethod yX2_weight, Cond.selects RX2 yX2_weight yX2_weight, Cond.code yX2_weight cX2_weight 6 (some .int), Cond.methodLink RX2 75 yX2_inverse, Cond.instanceMethod yX2_inverse, Cond.selects RX2 yX2_inverse yX2_inverse, Cond.code yX2_inverse cX2_inverse 2 (some .int), Cond.methodLink RX2 72 yX1_power, Cond.methodLink RL 139 yX5_value, Cond.instanceMethod yX5_value, Cond.selects RX5 yX5_value yX5_value, Cond.code yX5_value cX5_value 4 (some .int), Cond.methodLink RX5 139 yX5_combined, Cond.instanceMethod yX5_combined, Cond.selects RX5 yX5_combined yX5_combined, Cond.code yX5_combined cX5_combined 10 (some .long), Cond.constantLong RX5 137 (1073741787), Cond.methodLink RL 140 yL_publish, Cond.static yL_publish, Cond.codeWith yL_publish cL_publish 3 (some .int) [(0, 8, 11, 19), (0, 8, 14, 67)], Cond.classLink RL 67 "java/lang/UnsupportedOperationException", Cond.methodLink RL 64 yX4_publish]
def wsL_law0_r23 : List Cond := [Cond.instanceMethod yX4_publish, Cond.selects RX4 yX4_publish yX4_publish, Cond.code yX4_publish cX4_publish 2 (some .int), Cond.classLink RX4 190 "java/lang/UnsupportedOperationException", Cond.initialized "java/lang/UnsupportedOperationException", Cond.methodLink RX4 195 yX2_leastKept, Cond.instanceMethod yX2_leastKept, Cond.selects RX2 yX2_leastKept yX2_leastKept, Cond.code yX2_leastKept cX2_leastKept 5 (some .int), Cond.methodLink RX2 65 yX2_keepsPartOf, Cond.methodLink RX4 198 yX2_endWith, Cond.instanceMethod yX2_endWith, Cond.selects RX2 yX2_endWith yX2_endWith, Cond.code yX2_endWith cX2_endWith 2 none, Cond.methodLink RL 142 yX5_publish, Cond.instanceMethod yX5_publish, Cond.selects RX5 yX5_publish yX5_publish, Cond.code yX5_publish cX5_publish 5 (some .int), Cond.methodLink RL 143 yL_ended, Cond.static yL_ended, Cond.codeWith yL_ended cL_ended 4 (some .int) [(0, 8, 11, 13), (0, 8, 14, 19)], Cond.methodLink RL 69 yX4_ended, Cond.instanceMethod yX4_ended, Cond.selects RX4 yX4_ended yX4_ended]
def wsL_law0_r24 : List Cond := [Cond.code yX4_ended cX4_ended 2 (some .long), Cond.fieldLink RX4 204 "BeaconRing$Rounds" "values" "[J", Cond.methodLink RX4 201 yX4_needEnded, Cond.instanceMethod yX4_needEnded, Cond.selects RX4 yX4_needEnded yX4_needEnded, Cond.code yX4_needEnded cX4_needEnded 2 none, Cond.methodLink RL 145 yX5_ended, Cond.instanceMethod yX5_ended, Cond.selects RX5 yX5_ended yX5_ended, Cond.code yX5_ended cX5_ended 3 (some .long), Cond.methodLink RL 146 yL_random, Cond.static yL_random, Cond.codeWith yL_random cL_random 4 (some .int) [(0, 8, 11, 13), (0, 8, 14, 19)], Cond.methodLink RL 73 yX4_random, Cond.instanceMethod yX4_random, Cond.selects RX4 yX4_random yX4_random, Cond.code yX4_random cX4_random 2 (some .long), Cond.methodLink RX4 208 yX1_hash, Cond.methodLink RL 148 yX5_random, Cond.instanceMethod yX5_random, Cond.selects RX5 yX5_random yX5_random, Cond.code yX5_random cX5_random 3 (some .long), Cond.methodLink RL 149 yL_about, Cond.static yL_about]
def wsL_law0_r25 : List Cond := [Cond.codeWith yL_about cL_about 4 (some .int) [(0, 9, 12, 13)], Cond.methodLink RL 76 yX4_about, Cond.instanceMethod yX4_about, Cond.selects RX4 yX4_about yX4_about, Cond.code yX4_about cX4_about 2 (some .int), Cond.methodLink RX4 214 yX4_countDealt, Cond.instanceMethod yX4_countDealt, Cond.selects RX4 yX4_countDealt yX4_countDealt, Cond.code yX4_countDealt cX4_countDealt 3 (some .int), Cond.methodLink RX4 217 yX4_countOut, Cond.instanceMethod yX4_countOut, Cond.selects RX4 yX4_countOut yX4_countOut, Cond.code yX4_countOut cX4_countOut 3 (some .int), Cond.fieldLink RX4 244 "BeaconRing$Dealer" "isOut" "Z", Cond.methodLink RL 151 yX5_about, Cond.instanceMethod yX5_about, Cond.selects RX5 yX5_about yX5_about, Cond.code yX5_about cX5_about 4 (some .int)]
def wsL_law0 : List Cond := (wsL_law0_r1 ++ (wsL_law0_r2 ++ (wsL_law0_r3 ++ (wsL_law0_r4 ++ (wsL_law0_r5 ++ (wsL_law0_r6 ++ (wsL_law0_r7 ++ (wsL_law0_r8 ++ (wsL_law0_r9 ++ (wsL_law0_r10 ++ (wsL_law0_r11 ++ (wsL_law0_r12 ++ (wsL_law0_r13 ++ (wsL_law0_r14 ++ (wsL_law0_r15 ++ (wsL_law0_r16 ++ (wsL_law0_r17 ++ (wsL_law0_r18 ++ (wsL_law0_r19 ++ (wsL_law0_r20 ++ (wsL_law0_r21 ++ (wsL_law0_r22 ++ (wsL_law0_r23 ++ (wsL_law0_r24 ++ wsL_law0_r25)))))))))))))))))))))))) ++ wsX40 ++ wsX50 ++ wsX00 ++ wsX20 ++ wsX30 ++ ([] : List Cond)
def wsL_law : List Cond := wsL_law0 ++ (vx_atS RX4 41 "java/lang/IllegalArgumentException" ["java/lang/RuntimeException", "java/lang/Exception"]).filter goodWord ++ (vx_atS RX4 76 "java/lang/IllegalStateException" ["java/lang/RuntimeException", "java/lang/Exception"]).filter goodWord ++ (vx_atS RX4 194 "java/lang/UnsupportedOperationException" ["java/lang/RuntimeException", "java/lang/Exception"]).filter goodWord
theorem inlX0 : ∀ w ∈ wsX00, w ∈ wsL_law := fun _ h => List.mem_append_left _ (List.mem_append_left _ (List.mem_append_left _ (List.mem_append_left _ (List.mem_append_left _ (List.mem_append_left _ (List.mem_append_right _ h))))))
theorem inlX2 : ∀ w ∈ wsX20, w ∈ wsL_law := fun _ h => List.mem_append_left _ (List.mem_append_left _ (List.mem_append_left _ (List.mem_append_left _ (List.mem_append_left _ (List.mem_append_right _ h)))))
theorem inlX3 : ∀ w ∈ wsX30, w ∈ wsL_law := fun _ h => List.mem_append_left _ (List.mem_append_left _ (List.mem_append_left _ (List.mem_append_left _ (List.mem_append_right _ h))))
theorem inlX4 : ∀ w ∈ wsX40, w ∈ wsL_law := fun _ h => List.mem_append_left _ (List.mem_append_left _ (List.mem_append_left _ (List.mem_append_left _ (List.mem_append_left _ (List.mem_append_left _ (List.mem_append_left _ (List.mem_append_left _ (List.mem_append_right _ h))))))))
theorem inlX5 : ∀ w ∈ wsX50, w ∈ wsL_law := fun _ h => List.mem_append_left _ (List.mem_append_left _ (List.mem_append_left _ (List.mem_append_left _ (List.mem_append_left _ (List.mem_append_left _ (List.mem_append_left _ (List.mem_append_right _ h)))))))
abbrev vwCl : List vw_C := [(RX0, TX0, 6), (RX2, TX2, 7), (RX3, TX3, 3), (RX4, TX4, 10), (RX5, TX5, 18)]
end
section
theorem dX1_hasBit_0 : decode cX1_hasBit 0 = .ok (.iload_n 0, 1) := by decide +kernel
theorem dX1_hasBit_1 : decode cX1_hasBit 1 = .ok (.iload_n 1, 1) := by decide +kernel
theorem dX1_hasBit_2 : decode cX1_hasBit 2 = .ok (.ishr, 1) := by decide +kernel
theorem dX1_hasBit_3 : decode cX1_hasBit 3 = .ok (.iconst 1, 1) := by decide +kernel
theorem dX1_hasBit_4 : decode cX1_hasBit 4 = .ok (.iand, 1) := by decide +kernel
theorem dX1_hasBit_5 : decode cX1_hasBit 5 = .ok (.ifCond .eq 7, 3) := by decide +kernel
theorem dX1_hasBit_8 : decode cX1_hasBit 8 = .ok (.iconst 1, 1) := by decide +kernel
theorem dX1_hasBit_9 : decode cX1_hasBit 9 = .ok (.goto 4, 3) := by decide +kernel
theorem dX1_hasBit_12 : decode cX1_hasBit 12 = .ok (.iconst 0, 1) := by decide +kernel
theorem dX1_hasBit_13 : decode cX1_hasBit 13 = .ok (.ireturn, 1) := by decide +kernel
theorem dX1_times_0 : decode cX1_times 0 = .ok (.iload_n 0, 1) := by decide +kernel
theorem dX1_times_1 : decode cX1_times 1 = .ok (.i2l, 1) := by decide +kernel
theorem dX1_times_2 : decode cX1_times 2 = .ok (.iload_n 1, 1) := by decide +kernel
theorem dX1_times_3 : decode cX1_times 3 = .ok (.i2l, 1) := by decide +kernel
theorem dX1_times_4 : decode cX1_times 4 = .ok (.lmul, 1) := by decide +kernel
theorem dX1_times_5 : decode cX1_times 5 = .ok (.ldc2_w 9, 3) := by decide +kernel
theorem dX1_times_8 : decode cX1_times 8 = .ok (.lrem, 1) := by decide +kernel
theorem dX1_times_9 : decode cX1_times 9 = .ok (.l2i, 1) := by decide +kernel
theorem dX1_times_10 : decode cX1_times 10 = .ok (.ireturn, 1) := by decide +kernel
theorem dX1_power_0 : decode cX1_power 0 = .ok (.iconst 1, 1) := by decide +kernel
theorem dX1_power_1 : decode cX1_power 1 = .ok (.istore_n 2, 1) := by decide +kernel
theorem dX1_power_2 : decode cX1_power 2 = .ok (.bipush 30, 2) := by decide +kernel
theorem dX1_power_4 : decode cX1_power 4 = .ok (.istore_n 3, 1) := by decide +kernel
theorem dX1_power_5 : decode cX1_power 5 = .ok (.iload_n 3, 1) := by decide +kernel
theorem dX1_power_6 : decode cX1_power 6 = .ok (.ifCond .lt 29, 3) := by decide +kernel
theorem dX1_power_9 : decode cX1_power 9 = .ok (.iload_n 2, 1) := by decide +kernel
theorem dX1_power_10 : decode cX1_power 10 = .ok (.iload_n 2, 1) := by decide +kernel
theorem dX1_power_11 : decode cX1_power 11 = .ok (.invokestatic 11, 3) := by decide +kernel
theorem dX1_power_14 : decode cX1_power 14 = .ok (.istore_n 2, 1) := by decide +kernel
theorem dX1_power_15 : decode cX1_power 15 = .ok (.iload_n 1, 1) := by decide +kernel
theorem dX1_power_16 : decode cX1_power 16 = .ok (.iload_n 3, 1) := by decide +kernel
theorem dX1_power_17 : decode cX1_power 17 = .ok (.invokestatic 15, 3) := by decide +kernel
theorem dX1_power_20 : decode cX1_power 20 = .ok (.ifCond .eq 9, 3) := by decide +kernel
theorem dX1_power_23 : decode cX1_power 23 = .ok (.iload_n 2, 1) := by decide +kernel
theorem dX1_power_24 : decode cX1_power 24 = .ok (.iload_n 0, 1) := by decide +kernel
theorem dX1_power_25 : decode cX1_power 25 = .ok (.invokestatic 11, 3) := by decide +kernel
theorem dX1_power_28 : decode cX1_power 28 = .ok (.istore_n 2, 1) := by decide +kernel
theorem dX1_power_29 : decode cX1_power 29 = .ok (.iinc 3 (-1), 3) := by decide +kernel
theorem dX1_power_32 : decode cX1_power 32 = .ok (.goto (-27), 3) := by decide +kernel
theorem dX1_power_35 : decode cX1_power 35 = .ok (.iload_n 2, 1) := by decide +kernel
theorem dX1_power_36 : decode cX1_power 36 = .ok (.ireturn, 1) := by decide +kernel
theorem dX1_powerBelow_0 : decode cX1_powerBelow 0 = .ok (.iload_n 0, 1) := by decide +kernel
theorem dX1_powerBelow_1 : decode cX1_powerBelow 1 = .ok (.ldc 19, 2) := by decide +kernel
theorem dX1_powerBelow_3 : decode cX1_powerBelow 3 = .ok (.iload_n 1, 1) := by decide +kernel
theorem dX1_powerBelow_4 : decode cX1_powerBelow 4 = .ok (.isub, 1) := by decide +kernel
theorem dX1_powerBelow_5 : decode cX1_powerBelow 5 = .ok (.invokestatic 20, 3) := by decide +kernel
theorem dX1_powerBelow_8 : decode cX1_powerBelow 8 = .ok (.ireturn, 1) := by decide +kernel
theorem dX1_isInGroup_0 : decode cX1_isInGroup 0 = .ok (.iload_n 0, 1) := by decide +kernel
theorem dX1_isInGroup_1 : decode cX1_isInGroup 1 = .ok (.iconst 1, 1) := by decide +kernel
theorem dX1_isInGroup_2 : decode cX1_isInGroup 2 = .ok (.if_icmp .lt 23, 3) := by decide +kernel
theorem dX1_isInGroup_5 : decode cX1_isInGroup 5 = .ok (.iload_n 0, 1) := by decide +kernel
theorem dX1_isInGroup_6 : decode cX1_isInGroup 6 = .ok (.ldc 23, 2) := by decide +kernel
theorem dX1_isInGroup_8 : decode cX1_isInGroup 8 = .ok (.if_icmp .ge 17, 3) := by decide +kernel
theorem dX1_isInGroup_11 : decode cX1_isInGroup 11 = .ok (.iload_n 0, 1) := by decide +kernel
theorem dX1_isInGroup_12 : decode cX1_isInGroup 12 = .ok (.ldc 19, 2) := by decide +kernel
theorem dX1_isInGroup_14 : decode cX1_isInGroup 14 = .ok (.invokestatic 20, 3) := by decide +kernel
theorem dX1_isInGroup_17 : decode cX1_isInGroup 17 = .ok (.iconst 1, 1) := by decide +kernel
theorem dX1_isInGroup_18 : decode cX1_isInGroup 18 = .ok (.if_icmp .ne 7, 3) := by decide +kernel
theorem dX1_isInGroup_21 : decode cX1_isInGroup 21 = .ok (.iconst 1, 1) := by decide +kernel
theorem dX1_isInGroup_22 : decode cX1_isInGroup 22 = .ok (.goto 4, 3) := by decide +kernel
theorem dX1_isInGroup_25 : decode cX1_isInGroup 25 = .ok (.iconst 0, 1) := by decide +kernel
theorem dX1_isInGroup_26 : decode cX1_isInGroup 26 = .ok (.ireturn, 1) := by decide +kernel
theorem dX1_isExponent_0 : decode cX1_isExponent 0 = .ok (.iload_n 0, 1) := by decide +kernel
theorem dX1_isExponent_1 : decode cX1_isExponent 1 = .ok (.ifCond .lt 13, 3) := by decide +kernel
theorem dX1_isExponent_4 : decode cX1_isExponent 4 = .ok (.iload_n 0, 1) := by decide +kernel
theorem dX1_isExponent_5 : decode cX1_isExponent 5 = .ok (.ldc 19, 2) := by decide +kernel
theorem dX1_isExponent_7 : decode cX1_isExponent 7 = .ok (.if_icmp .ge 7, 3) := by decide +kernel
theorem dX1_isExponent_10 : decode cX1_isExponent 10 = .ok (.iconst 1, 1) := by decide +kernel
theorem dX1_isExponent_11 : decode cX1_isExponent 11 = .ok (.goto 4, 3) := by decide +kernel
theorem dX1_isExponent_14 : decode cX1_isExponent 14 = .ok (.iconst 0, 1) := by decide +kernel
theorem dX1_isExponent_15 : decode cX1_isExponent 15 = .ok (.ireturn, 1) := by decide +kernel
theorem dX1_toExponent_0 : decode cX1_toExponent 0 = .ok (.lload_n 0, 1) := by decide +kernel
theorem dX1_toExponent_1 : decode cX1_toExponent 1 = .ok (.ldc2_w 24, 3) := by decide +kernel
theorem dX1_toExponent_4 : decode cX1_toExponent 4 = .ok (.invokestatic 26, 3) := by decide +kernel
theorem dX1_toExponent_7 : decode cX1_toExponent 7 = .ok (.l2i, 1) := by decide +kernel
theorem dX1_toExponent_8 : decode cX1_toExponent 8 = .ok (.ireturn, 1) := by decide +kernel
theorem dX1_hash_0 : decode cX1_hash 0 = .ok (.lconst 0, 1) := by decide +kernel
theorem dX1_hash_1 : decode cX1_hash 1 = .ok (.lload_n 0, 1) := by decide +kernel
theorem dX1_hash_2 : decode cX1_hash 2 = .ok (.invokestatic 32, 3) := by decide +kernel
theorem dX1_hash_5 : decode cX1_hash 5 = .ok (.lload_n 2, 1) := by decide +kernel
theorem dX1_hash_6 : decode cX1_hash 6 = .ok (.invokestatic 32, 3) := by decide +kernel
theorem dX1_hash_9 : decode cX1_hash 9 = .ok (.lreturn, 1) := by decide +kernel
theorem dX1_stir_0 : decode cX1_stir 0 = .ok (.lload_n 0, 1) := by decide +kernel
theorem dX1_stir_1 : decode cX1_stir 1 = .ok (.lload_n 2, 1) := by decide +kernel
theorem dX1_stir_2 : decode cX1_stir 2 = .ok (.ladd, 1) := by decide +kernel
theorem dX1_stir_3 : decode cX1_stir 3 = .ok (.ldc2_w 35, 3) := by decide +kernel
theorem dX1_stir_6 : decode cX1_stir 6 = .ok (.lmul, 1) := by decide +kernel
theorem dX1_stir_7 : decode cX1_stir 7 = .ok (.ldc2_w 37, 3) := by decide +kernel
theorem dX1_stir_10 : decode cX1_stir 10 = .ok (.ladd, 1) := by decide +kernel
theorem dX1_stir_11 : decode cX1_stir 11 = .ok (.lstore 4, 2) := by decide +kernel
theorem dX1_stir_13 : decode cX1_stir 13 = .ok (.lload 4, 2) := by decide +kernel
theorem dX1_stir_15 : decode cX1_stir 15 = .ok (.lload 4, 2) := by decide +kernel
theorem dX1_stir_17 : decode cX1_stir 17 = .ok (.bipush 29, 2) := by decide +kernel
theorem dX1_stir_19 : decode cX1_stir 19 = .ok (.lushr, 1) := by decide +kernel
theorem dX1_stir_20 : decode cX1_stir 20 = .ok (.lxor, 1) := by decide +kernel
theorem dX1_stir_21 : decode cX1_stir 21 = .ok (.ldc2_w 39, 3) := by decide +kernel
theorem dX1_stir_24 : decode cX1_stir 24 = .ok (.lmul, 1) := by decide +kernel
theorem dX1_stir_25 : decode cX1_stir 25 = .ok (.lstore 4, 2) := by decide +kernel
theorem dX1_stir_27 : decode cX1_stir 27 = .ok (.lload 4, 2) := by decide +kernel
theorem dX1_stir_29 : decode cX1_stir 29 = .ok (.lload 4, 2) := by decide +kernel
theorem dX1_stir_31 : decode cX1_stir 31 = .ok (.bipush 32, 2) := by decide +kernel
theorem dX1_stir_33 : decode cX1_stir 33 = .ok (.lushr, 1) := by decide +kernel
theorem dX1_stir_34 : decode cX1_stir 34 = .ok (.lxor, 1) := by decide +kernel
theorem dX1_stir_35 : decode cX1_stir 35 = .ok (.lreturn, 1) := by decide +kernel
end
section
theorem dJ6_bitCount_0f7a4_0 : decode cJ6_bitCount_0f7a4 0 = .ok (.iload_n 0, 1) := by decide +kernel
theorem dJ6_bitCount_0f7a4_1 : decode cJ6_bitCount_0f7a4 1 = .ok (.iload_n 0, 1) := by decide +kernel
theorem dJ6_bitCount_0f7a4_2 : decode cJ6_bitCount_0f7a4 2 = .ok (.iconst 1, 1) := by decide +kernel
theorem dJ6_bitCount_0f7a4_3 : decode cJ6_bitCount_0f7a4 3 = .ok (.iushr, 1) := by decide +kernel
theorem dJ6_bitCount_0f7a4_4 : decode cJ6_bitCount_0f7a4 4 = .ok (.ldc_w 265, 3) := by decide +kernel
theorem dJ6_bitCount_0f7a4_7 : decode cJ6_bitCount_0f7a4 7 = .ok (.iand, 1) := by decide +kernel
theorem dJ6_bitCount_0f7a4_8 : decode cJ6_bitCount_0f7a4 8 = .ok (.isub, 1) := by decide +kernel
theorem dJ6_bitCount_0f7a4_9 : decode cJ6_bitCount_0f7a4 9 = .ok (.istore_n 0, 1) := by decide +kernel
theorem dJ6_bitCount_0f7a4_10 : decode cJ6_bitCount_0f7a4 10 = .ok (.iload_n 0, 1) := by decide +kernel
theorem dJ6_bitCount_0f7a4_11 : decode cJ6_bitCount_0f7a4 11 = .ok (.ldc_w 266, 3) := by decide +kernel
theorem dJ6_bitCount_0f7a4_14 : decode cJ6_bitCount_0f7a4 14 = .ok (.iand, 1) := by decide +kernel
theorem dJ6_bitCount_0f7a4_15 : decode cJ6_bitCount_0f7a4 15 = .ok (.iload_n 0, 1) := by decide +kernel
theorem dJ6_bitCount_0f7a4_16 : decode cJ6_bitCount_0f7a4 16 = .ok (.iconst 2, 1) := by decide +kernel
theorem dJ6_bitCount_0f7a4_17 : decode cJ6_bitCount_0f7a4 17 = .ok (.iushr, 1) := by decide +kernel
theorem dJ6_bitCount_0f7a4_18 : decode cJ6_bitCount_0f7a4 18 = .ok (.ldc_w 266, 3) := by decide +kernel
theorem dJ6_bitCount_0f7a4_21 : decode cJ6_bitCount_0f7a4 21 = .ok (.iand, 1) := by decide +kernel
theorem dJ6_bitCount_0f7a4_22 : decode cJ6_bitCount_0f7a4 22 = .ok (.iadd, 1) := by decide +kernel
theorem dJ6_bitCount_0f7a4_23 : decode cJ6_bitCount_0f7a4 23 = .ok (.istore_n 0, 1) := by decide +kernel
theorem dJ6_bitCount_0f7a4_24 : decode cJ6_bitCount_0f7a4 24 = .ok (.iload_n 0, 1) := by decide +kernel
theorem dJ6_bitCount_0f7a4_25 : decode cJ6_bitCount_0f7a4 25 = .ok (.iload_n 0, 1) := by decide +kernel
theorem dJ6_bitCount_0f7a4_26 : decode cJ6_bitCount_0f7a4 26 = .ok (.iconst 4, 1) := by decide +kernel
theorem dJ6_bitCount_0f7a4_27 : decode cJ6_bitCount_0f7a4 27 = .ok (.iushr, 1) := by decide +kernel
theorem dJ6_bitCount_0f7a4_28 : decode cJ6_bitCount_0f7a4 28 = .ok (.iadd, 1) := by decide +kernel
theorem dJ6_bitCount_0f7a4_29 : decode cJ6_bitCount_0f7a4 29 = .ok (.ldc_w 267, 3) := by decide +kernel
theorem dJ6_bitCount_0f7a4_32 : decode cJ6_bitCount_0f7a4 32 = .ok (.iand, 1) := by decide +kernel
theorem dJ6_bitCount_0f7a4_33 : decode cJ6_bitCount_0f7a4 33 = .ok (.istore_n 0, 1) := by decide +kernel
theorem dJ6_bitCount_0f7a4_34 : decode cJ6_bitCount_0f7a4 34 = .ok (.iload_n 0, 1) := by decide +kernel
theorem dJ6_bitCount_0f7a4_35 : decode cJ6_bitCount_0f7a4 35 = .ok (.iload_n 0, 1) := by decide +kernel
theorem dJ6_bitCount_0f7a4_36 : decode cJ6_bitCount_0f7a4 36 = .ok (.bipush 8, 2) := by decide +kernel
theorem dJ6_bitCount_0f7a4_38 : decode cJ6_bitCount_0f7a4 38 = .ok (.iushr, 1) := by decide +kernel
theorem dJ6_bitCount_0f7a4_39 : decode cJ6_bitCount_0f7a4 39 = .ok (.iadd, 1) := by decide +kernel
theorem dJ6_bitCount_0f7a4_40 : decode cJ6_bitCount_0f7a4 40 = .ok (.istore_n 0, 1) := by decide +kernel
theorem dJ6_bitCount_0f7a4_41 : decode cJ6_bitCount_0f7a4 41 = .ok (.iload_n 0, 1) := by decide +kernel
theorem dJ6_bitCount_0f7a4_42 : decode cJ6_bitCount_0f7a4 42 = .ok (.iload_n 0, 1) := by decide +kernel
theorem dJ6_bitCount_0f7a4_43 : decode cJ6_bitCount_0f7a4 43 = .ok (.bipush 16, 2) := by decide +kernel
theorem dJ6_bitCount_0f7a4_45 : decode cJ6_bitCount_0f7a4 45 = .ok (.iushr, 1) := by decide +kernel
theorem dJ6_bitCount_0f7a4_46 : decode cJ6_bitCount_0f7a4 46 = .ok (.iadd, 1) := by decide +kernel
theorem dJ6_bitCount_0f7a4_47 : decode cJ6_bitCount_0f7a4 47 = .ok (.istore_n 0, 1) := by decide +kernel
theorem dJ6_bitCount_0f7a4_48 : decode cJ6_bitCount_0f7a4 48 = .ok (.iload_n 0, 1) := by decide +kernel
theorem dJ6_bitCount_0f7a4_49 : decode cJ6_bitCount_0f7a4 49 = .ok (.bipush 63, 2) := by decide +kernel
theorem dJ6_bitCount_0f7a4_51 : decode cJ6_bitCount_0f7a4 51 = .ok (.iand, 1) := by decide +kernel
theorem dJ6_bitCount_0f7a4_52 : decode cJ6_bitCount_0f7a4 52 = .ok (.ireturn, 1) := by decide +kernel
end
section
theorem dJ9_floorMod_f86c9_0 : decode cJ9_floorMod_f86c9 0 = .ok (.lload_n 0, 1) := by decide +kernel
theorem dJ9_floorMod_f86c9_1 : decode cJ9_floorMod_f86c9 1 = .ok (.lload_n 2, 1) := by decide +kernel
theorem dJ9_floorMod_f86c9_2 : decode cJ9_floorMod_f86c9 2 = .ok (.lrem, 1) := by decide +kernel
theorem dJ9_floorMod_f86c9_3 : decode cJ9_floorMod_f86c9 3 = .ok (.lstore 4, 2) := by decide +kernel
theorem dJ9_floorMod_f86c9_5 : decode cJ9_floorMod_f86c9 5 = .ok (.lload_n 0, 1) := by decide +kernel
theorem dJ9_floorMod_f86c9_6 : decode cJ9_floorMod_f86c9 6 = .ok (.lload_n 2, 1) := by decide +kernel
theorem dJ9_floorMod_f86c9_7 : decode cJ9_floorMod_f86c9 7 = .ok (.lxor, 1) := by decide +kernel
theorem dJ9_floorMod_f86c9_8 : decode cJ9_floorMod_f86c9 8 = .ok (.lconst 0, 1) := by decide +kernel
theorem dJ9_floorMod_f86c9_9 : decode cJ9_floorMod_f86c9 9 = .ok (.lcmp, 1) := by decide +kernel
theorem dJ9_floorMod_f86c9_10 : decode cJ9_floorMod_f86c9 10 = .ok (.ifCond .ge 15, 3) := by decide +kernel
theorem dJ9_floorMod_f86c9_13 : decode cJ9_floorMod_f86c9 13 = .ok (.lload 4, 2) := by decide +kernel
theorem dJ9_floorMod_f86c9_15 : decode cJ9_floorMod_f86c9 15 = .ok (.lconst 0, 1) := by decide +kernel
theorem dJ9_floorMod_f86c9_16 : decode cJ9_floorMod_f86c9 16 = .ok (.lcmp, 1) := by decide +kernel
theorem dJ9_floorMod_f86c9_17 : decode cJ9_floorMod_f86c9 17 = .ok (.ifCond .eq 8, 3) := by decide +kernel
theorem dJ9_floorMod_f86c9_20 : decode cJ9_floorMod_f86c9 20 = .ok (.lload 4, 2) := by decide +kernel
theorem dJ9_floorMod_f86c9_22 : decode cJ9_floorMod_f86c9 22 = .ok (.lload_n 2, 1) := by decide +kernel
theorem dJ9_floorMod_f86c9_23 : decode cJ9_floorMod_f86c9 23 = .ok (.ladd, 1) := by decide +kernel
theorem dJ9_floorMod_f86c9_24 : decode cJ9_floorMod_f86c9 24 = .ok (.lreturn, 1) := by decide +kernel
theorem dJ9_floorMod_f86c9_25 : decode cJ9_floorMod_f86c9 25 = .ok (.lload 4, 2) := by decide +kernel
theorem dJ9_floorMod_f86c9_27 : decode cJ9_floorMod_f86c9 27 = .ok (.lreturn, 1) := by decide +kernel
end
section
theorem dX0_init_0 : decode cX0_init 0 = .ok (.aload_n 0, 1) := by decide +kernel
theorem dX0_init_1 : decode cX0_init 1 = .ok (.invokespecial 3, 3) := by decide +kernel
theorem dX0_init_4 : decode cX0_init 4 = .ok (.aload_n 0, 1) := by decide +kernel
theorem dX0_init_5 : decode cX0_init 5 = .ok (.bipush 16, 2) := by decide +kernel
theorem dX0_init_7 : decode cX0_init 7 = .ok (.newarray .int, 2) := by decide +kernel
theorem dX0_init_9 : decode cX0_init 9 = .ok (.putfield 9, 3) := by decide +kernel
theorem dX0_init_12 : decode cX0_init 12 = .ok (.aload_n 0, 1) := by decide +kernel
theorem dX0_init_13 : decode cX0_init 13 = .ok (.bipush 17, 2) := by decide +kernel
theorem dX0_init_15 : decode cX0_init 15 = .ok (.newarray .int, 2) := by decide +kernel
theorem dX0_init_17 : decode cX0_init 17 = .ok (.putfield 15, 3) := by decide +kernel
theorem dX0_init_20 : decode cX0_init 20 = .ok (.aload_n 0, 1) := by decide +kernel
theorem dX0_init_21 : decode cX0_init 21 = .ok (.bipush 17, 2) := by decide +kernel
theorem dX0_init_23 : decode cX0_init 23 = .ok (.newarray .int, 2) := by decide +kernel
theorem dX0_init_25 : decode cX0_init 25 = .ok (.putfield 18, 3) := by decide +kernel
theorem dX0_init_28 : decode cX0_init 28 = .ok (.return_, 1) := by decide +kernel
theorem dX0_forget_0 : decode cX0_forget 0 = .ok (.aload_n 0, 1) := by decide +kernel
theorem dX0_forget_1 : decode cX0_forget 1 = .ok (.iconst 0, 1) := by decide +kernel
theorem dX0_forget_2 : decode cX0_forget 2 = .ok (.putfield 21, 3) := by decide +kernel
theorem dX0_forget_5 : decode cX0_forget 5 = .ok (.aload_n 0, 1) := by decide +kernel
theorem dX0_forget_6 : decode cX0_forget 6 = .ok (.iconst 0, 1) := by decide +kernel
theorem dX0_forget_7 : decode cX0_forget 7 = .ok (.putfield 25, 3) := by decide +kernel
theorem dX0_forget_10 : decode cX0_forget 10 = .ok (.aload_n 0, 1) := by decide +kernel
theorem dX0_forget_11 : decode cX0_forget 11 = .ok (.iconst 0, 1) := by decide +kernel
theorem dX0_forget_12 : decode cX0_forget 12 = .ok (.putfield 29, 3) := by decide +kernel
theorem dX0_forget_15 : decode cX0_forget 15 = .ok (.return_, 1) := by decide +kernel
theorem dX0_dealBySeed_0 : decode cX0_dealBySeed 0 = .ok (.iconst 1, 1) := by decide +kernel
theorem dX0_dealBySeed_1 : decode cX0_dealBySeed 1 = .ok (.istore 6, 2) := by decide +kernel
theorem dX0_dealBySeed_3 : decode cX0_dealBySeed 3 = .ok (.iload 6, 2) := by decide +kernel
theorem dX0_dealBySeed_5 : decode cX0_dealBySeed 5 = .ok (.iload 4, 2) := by decide +kernel
theorem dX0_dealBySeed_7 : decode cX0_dealBySeed 7 = .ok (.if_icmp .gt 17, 3) := by decide +kernel
theorem dX0_dealBySeed_10 : decode cX0_dealBySeed 10 = .ok (.aload_n 0, 1) := by decide +kernel
theorem dX0_dealBySeed_11 : decode cX0_dealBySeed 11 = .ok (.getfield 15, 3) := by decide +kernel
theorem dX0_dealBySeed_14 : decode cX0_dealBySeed 14 = .ok (.iload 6, 2) := by decide +kernel
theorem dX0_dealBySeed_16 : decode cX0_dealBySeed 16 = .ok (.iconst 0, 1) := by decide +kernel
theorem dX0_dealBySeed_17 : decode cX0_dealBySeed 17 = .ok (.iastore, 1) := by decide +kernel
theorem dX0_dealBySeed_18 : decode cX0_dealBySeed 18 = .ok (.iinc 6 1, 3) := by decide +kernel
theorem dX0_dealBySeed_21 : decode cX0_dealBySeed 21 = .ok (.goto (-18), 3) := by decide +kernel
theorem dX0_dealBySeed_24 : decode cX0_dealBySeed 24 = .ok (.iload 5, 2) := by decide +kernel
theorem dX0_dealBySeed_26 : decode cX0_dealBySeed 26 = .ok (.iconst 1, 1) := by decide +kernel
theorem dX0_dealBySeed_27 : decode cX0_dealBySeed 27 = .ok (.isub, 1) := by decide +kernel
theorem dX0_dealBySeed_28 : decode cX0_dealBySeed 28 = .ok (.istore 6, 2) := by decide +kernel
theorem dX0_dealBySeed_30 : decode cX0_dealBySeed 30 = .ok (.iload 6, 2) := by decide +kernel
theorem dX0_dealBySeed_32 : decode cX0_dealBySeed 32 = .ok (.ifCond .lt 81, 3) := by decide +kernel
theorem dX0_dealBySeed_35 : decode cX0_dealBySeed 35 = .ok (.lload_n 2, 1) := by decide +kernel
theorem dX0_dealBySeed_36 : decode cX0_dealBySeed 36 = .ok (.iload_n 1, 1) := by decide +kernel
theorem dX0_dealBySeed_37 : decode cX0_dealBySeed 37 = .ok (.i2l, 1) := by decide +kernel
theorem dX0_dealBySeed_38 : decode cX0_dealBySeed 38 = .ok (.invokestatic 32, 3) := by decide +kernel
theorem dX0_dealBySeed_41 : decode cX0_dealBySeed 41 = .ok (.iload 6, 2) := by decide +kernel
theorem dX0_dealBySeed_43 : decode cX0_dealBySeed 43 = .ok (.i2l, 1) := by decide +kernel
theorem dX0_dealBySeed_44 : decode cX0_dealBySeed 44 = .ok (.invokestatic 38, 3) := by decide +kernel
theorem dX0_dealBySeed_47 : decode cX0_dealBySeed 47 = .ok (.invokestatic 41, 3) := by decide +kernel
theorem dX0_dealBySeed_50 : decode cX0_dealBySeed 50 = .ok (.istore 7, 2) := by decide +kernel
theorem dX0_dealBySeed_52 : decode cX0_dealBySeed 52 = .ok (.aload_n 0, 1) := by decide +kernel
theorem dX0_dealBySeed_53 : decode cX0_dealBySeed 53 = .ok (.getfield 9, 3) := by decide +kernel
theorem dX0_dealBySeed_56 : decode cX0_dealBySeed 56 = .ok (.iload 6, 2) := by decide +kernel
theorem dX0_dealBySeed_58 : decode cX0_dealBySeed 58 = .ok (.iconst 4, 1) := by decide +kernel
theorem dX0_dealBySeed_59 : decode cX0_dealBySeed 59 = .ok (.iload 7, 2) := by decide +kernel
theorem dX0_dealBySeed_61 : decode cX0_dealBySeed 61 = .ok (.invokestatic 45, 3) := by decide +kernel
theorem dX0_dealBySeed_64 : decode cX0_dealBySeed 64 = .ok (.iastore, 1) := by decide +kernel
theorem dX0_dealBySeed_65 : decode cX0_dealBySeed 65 = .ok (.iconst 1, 1) := by decide +kernel
theorem dX0_dealBySeed_66 : decode cX0_dealBySeed 66 = .ok (.istore 8, 2) := by decide +kernel
theorem dX0_dealBySeed_68 : decode cX0_dealBySeed 68 = .ok (.iload 8, 2) := by decide +kernel
theorem dX0_dealBySeed_70 : decode cX0_dealBySeed 70 = .ok (.iload 4, 2) := by decide +kernel
theorem dX0_dealBySeed_72 : decode cX0_dealBySeed 72 = .ok (.if_icmp .gt 35, 3) := by decide +kernel
theorem dX0_dealBySeed_75 : decode cX0_dealBySeed 75 = .ok (.aload_n 0, 1) := by decide +kernel
theorem dX0_dealBySeed_76 : decode cX0_dealBySeed 76 = .ok (.getfield 15, 3) := by decide +kernel
theorem dX0_dealBySeed_79 : decode cX0_dealBySeed 79 = .ok (.iload 8, 2) := by decide +kernel
theorem dX0_dealBySeed_81 : decode cX0_dealBySeed 81 = .ok (.aload_n 0, 1) := by decide +kernel
theorem dX0_dealBySeed_82 : decode cX0_dealBySeed 82 = .ok (.getfield 15, 3) := by decide +kernel
theorem dX0_dealBySeed_85 : decode cX0_dealBySeed 85 = .ok (.iload 8, 2) := by decide +kernel
theorem dX0_dealBySeed_87 : decode cX0_dealBySeed 87 = .ok (.iaload, 1) := by decide +kernel
theorem dX0_dealBySeed_88 : decode cX0_dealBySeed 88 = .ok (.i2l, 1) := by decide +kernel
theorem dX0_dealBySeed_89 : decode cX0_dealBySeed 89 = .ok (.iload 8, 2) := by decide +kernel
theorem dX0_dealBySeed_91 : decode cX0_dealBySeed 91 = .ok (.i2l, 1) := by decide +kernel
theorem dX0_dealBySeed_92 : decode cX0_dealBySeed 92 = .ok (.lmul, 1) := by decide +kernel
theorem dX0_dealBySeed_93 : decode cX0_dealBySeed 93 = .ok (.iload 7, 2) := by decide +kernel
theorem dX0_dealBySeed_95 : decode cX0_dealBySeed 95 = .ok (.i2l, 1) := by decide +kernel
theorem dX0_dealBySeed_96 : decode cX0_dealBySeed 96 = .ok (.ladd, 1) := by decide +kernel
theorem dX0_dealBySeed_97 : decode cX0_dealBySeed 97 = .ok (.invokestatic 41, 3) := by decide +kernel
theorem dX0_dealBySeed_100 : decode cX0_dealBySeed 100 = .ok (.iastore, 1) := by decide +kernel
theorem dX0_dealBySeed_101 : decode cX0_dealBySeed 101 = .ok (.iinc 8 1, 3) := by decide +kernel
theorem dX0_dealBySeed_104 : decode cX0_dealBySeed 104 = .ok (.goto (-36), 3) := by decide +kernel
theorem dX0_dealBySeed_107 : decode cX0_dealBySeed 107 = .ok (.iinc 6 (-1), 3) := by decide +kernel
theorem dX0_dealBySeed_110 : decode cX0_dealBySeed 110 = .ok (.goto (-80), 3) := by decide +kernel
theorem dX0_dealBySeed_113 : decode cX0_dealBySeed 113 = .ok (.iconst 1, 1) := by decide +kernel
theorem dX0_dealBySeed_114 : decode cX0_dealBySeed 114 = .ok (.istore 6, 2) := by decide +kernel
theorem dX0_dealBySeed_116 : decode cX0_dealBySeed 116 = .ok (.iload 6, 2) := by decide +kernel
theorem dX0_dealBySeed_118 : decode cX0_dealBySeed 118 = .ok (.iload 4, 2) := by decide +kernel
theorem dX0_dealBySeed_120 : decode cX0_dealBySeed 120 = .ok (.if_icmp .gt 23, 3) := by decide +kernel
theorem dX0_dealBySeed_123 : decode cX0_dealBySeed 123 = .ok (.aload_n 0, 1) := by decide +kernel
theorem dX0_dealBySeed_124 : decode cX0_dealBySeed 124 = .ok (.getfield 18, 3) := by decide +kernel
theorem dX0_dealBySeed_127 : decode cX0_dealBySeed 127 = .ok (.iload 6, 2) := by decide +kernel
theorem dX0_dealBySeed_129 : decode cX0_dealBySeed 129 = .ok (.aload_n 0, 1) := by decide +kernel
theorem dX0_dealBySeed_130 : decode cX0_dealBySeed 130 = .ok (.getfield 15, 3) := by decide +kernel
theorem dX0_dealBySeed_133 : decode cX0_dealBySeed 133 = .ok (.iload 6, 2) := by decide +kernel
theorem dX0_dealBySeed_135 : decode cX0_dealBySeed 135 = .ok (.iaload, 1) := by decide +kernel
theorem dX0_dealBySeed_136 : decode cX0_dealBySeed 136 = .ok (.iastore, 1) := by decide +kernel
theorem dX0_dealBySeed_137 : decode cX0_dealBySeed 137 = .ok (.iinc 6 1, 3) := by decide +kernel
theorem dX0_dealBySeed_140 : decode cX0_dealBySeed 140 = .ok (.goto (-24), 3) := by decide +kernel
theorem dX0_dealBySeed_143 : decode cX0_dealBySeed 143 = .ok (.aload_n 0, 1) := by decide +kernel
theorem dX0_dealBySeed_144 : decode cX0_dealBySeed 144 = .ok (.iconst 1, 1) := by decide +kernel
theorem dX0_dealBySeed_145 : decode cX0_dealBySeed 145 = .ok (.putfield 25, 3) := by decide +kernel
theorem dX0_dealBySeed_148 : decode cX0_dealBySeed 148 = .ok (.return_, 1) := by decide +kernel
theorem dX0_addToGiven_0 : decode cX0_addToGiven 0 = .ok (.aload_n 0, 1) := by decide +kernel
theorem dX0_addToGiven_1 : decode cX0_addToGiven 1 = .ok (.getfield 18, 3) := by decide +kernel
theorem dX0_addToGiven_4 : decode cX0_addToGiven 4 = .ok (.iload_n 1, 1) := by decide +kernel
theorem dX0_addToGiven_5 : decode cX0_addToGiven 5 = .ok (.iaload, 1) := by decide +kernel
theorem dX0_addToGiven_6 : decode cX0_addToGiven 6 = .ok (.istore_n 3, 1) := by decide +kernel
theorem dX0_addToGiven_7 : decode cX0_addToGiven 7 = .ok (.aload_n 0, 1) := by decide +kernel
theorem dX0_addToGiven_8 : decode cX0_addToGiven 8 = .ok (.getfield 18, 3) := by decide +kernel
theorem dX0_addToGiven_11 : decode cX0_addToGiven 11 = .ok (.iload_n 1, 1) := by decide +kernel
theorem dX0_addToGiven_12 : decode cX0_addToGiven 12 = .ok (.iload_n 3, 1) := by decide +kernel
theorem dX0_addToGiven_13 : decode cX0_addToGiven 13 = .ok (.i2l, 1) := by decide +kernel
theorem dX0_addToGiven_14 : decode cX0_addToGiven 14 = .ok (.iload_n 2, 1) := by decide +kernel
theorem dX0_addToGiven_15 : decode cX0_addToGiven 15 = .ok (.i2l, 1) := by decide +kernel
theorem dX0_addToGiven_16 : decode cX0_addToGiven 16 = .ok (.ladd, 1) := by decide +kernel
theorem dX0_addToGiven_17 : decode cX0_addToGiven 17 = .ok (.invokestatic 41, 3) := by decide +kernel
theorem dX0_addToGiven_20 : decode cX0_addToGiven 20 = .ok (.iastore, 1) := by decide +kernel
theorem dX0_addToGiven_21 : decode cX0_addToGiven 21 = .ok (.iload_n 3, 1) := by decide +kernel
theorem dX0_addToGiven_22 : decode cX0_addToGiven 22 = .ok (.ireturn, 1) := by decide +kernel
theorem dX0_isRightShare_0 : decode cX0_isRightShare 0 = .ok (.iload_n 2, 1) := by decide +kernel
theorem dX0_isRightShare_1 : decode cX0_isRightShare 1 = .ok (.aload_n 0, 1) := by decide +kernel
theorem dX0_isRightShare_2 : decode cX0_isRightShare 2 = .ok (.getfield 15, 3) := by decide +kernel
theorem dX0_isRightShare_5 : decode cX0_isRightShare 5 = .ok (.iload_n 1, 1) := by decide +kernel
theorem dX0_isRightShare_6 : decode cX0_isRightShare 6 = .ok (.iaload, 1) := by decide +kernel
theorem dX0_isRightShare_7 : decode cX0_isRightShare 7 = .ok (.if_icmp .ne 7, 3) := by decide +kernel
theorem dX0_isRightShare_10 : decode cX0_isRightShare 10 = .ok (.iconst 1, 1) := by decide +kernel
theorem dX0_isRightShare_11 : decode cX0_isRightShare 11 = .ok (.goto 4, 3) := by decide +kernel
theorem dX0_isRightShare_14 : decode cX0_isRightShare 14 = .ok (.iconst 0, 1) := by decide +kernel
theorem dX0_isRightShare_15 : decode cX0_isRightShare 15 = .ok (.ireturn, 1) := by decide +kernel
theorem dX0_gatherComplaints_0 : decode cX0_gatherComplaints 0 = .ok (.aload_n 0, 1) := by decide +kernel
theorem dX0_gatherComplaints_1 : decode cX0_gatherComplaints 1 = .ok (.getfield 25, 3) := by decide +kernel
theorem dX0_gatherComplaints_4 : decode cX0_gatherComplaints 4 = .ok (.ifCond .ne 4, 3) := by decide +kernel
theorem dX0_gatherComplaints_7 : decode cX0_gatherComplaints 7 = .ok (.return_, 1) := by decide +kernel
theorem dX0_gatherComplaints_8 : decode cX0_gatherComplaints 8 = .ok (.iconst 1, 1) := by decide +kernel
theorem dX0_gatherComplaints_9 : decode cX0_gatherComplaints 9 = .ok (.istore_n 2, 1) := by decide +kernel
theorem dX0_gatherComplaints_10 : decode cX0_gatherComplaints 10 = .ok (.iload_n 2, 1) := by decide +kernel
theorem dX0_gatherComplaints_11 : decode cX0_gatherComplaints 11 = .ok (.iload_n 1, 1) := by decide +kernel
theorem dX0_gatherComplaints_12 : decode cX0_gatherComplaints 12 = .ok (.if_icmp .gt 35, 3) := by decide +kernel
theorem dX0_gatherComplaints_15 : decode cX0_gatherComplaints 15 = .ok (.aload_n 0, 1) := by decide +kernel
theorem dX0_gatherComplaints_16 : decode cX0_gatherComplaints 16 = .ok (.iload_n 2, 1) := by decide +kernel
theorem dX0_gatherComplaints_17 : decode cX0_gatherComplaints 17 = .ok (.aload_n 0, 1) := by decide +kernel
theorem dX0_gatherComplaints_18 : decode cX0_gatherComplaints 18 = .ok (.getfield 18, 3) := by decide +kernel
theorem dX0_gatherComplaints_21 : decode cX0_gatherComplaints 21 = .ok (.iload_n 2, 1) := by decide +kernel
theorem dX0_gatherComplaints_22 : decode cX0_gatherComplaints 22 = .ok (.iaload, 1) := by decide +kernel
theorem dX0_gatherComplaints_23 : decode cX0_gatherComplaints 23 = .ok (.invokevirtual 49, 3) := by decide +kernel
theorem dX0_gatherComplaints_26 : decode cX0_gatherComplaints 26 = .ok (.ifCond .ne 15, 3) := by decide +kernel
theorem dX0_gatherComplaints_29 : decode cX0_gatherComplaints 29 = .ok (.aload_n 0, 1) := by decide +kernel
theorem dX0_gatherComplaints_30 : decode cX0_gatherComplaints 30 = .ok (.dup, 1) := by decide +kernel
theorem dX0_gatherComplaints_31 : decode cX0_gatherComplaints 31 = .ok (.getfield 21, 3) := by decide +kernel
theorem dX0_gatherComplaints_34 : decode cX0_gatherComplaints 34 = .ok (.iconst 1, 1) := by decide +kernel
theorem dX0_gatherComplaints_35 : decode cX0_gatherComplaints 35 = .ok (.iload_n 2, 1) := by decide +kernel
theorem dX0_gatherComplaints_36 : decode cX0_gatherComplaints 36 = .ok (.ishl, 1) := by decide +kernel
theorem dX0_gatherComplaints_37 : decode cX0_gatherComplaints 37 = .ok (.ior, 1) := by decide +kernel
theorem dX0_gatherComplaints_38 : decode cX0_gatherComplaints 38 = .ok (.putfield 21, 3) := by decide +kernel
theorem dX0_gatherComplaints_41 : decode cX0_gatherComplaints 41 = .ok (.iinc 2 1, 3) := by decide +kernel
theorem dX0_gatherComplaints_44 : decode cX0_gatherComplaints 44 = .ok (.goto (-34), 3) := by decide +kernel
theorem dX0_gatherComplaints_47 : decode cX0_gatherComplaints 47 = .ok (.return_, 1) := by decide +kernel
theorem dX0_hasComplaintOf_0 : decode cX0_hasComplaintOf 0 = .ok (.aload_n 0, 1) := by decide +kernel
theorem dX0_hasComplaintOf_1 : decode cX0_hasComplaintOf 1 = .ok (.getfield 21, 3) := by decide +kernel
theorem dX0_hasComplaintOf_4 : decode cX0_hasComplaintOf 4 = .ok (.iload_n 1, 1) := by decide +kernel
theorem dX0_hasComplaintOf_5 : decode cX0_hasComplaintOf 5 = .ok (.invokestatic 53, 3) := by decide +kernel
theorem dX0_hasComplaintOf_8 : decode cX0_hasComplaintOf 8 = .ok (.ireturn, 1) := by decide +kernel
theorem dX0_answerComplaint_0 : decode cX0_answerComplaint 0 = .ok (.aload_n 0, 1) := by decide +kernel
theorem dX0_answerComplaint_1 : decode cX0_answerComplaint 1 = .ok (.getfield 15, 3) := by decide +kernel
theorem dX0_answerComplaint_4 : decode cX0_answerComplaint 4 = .ok (.iload_n 1, 1) := by decide +kernel
theorem dX0_answerComplaint_5 : decode cX0_answerComplaint 5 = .ok (.iaload, 1) := by decide +kernel
theorem dX0_answerComplaint_6 : decode cX0_answerComplaint 6 = .ok (.i2l, 1) := by decide +kernel
theorem dX0_answerComplaint_7 : decode cX0_answerComplaint 7 = .ok (.iload_n 2, 1) := by decide +kernel
theorem dX0_answerComplaint_8 : decode cX0_answerComplaint 8 = .ok (.i2l, 1) := by decide +kernel
theorem dX0_answerComplaint_9 : decode cX0_answerComplaint 9 = .ok (.ladd, 1) := by decide +kernel
theorem dX0_answerComplaint_10 : decode cX0_answerComplaint 10 = .ok (.invokestatic 41, 3) := by decide +kernel
theorem dX0_answerComplaint_13 : decode cX0_answerComplaint 13 = .ok (.istore_n 3, 1) := by decide +kernel
theorem dX0_answerComplaint_14 : decode cX0_answerComplaint 14 = .ok (.aload_n 0, 1) := by decide +kernel
theorem dX0_answerComplaint_15 : decode cX0_answerComplaint 15 = .ok (.iload_n 1, 1) := by decide +kernel
theorem dX0_answerComplaint_16 : decode cX0_answerComplaint 16 = .ok (.iload_n 3, 1) := by decide +kernel
theorem dX0_answerComplaint_17 : decode cX0_answerComplaint 17 = .ok (.invokevirtual 49, 3) := by decide +kernel
theorem dX0_answerComplaint_20 : decode cX0_answerComplaint 20 = .ok (.ifCond .ne 10, 3) := by decide +kernel
theorem dX0_answerComplaint_23 : decode cX0_answerComplaint 23 = .ok (.aload_n 0, 1) := by decide +kernel
theorem dX0_answerComplaint_24 : decode cX0_answerComplaint 24 = .ok (.iconst 1, 1) := by decide +kernel
theorem dX0_answerComplaint_25 : decode cX0_answerComplaint 25 = .ok (.putfield 29, 3) := by decide +kernel
theorem dX0_answerComplaint_28 : decode cX0_answerComplaint 28 = .ok (.iconst 0, 1) := by decide +kernel
theorem dX0_answerComplaint_29 : decode cX0_answerComplaint 29 = .ok (.ireturn, 1) := by decide +kernel
theorem dX0_answerComplaint_30 : decode cX0_answerComplaint 30 = .ok (.aload_n 0, 1) := by decide +kernel
theorem dX0_answerComplaint_31 : decode cX0_answerComplaint 31 = .ok (.getfield 18, 3) := by decide +kernel
theorem dX0_answerComplaint_34 : decode cX0_answerComplaint 34 = .ok (.iload_n 1, 1) := by decide +kernel
theorem dX0_answerComplaint_35 : decode cX0_answerComplaint 35 = .ok (.iload_n 3, 1) := by decide +kernel
theorem dX0_answerComplaint_36 : decode cX0_answerComplaint 36 = .ok (.iastore, 1) := by decide +kernel
theorem dX0_answerComplaint_37 : decode cX0_answerComplaint 37 = .ok (.aload_n 0, 1) := by decide +kernel
theorem dX0_answerComplaint_38 : decode cX0_answerComplaint 38 = .ok (.dup, 1) := by decide +kernel
theorem dX0_answerComplaint_39 : decode cX0_answerComplaint 39 = .ok (.getfield 21, 3) := by decide +kernel
theorem dX0_answerComplaint_42 : decode cX0_answerComplaint 42 = .ok (.iconst 1, 1) := by decide +kernel
theorem dX0_answerComplaint_43 : decode cX0_answerComplaint 43 = .ok (.iload_n 1, 1) := by decide +kernel
theorem dX0_answerComplaint_44 : decode cX0_answerComplaint 44 = .ok (.ishl, 1) := by decide +kernel
theorem dX0_answerComplaint_45 : decode cX0_answerComplaint 45 = .ok (.iconst (-1), 1) := by decide +kernel
theorem dX0_answerComplaint_46 : decode cX0_answerComplaint 46 = .ok (.ixor, 1) := by decide +kernel
theorem dX0_answerComplaint_47 : decode cX0_answerComplaint 47 = .ok (.iand, 1) := by decide +kernel
theorem dX0_answerComplaint_48 : decode cX0_answerComplaint 48 = .ok (.putfield 21, 3) := by decide +kernel
theorem dX0_answerComplaint_51 : decode cX0_answerComplaint 51 = .ok (.iconst 1, 1) := by decide +kernel
theorem dX0_answerComplaint_52 : decode cX0_answerComplaint 52 = .ok (.ireturn, 1) := by decide +kernel
theorem dX0_mayQualify_0 : decode cX0_mayQualify 0 = .ok (.aload_n 0, 1) := by decide +kernel
theorem dX0_mayQualify_1 : decode cX0_mayQualify 1 = .ok (.getfield 25, 3) := by decide +kernel
theorem dX0_mayQualify_4 : decode cX0_mayQualify 4 = .ok (.ifCond .eq 21, 3) := by decide +kernel
theorem dX0_mayQualify_7 : decode cX0_mayQualify 7 = .ok (.aload_n 0, 1) := by decide +kernel
theorem dX0_mayQualify_8 : decode cX0_mayQualify 8 = .ok (.getfield 29, 3) := by decide +kernel
theorem dX0_mayQualify_11 : decode cX0_mayQualify 11 = .ok (.ifCond .ne 14, 3) := by decide +kernel
theorem dX0_mayQualify_14 : decode cX0_mayQualify 14 = .ok (.aload_n 0, 1) := by decide +kernel
theorem dX0_mayQualify_15 : decode cX0_mayQualify 15 = .ok (.getfield 21, 3) := by decide +kernel
theorem dX0_mayQualify_18 : decode cX0_mayQualify 18 = .ok (.ifCond .ne 7, 3) := by decide +kernel
theorem dX0_mayQualify_21 : decode cX0_mayQualify 21 = .ok (.iconst 1, 1) := by decide +kernel
theorem dX0_mayQualify_22 : decode cX0_mayQualify 22 = .ok (.goto 4, 3) := by decide +kernel
theorem dX0_mayQualify_25 : decode cX0_mayQualify 25 = .ok (.iconst 0, 1) := by decide +kernel
theorem dX0_mayQualify_26 : decode cX0_mayQualify 26 = .ok (.ireturn, 1) := by decide +kernel
end
section
theorem dX2_init_0 : decode cX2_init 0 = .ok (.aload_n 0, 1) := by decide +kernel
theorem dX2_init_1 : decode cX2_init 1 = .ok (.invokespecial 3, 3) := by decide +kernel
theorem dX2_init_4 : decode cX2_init 4 = .ok (.aload_n 0, 1) := by decide +kernel
theorem dX2_init_5 : decode cX2_init 5 = .ok (.sipush 301, 3) := by decide +kernel
theorem dX2_init_8 : decode cX2_init 8 = .ok (.newarray .long, 2) := by decide +kernel
theorem dX2_init_10 : decode cX2_init 10 = .ok (.putfield 9, 3) := by decide +kernel
theorem dX2_init_13 : decode cX2_init 13 = .ok (.aload_n 0, 1) := by decide +kernel
theorem dX2_init_14 : decode cX2_init 14 = .ok (.bipush 17, 2) := by decide +kernel
theorem dX2_init_16 : decode cX2_init 16 = .ok (.newarray .int, 2) := by decide +kernel
theorem dX2_init_18 : decode cX2_init 18 = .ok (.putfield 15, 3) := by decide +kernel
theorem dX2_init_21 : decode cX2_init 21 = .ok (.aload_n 0, 1) := by decide +kernel
theorem dX2_init_22 : decode cX2_init 22 = .ok (.bipush 16, 2) := by decide +kernel
theorem dX2_init_24 : decode cX2_init 24 = .ok (.newarray .int, 2) := by decide +kernel
theorem dX2_init_26 : decode cX2_init 26 = .ok (.putfield 19, 3) := by decide +kernel
theorem dX2_init_29 : decode cX2_init 29 = .ok (.aload_n 0, 1) := by decide +kernel
theorem dX2_init_30 : decode cX2_init 30 = .ok (.getfield 19, 3) := by decide +kernel
theorem dX2_init_33 : decode cX2_init 33 = .ok (.iconst 1, 1) := by decide +kernel
theorem dX2_init_34 : decode cX2_init 34 = .ok (.iconst 1, 1) := by decide +kernel
theorem dX2_init_35 : decode cX2_init 35 = .ok (.iastore, 1) := by decide +kernel
theorem dX2_init_36 : decode cX2_init 36 = .ok (.iconst 2, 1) := by decide +kernel
theorem dX2_init_37 : decode cX2_init 37 = .ok (.istore_n 1, 1) := by decide +kernel
theorem dX2_init_38 : decode cX2_init 38 = .ok (.iload_n 1, 1) := by decide +kernel
theorem dX2_init_39 : decode cX2_init 39 = .ok (.bipush 16, 2) := by decide +kernel
theorem dX2_init_41 : decode cX2_init 41 = .ok (.if_icmp .ge 39, 3) := by decide +kernel
theorem dX2_init_44 : decode cX2_init 44 = .ok (.ldc 24, 2) := by decide +kernel
theorem dX2_init_46 : decode cX2_init 46 = .ok (.ldc 24, 2) := by decide +kernel
theorem dX2_init_48 : decode cX2_init 48 = .ok (.iload_n 1, 1) := by decide +kernel
theorem dX2_init_49 : decode cX2_init 49 = .ok (.idiv, 1) := by decide +kernel
theorem dX2_init_50 : decode cX2_init 50 = .ok (.isub, 1) := by decide +kernel
theorem dX2_init_51 : decode cX2_init 51 = .ok (.istore_n 2, 1) := by decide +kernel
theorem dX2_init_52 : decode cX2_init 52 = .ok (.aload_n 0, 1) := by decide +kernel
theorem dX2_init_53 : decode cX2_init 53 = .ok (.getfield 19, 3) := by decide +kernel
theorem dX2_init_56 : decode cX2_init 56 = .ok (.iload_n 1, 1) := by decide +kernel
theorem dX2_init_57 : decode cX2_init 57 = .ok (.iload_n 2, 1) := by decide +kernel
theorem dX2_init_58 : decode cX2_init 58 = .ok (.i2l, 1) := by decide +kernel
theorem dX2_init_59 : decode cX2_init 59 = .ok (.aload_n 0, 1) := by decide +kernel
theorem dX2_init_60 : decode cX2_init 60 = .ok (.getfield 19, 3) := by decide +kernel
theorem dX2_init_63 : decode cX2_init 63 = .ok (.ldc 24, 2) := by decide +kernel
theorem dX2_init_65 : decode cX2_init 65 = .ok (.iload_n 1, 1) := by decide +kernel
theorem dX2_init_66 : decode cX2_init 66 = .ok (.irem, 1) := by decide +kernel
theorem dX2_init_67 : decode cX2_init 67 = .ok (.iaload, 1) := by decide +kernel
theorem dX2_init_68 : decode cX2_init 68 = .ok (.i2l, 1) := by decide +kernel
theorem dX2_init_69 : decode cX2_init 69 = .ok (.lmul, 1) := by decide +kernel
theorem dX2_init_70 : decode cX2_init 70 = .ok (.invokestatic 25, 3) := by decide +kernel
theorem dX2_init_73 : decode cX2_init 73 = .ok (.iastore, 1) := by decide +kernel
theorem dX2_init_74 : decode cX2_init 74 = .ok (.iinc 1 1, 3) := by decide +kernel
theorem dX2_init_77 : decode cX2_init 77 = .ok (.goto (-39), 3) := by decide +kernel
theorem dX2_init_80 : decode cX2_init 80 = .ok (.return_, 1) := by decide +kernel
theorem dX2_forget_0 : decode cX2_forget 0 = .ok (.aload_n 0, 1) := by decide +kernel
theorem dX2_forget_1 : decode cX2_forget 1 = .ok (.iconst 0, 1) := by decide +kernel
theorem dX2_forget_2 : decode cX2_forget 2 = .ok (.putfield 29, 3) := by decide +kernel
theorem dX2_forget_5 : decode cX2_forget 5 = .ok (.aload_n 0, 1) := by decide +kernel
theorem dX2_forget_6 : decode cX2_forget 6 = .ok (.iconst 0, 1) := by decide +kernel
theorem dX2_forget_7 : decode cX2_forget 7 = .ok (.putfield 33, 3) := by decide +kernel
theorem dX2_forget_10 : decode cX2_forget 10 = .ok (.return_, 1) := by decide +kernel
theorem dX2_startFrom_0 : decode cX2_startFrom 0 = .ok (.aload_n 0, 1) := by decide +kernel
theorem dX2_startFrom_1 : decode cX2_startFrom 1 = .ok (.getfield 9, 3) := by decide +kernel
theorem dX2_startFrom_4 : decode cX2_startFrom 4 = .ok (.iconst 0, 1) := by decide +kernel
theorem dX2_startFrom_5 : decode cX2_startFrom 5 = .ok (.lload_n 1, 1) := by decide +kernel
theorem dX2_startFrom_6 : decode cX2_startFrom 6 = .ok (.lastore, 1) := by decide +kernel
theorem dX2_startFrom_7 : decode cX2_startFrom 7 = .ok (.aload_n 0, 1) := by decide +kernel
theorem dX2_startFrom_8 : decode cX2_startFrom 8 = .ok (.iconst 0, 1) := by decide +kernel
theorem dX2_startFrom_9 : decode cX2_startFrom 9 = .ok (.putfield 29, 3) := by decide +kernel
theorem dX2_startFrom_12 : decode cX2_startFrom 12 = .ok (.aload_n 0, 1) := by decide +kernel
theorem dX2_startFrom_13 : decode cX2_startFrom 13 = .ok (.invokevirtual 36, 3) := by decide +kernel
theorem dX2_startFrom_16 : decode cX2_startFrom 16 = .ok (.return_, 1) := by decide +kernel
theorem dX2_endWith_0 : decode cX2_endWith 0 = .ok (.aload_n 0, 1) := by decide +kernel
theorem dX2_endWith_1 : decode cX2_endWith 1 = .ok (.dup, 1) := by decide +kernel
theorem dX2_endWith_2 : decode cX2_endWith 2 = .ok (.getfield 29, 3) := by decide +kernel
theorem dX2_endWith_5 : decode cX2_endWith 5 = .ok (.iconst 1, 1) := by decide +kernel
theorem dX2_endWith_6 : decode cX2_endWith 6 = .ok (.iadd, 1) := by decide +kernel
theorem dX2_endWith_7 : decode cX2_endWith 7 = .ok (.putfield 29, 3) := by decide +kernel
theorem dX2_endWith_10 : decode cX2_endWith 10 = .ok (.aload_n 0, 1) := by decide +kernel
theorem dX2_endWith_11 : decode cX2_endWith 11 = .ok (.getfield 9, 3) := by decide +kernel
theorem dX2_endWith_14 : decode cX2_endWith 14 = .ok (.aload_n 0, 1) := by decide +kernel
theorem dX2_endWith_15 : decode cX2_endWith 15 = .ok (.getfield 29, 3) := by decide +kernel
theorem dX2_endWith_18 : decode cX2_endWith 18 = .ok (.iload_n 1, 1) := by decide +kernel
theorem dX2_endWith_19 : decode cX2_endWith 19 = .ok (.i2l, 1) := by decide +kernel
theorem dX2_endWith_20 : decode cX2_endWith 20 = .ok (.lastore, 1) := by decide +kernel
theorem dX2_endWith_21 : decode cX2_endWith 21 = .ok (.aload_n 0, 1) := by decide +kernel
theorem dX2_endWith_22 : decode cX2_endWith 22 = .ok (.invokevirtual 36, 3) := by decide +kernel
theorem dX2_endWith_25 : decode cX2_endWith 25 = .ok (.return_, 1) := by decide +kernel
theorem dX2_startNext_0 : decode cX2_startNext 0 = .ok (.aload_n 0, 1) := by decide +kernel
theorem dX2_startNext_1 : decode cX2_startNext 1 = .ok (.iconst 0, 1) := by decide +kernel
theorem dX2_startNext_2 : decode cX2_startNext 2 = .ok (.putfield 33, 3) := by decide +kernel
theorem dX2_startNext_5 : decode cX2_startNext 5 = .ok (.aload_n 0, 1) := by decide +kernel
theorem dX2_startNext_6 : decode cX2_startNext 6 = .ok (.aload_n 0, 1) := by decide +kernel
theorem dX2_startNext_7 : decode cX2_startNext 7 = .ok (.getfield 9, 3) := by decide +kernel
theorem dX2_startNext_10 : decode cX2_startNext 10 = .ok (.aload_n 0, 1) := by decide +kernel
theorem dX2_startNext_11 : decode cX2_startNext 11 = .ok (.getfield 29, 3) := by decide +kernel
theorem dX2_startNext_14 : decode cX2_startNext 14 = .ok (.laload, 1) := by decide +kernel
theorem dX2_startNext_15 : decode cX2_startNext 15 = .ok (.aload_n 0, 1) := by decide +kernel
theorem dX2_startNext_16 : decode cX2_startNext 16 = .ok (.getfield 29, 3) := by decide +kernel
theorem dX2_startNext_19 : decode cX2_startNext 19 = .ok (.iconst 1, 1) := by decide +kernel
theorem dX2_startNext_20 : decode cX2_startNext 20 = .ok (.iadd, 1) := by decide +kernel
theorem dX2_startNext_21 : decode cX2_startNext 21 = .ok (.i2l, 1) := by decide +kernel
theorem dX2_startNext_22 : decode cX2_startNext 22 = .ok (.invokestatic 39, 3) := by decide +kernel
theorem dX2_startNext_25 : decode cX2_startNext 25 = .ok (.putfield 43, 3) := by decide +kernel
theorem dX2_startNext_28 : decode cX2_startNext 28 = .ok (.aload_n 0, 1) := by decide +kernel
theorem dX2_startNext_29 : decode cX2_startNext 29 = .ok (.getfield 43, 3) := by decide +kernel
theorem dX2_startNext_32 : decode cX2_startNext 32 = .ok (.ldc2_w 47, 3) := by decide +kernel
theorem dX2_startNext_35 : decode cX2_startNext 35 = .ok (.invokestatic 49, 3) := by decide +kernel
theorem dX2_startNext_38 : decode cX2_startNext 38 = .ok (.l2i, 1) := by decide +kernel
theorem dX2_startNext_39 : decode cX2_startNext 39 = .ok (.iconst 1, 1) := by decide +kernel
theorem dX2_startNext_40 : decode cX2_startNext 40 = .ok (.iadd, 1) := by decide +kernel
theorem dX2_startNext_41 : decode cX2_startNext 41 = .ok (.istore_n 1, 1) := by decide +kernel
theorem dX2_startNext_42 : decode cX2_startNext 42 = .ok (.aload_n 0, 1) := by decide +kernel
theorem dX2_startNext_43 : decode cX2_startNext 43 = .ok (.iload_n 1, 1) := by decide +kernel
theorem dX2_startNext_44 : decode cX2_startNext 44 = .ok (.iload_n 1, 1) := by decide +kernel
theorem dX2_startNext_45 : decode cX2_startNext 45 = .ok (.invokestatic 54, 3) := by decide +kernel
theorem dX2_startNext_48 : decode cX2_startNext 48 = .ok (.putfield 58, 3) := by decide +kernel
theorem dX2_startNext_51 : decode cX2_startNext 51 = .ok (.return_, 1) := by decide +kernel
theorem dX2_keepsPartOf_0 : decode cX2_keepsPartOf 0 = .ok (.aload_n 0, 1) := by decide +kernel
theorem dX2_keepsPartOf_1 : decode cX2_keepsPartOf 1 = .ok (.getfield 33, 3) := by decide +kernel
theorem dX2_keepsPartOf_4 : decode cX2_keepsPartOf 4 = .ok (.iload_n 1, 1) := by decide +kernel
theorem dX2_keepsPartOf_5 : decode cX2_keepsPartOf 5 = .ok (.invokestatic 61, 3) := by decide +kernel
theorem dX2_keepsPartOf_8 : decode cX2_keepsPartOf 8 = .ok (.ireturn, 1) := by decide +kernel
theorem dX2_keep_0 : decode cX2_keep 0 = .ok (.aload_n 0, 1) := by decide +kernel
theorem dX2_keep_1 : decode cX2_keep 1 = .ok (.getfield 15, 3) := by decide +kernel
theorem dX2_keep_4 : decode cX2_keep 4 = .ok (.iload_n 1, 1) := by decide +kernel
theorem dX2_keep_5 : decode cX2_keep 5 = .ok (.iload_n 2, 1) := by decide +kernel
theorem dX2_keep_6 : decode cX2_keep 6 = .ok (.iastore, 1) := by decide +kernel
theorem dX2_keep_7 : decode cX2_keep 7 = .ok (.aload_n 0, 1) := by decide +kernel
theorem dX2_keep_8 : decode cX2_keep 8 = .ok (.dup, 1) := by decide +kernel
theorem dX2_keep_9 : decode cX2_keep 9 = .ok (.getfield 33, 3) := by decide +kernel
theorem dX2_keep_12 : decode cX2_keep 12 = .ok (.iconst 1, 1) := by decide +kernel
theorem dX2_keep_13 : decode cX2_keep 13 = .ok (.iload_n 1, 1) := by decide +kernel
theorem dX2_keep_14 : decode cX2_keep 14 = .ok (.ishl, 1) := by decide +kernel
theorem dX2_keep_15 : decode cX2_keep 15 = .ok (.ior, 1) := by decide +kernel
theorem dX2_keep_16 : decode cX2_keep 16 = .ok (.putfield 33, 3) := by decide +kernel
theorem dX2_keep_19 : decode cX2_keep 19 = .ok (.return_, 1) := by decide +kernel
theorem dX2_leastKept_0 : decode cX2_leastKept 0 = .ok (.iconst 0, 1) := by decide +kernel
theorem dX2_leastKept_1 : decode cX2_leastKept 1 = .ok (.istore_n 2, 1) := by decide +kernel
theorem dX2_leastKept_2 : decode cX2_leastKept 2 = .ok (.iconst 0, 1) := by decide +kernel
theorem dX2_leastKept_3 : decode cX2_leastKept 3 = .ok (.istore_n 3, 1) := by decide +kernel
theorem dX2_leastKept_4 : decode cX2_leastKept 4 = .ok (.iconst 1, 1) := by decide +kernel
theorem dX2_leastKept_5 : decode cX2_leastKept 5 = .ok (.istore 4, 2) := by decide +kernel
theorem dX2_leastKept_7 : decode cX2_leastKept 7 = .ok (.iload 4, 2) := by decide +kernel
theorem dX2_leastKept_9 : decode cX2_leastKept 9 = .ok (.bipush 16, 2) := by decide +kernel
theorem dX2_leastKept_11 : decode cX2_leastKept 11 = .ok (.if_icmp .gt 33, 3) := by decide +kernel
theorem dX2_leastKept_14 : decode cX2_leastKept 14 = .ok (.iload_n 3, 1) := by decide +kernel
theorem dX2_leastKept_15 : decode cX2_leastKept 15 = .ok (.iload_n 1, 1) := by decide +kernel
theorem dX2_leastKept_16 : decode cX2_leastKept 16 = .ok (.if_icmp .ge 28, 3) := by decide +kernel
theorem dX2_leastKept_19 : decode cX2_leastKept 19 = .ok (.aload_n 0, 1) := by decide +kernel
theorem dX2_leastKept_20 : decode cX2_leastKept 20 = .ok (.iload 4, 2) := by decide +kernel
theorem dX2_leastKept_22 : decode cX2_leastKept 22 = .ok (.invokevirtual 65, 3) := by decide +kernel
theorem dX2_leastKept_25 : decode cX2_leastKept 25 = .ok (.ifCond .eq 13, 3) := by decide +kernel
theorem dX2_leastKept_28 : decode cX2_leastKept 28 = .ok (.iload_n 2, 1) := by decide +kernel
theorem dX2_leastKept_29 : decode cX2_leastKept 29 = .ok (.iconst 1, 1) := by decide +kernel
theorem dX2_leastKept_30 : decode cX2_leastKept 30 = .ok (.iload 4, 2) := by decide +kernel
theorem dX2_leastKept_32 : decode cX2_leastKept 32 = .ok (.ishl, 1) := by decide +kernel
theorem dX2_leastKept_33 : decode cX2_leastKept 33 = .ok (.ior, 1) := by decide +kernel
theorem dX2_leastKept_34 : decode cX2_leastKept 34 = .ok (.istore_n 2, 1) := by decide +kernel
theorem dX2_leastKept_35 : decode cX2_leastKept 35 = .ok (.iinc 3 1, 3) := by decide +kernel
theorem dX2_leastKept_38 : decode cX2_leastKept 38 = .ok (.iinc 4 1, 3) := by decide +kernel
theorem dX2_leastKept_41 : decode cX2_leastKept 41 = .ok (.goto (-34), 3) := by decide +kernel
theorem dX2_leastKept_44 : decode cX2_leastKept 44 = .ok (.iload_n 2, 1) := by decide +kernel
theorem dX2_leastKept_45 : decode cX2_leastKept 45 = .ok (.ireturn, 1) := by decide +kernel
theorem dX2_combine_0 : decode cX2_combine 0 = .ok (.iconst 1, 1) := by decide +kernel
theorem dX2_combine_1 : decode cX2_combine 1 = .ok (.istore_n 2, 1) := by decide +kernel
theorem dX2_combine_2 : decode cX2_combine 2 = .ok (.iconst 1, 1) := by decide +kernel
theorem dX2_combine_3 : decode cX2_combine 3 = .ok (.istore_n 3, 1) := by decide +kernel
theorem dX2_combine_4 : decode cX2_combine 4 = .ok (.iload_n 3, 1) := by decide +kernel
theorem dX2_combine_5 : decode cX2_combine 5 = .ok (.bipush 16, 2) := by decide +kernel
theorem dX2_combine_7 : decode cX2_combine 7 = .ok (.if_icmp .gt 37, 3) := by decide +kernel
theorem dX2_combine_10 : decode cX2_combine 10 = .ok (.iload_n 1, 1) := by decide +kernel
theorem dX2_combine_11 : decode cX2_combine 11 = .ok (.iload_n 3, 1) := by decide +kernel
theorem dX2_combine_12 : decode cX2_combine 12 = .ok (.invokestatic 61, 3) := by decide +kernel
theorem dX2_combine_15 : decode cX2_combine 15 = .ok (.ifCond .eq 23, 3) := by decide +kernel
theorem dX2_combine_18 : decode cX2_combine 18 = .ok (.iload_n 2, 1) := by decide +kernel
theorem dX2_combine_19 : decode cX2_combine 19 = .ok (.aload_n 0, 1) := by decide +kernel
theorem dX2_combine_20 : decode cX2_combine 20 = .ok (.getfield 15, 3) := by decide +kernel
theorem dX2_combine_23 : decode cX2_combine 23 = .ok (.iload_n 3, 1) := by decide +kernel
theorem dX2_combine_24 : decode cX2_combine 24 = .ok (.iaload, 1) := by decide +kernel
theorem dX2_combine_25 : decode cX2_combine 25 = .ok (.aload_n 0, 1) := by decide +kernel
theorem dX2_combine_26 : decode cX2_combine 26 = .ok (.iload_n 3, 1) := by decide +kernel
theorem dX2_combine_27 : decode cX2_combine 27 = .ok (.iload_n 1, 1) := by decide +kernel
theorem dX2_combine_28 : decode cX2_combine 28 = .ok (.invokevirtual 69, 3) := by decide +kernel
theorem dX2_combine_31 : decode cX2_combine 31 = .ok (.invokestatic 72, 3) := by decide +kernel
theorem dX2_combine_34 : decode cX2_combine 34 = .ok (.invokestatic 54, 3) := by decide +kernel
theorem dX2_combine_37 : decode cX2_combine 37 = .ok (.istore_n 2, 1) := by decide +kernel
theorem dX2_combine_38 : decode cX2_combine 38 = .ok (.iinc 3 1, 3) := by decide +kernel
theorem dX2_combine_41 : decode cX2_combine 41 = .ok (.goto (-37), 3) := by decide +kernel
theorem dX2_combine_44 : decode cX2_combine 44 = .ok (.iload_n 2, 1) := by decide +kernel
theorem dX2_combine_45 : decode cX2_combine 45 = .ok (.ireturn, 1) := by decide +kernel
theorem dX2_weight_0 : decode cX2_weight 0 = .ok (.iconst 1, 1) := by decide +kernel
theorem dX2_weight_1 : decode cX2_weight 1 = .ok (.istore_n 3, 1) := by decide +kernel
theorem dX2_weight_2 : decode cX2_weight 2 = .ok (.iconst 1, 1) := by decide +kernel
theorem dX2_weight_3 : decode cX2_weight 3 = .ok (.istore 4, 2) := by decide +kernel
theorem dX2_weight_5 : decode cX2_weight 5 = .ok (.iload 4, 2) := by decide +kernel
theorem dX2_weight_7 : decode cX2_weight 7 = .ok (.bipush 16, 2) := by decide +kernel
theorem dX2_weight_9 : decode cX2_weight 9 = .ok (.if_icmp .gt 52, 3) := by decide +kernel
theorem dX2_weight_12 : decode cX2_weight 12 = .ok (.iload 4, 2) := by decide +kernel
theorem dX2_weight_14 : decode cX2_weight 14 = .ok (.iload_n 1, 1) := by decide +kernel
theorem dX2_weight_15 : decode cX2_weight 15 = .ok (.if_icmp .eq 40, 3) := by decide +kernel
theorem dX2_weight_18 : decode cX2_weight 18 = .ok (.iload_n 2, 1) := by decide +kernel
theorem dX2_weight_19 : decode cX2_weight 19 = .ok (.iload 4, 2) := by decide +kernel
theorem dX2_weight_21 : decode cX2_weight 21 = .ok (.invokestatic 61, 3) := by decide +kernel
theorem dX2_weight_24 : decode cX2_weight 24 = .ok (.ifCond .eq 31, 3) := by decide +kernel
theorem dX2_weight_27 : decode cX2_weight 27 = .ok (.iload 4, 2) := by decide +kernel
theorem dX2_weight_29 : decode cX2_weight 29 = .ok (.i2l, 1) := by decide +kernel
theorem dX2_weight_30 : decode cX2_weight 30 = .ok (.aload_n 0, 1) := by decide +kernel
theorem dX2_weight_31 : decode cX2_weight 31 = .ok (.iload 4, 2) := by decide +kernel
theorem dX2_weight_33 : decode cX2_weight 33 = .ok (.iload_n 1, 1) := by decide +kernel
theorem dX2_weight_34 : decode cX2_weight 34 = .ok (.isub, 1) := by decide +kernel
theorem dX2_weight_35 : decode cX2_weight 35 = .ok (.invokevirtual 75, 3) := by decide +kernel
theorem dX2_weight_38 : decode cX2_weight 38 = .ok (.i2l, 1) := by decide +kernel
theorem dX2_weight_39 : decode cX2_weight 39 = .ok (.lmul, 1) := by decide +kernel
theorem dX2_weight_40 : decode cX2_weight 40 = .ok (.invokestatic 25, 3) := by decide +kernel
theorem dX2_weight_43 : decode cX2_weight 43 = .ok (.istore 5, 2) := by decide +kernel
theorem dX2_weight_45 : decode cX2_weight 45 = .ok (.iload_n 3, 1) := by decide +kernel
theorem dX2_weight_46 : decode cX2_weight 46 = .ok (.i2l, 1) := by decide +kernel
theorem dX2_weight_47 : decode cX2_weight 47 = .ok (.iload 5, 2) := by decide +kernel
theorem dX2_weight_49 : decode cX2_weight 49 = .ok (.i2l, 1) := by decide +kernel
theorem dX2_weight_50 : decode cX2_weight 50 = .ok (.lmul, 1) := by decide +kernel
theorem dX2_weight_51 : decode cX2_weight 51 = .ok (.invokestatic 25, 3) := by decide +kernel
theorem dX2_weight_54 : decode cX2_weight 54 = .ok (.istore_n 3, 1) := by decide +kernel
theorem dX2_weight_55 : decode cX2_weight 55 = .ok (.iinc 4 1, 3) := by decide +kernel
theorem dX2_weight_58 : decode cX2_weight 58 = .ok (.goto (-53), 3) := by decide +kernel
theorem dX2_weight_61 : decode cX2_weight 61 = .ok (.iload_n 3, 1) := by decide +kernel
theorem dX2_weight_62 : decode cX2_weight 62 = .ok (.ireturn, 1) := by decide +kernel
theorem dX2_inverse_0 : decode cX2_inverse 0 = .ok (.iload_n 1, 1) := by decide +kernel
theorem dX2_inverse_1 : decode cX2_inverse 1 = .ok (.ifCond .le 12, 3) := by decide +kernel
theorem dX2_inverse_4 : decode cX2_inverse 4 = .ok (.aload_n 0, 1) := by decide +kernel
theorem dX2_inverse_5 : decode cX2_inverse 5 = .ok (.getfield 19, 3) := by decide +kernel
theorem dX2_inverse_8 : decode cX2_inverse 8 = .ok (.iload_n 1, 1) := by decide +kernel
theorem dX2_inverse_9 : decode cX2_inverse 9 = .ok (.iaload, 1) := by decide +kernel
theorem dX2_inverse_10 : decode cX2_inverse 10 = .ok (.goto 13, 3) := by decide +kernel
theorem dX2_inverse_13 : decode cX2_inverse 13 = .ok (.ldc 24, 2) := by decide +kernel
theorem dX2_inverse_15 : decode cX2_inverse 15 = .ok (.aload_n 0, 1) := by decide +kernel
theorem dX2_inverse_16 : decode cX2_inverse 16 = .ok (.getfield 19, 3) := by decide +kernel
theorem dX2_inverse_19 : decode cX2_inverse 19 = .ok (.iload_n 1, 1) := by decide +kernel
theorem dX2_inverse_20 : decode cX2_inverse 20 = .ok (.ineg, 1) := by decide +kernel
theorem dX2_inverse_21 : decode cX2_inverse 21 = .ok (.iaload, 1) := by decide +kernel
theorem dX2_inverse_22 : decode cX2_inverse 22 = .ok (.isub, 1) := by decide +kernel
theorem dX2_inverse_23 : decode cX2_inverse 23 = .ok (.ireturn, 1) := by decide +kernel
end
section
theorem dX3_init_0 : decode cX3_init 0 = .ok (.aload_n 0, 1) := by decide +kernel
theorem dX3_init_1 : decode cX3_init 1 = .ok (.invokespecial 3, 3) := by decide +kernel
theorem dX3_init_4 : decode cX3_init 4 = .ok (.return_, 1) := by decide +kernel
theorem dX3_state_0 : decode cX3_state 0 = .ok (.iload_n 1, 1) := by decide +kernel
theorem dX3_state_1 : decode cX3_state 1 = .ok (.i2l, 1) := by decide +kernel
theorem dX3_state_2 : decode cX3_state 2 = .ok (.lload 4, 2) := by decide +kernel
theorem dX3_state_4 : decode cX3_state 4 = .ok (.invokestatic 9, 3) := by decide +kernel
theorem dX3_state_7 : decode cX3_state 7 = .ok (.invokestatic 15, 3) := by decide +kernel
theorem dX3_state_10 : decode cX3_state 10 = .ok (.istore 6, 2) := by decide +kernel
theorem dX3_state_12 : decode cX3_state 12 = .ok (.aload_n 0, 1) := by decide +kernel
theorem dX3_state_13 : decode cX3_state 13 = .ok (.iload_n 3, 1) := by decide +kernel
theorem dX3_state_14 : decode cX3_state 14 = .ok (.iload_n 1, 1) := by decide +kernel
theorem dX3_state_15 : decode cX3_state 15 = .ok (.invokestatic 19, 3) := by decide +kernel
theorem dX3_state_18 : decode cX3_state 18 = .ok (.putfield 23, 3) := by decide +kernel
theorem dX3_state_21 : decode cX3_state 21 = .ok (.aload_n 0, 1) := by decide +kernel
theorem dX3_state_22 : decode cX3_state 22 = .ok (.aload_n 0, 1) := by decide +kernel
theorem dX3_state_23 : decode cX3_state 23 = .ok (.iload_n 2, 1) := by decide +kernel
theorem dX3_state_24 : decode cX3_state 24 = .ok (.iload_n 3, 1) := by decide +kernel
theorem dX3_state_25 : decode cX3_state 25 = .ok (.iconst 4, 1) := by decide +kernel
theorem dX3_state_26 : decode cX3_state 26 = .ok (.iload 6, 2) := by decide +kernel
theorem dX3_state_28 : decode cX3_state 28 = .ok (.invokestatic 19, 3) := by decide +kernel
theorem dX3_state_31 : decode cX3_state 31 = .ok (.iload_n 3, 1) := by decide +kernel
theorem dX3_state_32 : decode cX3_state 32 = .ok (.iload 6, 2) := by decide +kernel
theorem dX3_state_34 : decode cX3_state 34 = .ok (.invokestatic 19, 3) := by decide +kernel
theorem dX3_state_37 : decode cX3_state 37 = .ok (.invokevirtual 29, 3) := by decide +kernel
theorem dX3_state_40 : decode cX3_state 40 = .ok (.putfield 33, 3) := by decide +kernel
theorem dX3_state_43 : decode cX3_state 43 = .ok (.aload_n 0, 1) := by decide +kernel
theorem dX3_state_44 : decode cX3_state 44 = .ok (.aload_n 0, 1) := by decide +kernel
theorem dX3_state_45 : decode cX3_state 45 = .ok (.getfield 33, 3) := by decide +kernel
theorem dX3_state_48 : decode cX3_state 48 = .ok (.i2l, 1) := by decide +kernel
theorem dX3_state_49 : decode cX3_state 49 = .ok (.iload_n 1, 1) := by decide +kernel
theorem dX3_state_50 : decode cX3_state 50 = .ok (.i2l, 1) := by decide +kernel
theorem dX3_state_51 : decode cX3_state 51 = .ok (.lmul, 1) := by decide +kernel
theorem dX3_state_52 : decode cX3_state 52 = .ok (.iload 6, 2) := by decide +kernel
theorem dX3_state_54 : decode cX3_state 54 = .ok (.i2l, 1) := by decide +kernel
theorem dX3_state_55 : decode cX3_state 55 = .ok (.ladd, 1) := by decide +kernel
theorem dX3_state_56 : decode cX3_state 56 = .ok (.invokestatic 15, 3) := by decide +kernel
theorem dX3_state_59 : decode cX3_state 59 = .ok (.putfield 36, 3) := by decide +kernel
theorem dX3_state_62 : decode cX3_state 62 = .ok (.return_, 1) := by decide +kernel
theorem dX3_add_0 : decode cX3_add 0 = .ok (.aload_n 0, 1) := by decide +kernel
theorem dX3_add_1 : decode cX3_add 1 = .ok (.getfield 23, 3) := by decide +kernel
theorem dX3_add_4 : decode cX3_add 4 = .ok (.iload_n 1, 1) := by decide +kernel
theorem dX3_add_5 : decode cX3_add 5 = .ok (.invokestatic 39, 3) := by decide +kernel
theorem dX3_add_8 : decode cX3_add 8 = .ok (.ifCond .eq 25, 3) := by decide +kernel
theorem dX3_add_11 : decode cX3_add 11 = .ok (.aload_n 0, 1) := by decide +kernel
theorem dX3_add_12 : decode cX3_add 12 = .ok (.getfield 33, 3) := by decide +kernel
theorem dX3_add_15 : decode cX3_add 15 = .ok (.iload_n 2, 1) := by decide +kernel
theorem dX3_add_16 : decode cX3_add 16 = .ok (.invokestatic 39, 3) := by decide +kernel
theorem dX3_add_19 : decode cX3_add 19 = .ok (.ifCond .eq 14, 3) := by decide +kernel
theorem dX3_add_22 : decode cX3_add 22 = .ok (.aload_n 0, 1) := by decide +kernel
theorem dX3_add_23 : decode cX3_add 23 = .ok (.getfield 36, 3) := by decide +kernel
theorem dX3_add_26 : decode cX3_add 26 = .ok (.iload_n 3, 1) := by decide +kernel
theorem dX3_add_27 : decode cX3_add 27 = .ok (.invokestatic 39, 3) := by decide +kernel
theorem dX3_add_30 : decode cX3_add 30 = .ok (.ifCond .ne 5, 3) := by decide +kernel
theorem dX3_add_33 : decode cX3_add 33 = .ok (.iconst 0, 1) := by decide +kernel
theorem dX3_add_34 : decode cX3_add 34 = .ok (.ireturn, 1) := by decide +kernel
theorem dX3_add_35 : decode cX3_add 35 = .ok (.aload_n 0, 1) := by decide +kernel
theorem dX3_add_36 : decode cX3_add 36 = .ok (.dup, 1) := by decide +kernel
theorem dX3_add_37 : decode cX3_add 37 = .ok (.getfield 23, 3) := by decide +kernel
theorem dX3_add_40 : decode cX3_add 40 = .ok (.iload_n 1, 1) := by decide +kernel
theorem dX3_add_41 : decode cX3_add 41 = .ok (.iadd, 1) := by decide +kernel
theorem dX3_add_42 : decode cX3_add 42 = .ok (.putfield 23, 3) := by decide +kernel
theorem dX3_add_45 : decode cX3_add 45 = .ok (.aload_n 0, 1) := by decide +kernel
theorem dX3_add_46 : decode cX3_add 46 = .ok (.dup, 1) := by decide +kernel
theorem dX3_add_47 : decode cX3_add 47 = .ok (.getfield 33, 3) := by decide +kernel
theorem dX3_add_50 : decode cX3_add 50 = .ok (.iload_n 2, 1) := by decide +kernel
theorem dX3_add_51 : decode cX3_add 51 = .ok (.iadd, 1) := by decide +kernel
theorem dX3_add_52 : decode cX3_add 52 = .ok (.putfield 33, 3) := by decide +kernel
theorem dX3_add_55 : decode cX3_add 55 = .ok (.aload_n 0, 1) := by decide +kernel
theorem dX3_add_56 : decode cX3_add 56 = .ok (.dup, 1) := by decide +kernel
theorem dX3_add_57 : decode cX3_add 57 = .ok (.getfield 36, 3) := by decide +kernel
theorem dX3_add_60 : decode cX3_add 60 = .ok (.iload_n 3, 1) := by decide +kernel
theorem dX3_add_61 : decode cX3_add 61 = .ok (.iadd, 1) := by decide +kernel
theorem dX3_add_62 : decode cX3_add 62 = .ok (.putfield 36, 3) := by decide +kernel
theorem dX3_add_65 : decode cX3_add 65 = .ok (.iconst 1, 1) := by decide +kernel
theorem dX3_add_66 : decode cX3_add 66 = .ok (.ireturn, 1) := by decide +kernel
theorem dX3_holds_0 : decode cX3_holds 0 = .ok (.aload_n 0, 1) := by decide +kernel
theorem dX3_holds_1 : decode cX3_holds 1 = .ok (.getfield 23, 3) := by decide +kernel
theorem dX3_holds_4 : decode cX3_holds 4 = .ok (.invokestatic 43, 3) := by decide +kernel
theorem dX3_holds_7 : decode cX3_holds 7 = .ok (.ifCond .eq 23, 3) := by decide +kernel
theorem dX3_holds_10 : decode cX3_holds 10 = .ok (.aload_n 0, 1) := by decide +kernel
theorem dX3_holds_11 : decode cX3_holds 11 = .ok (.getfield 33, 3) := by decide +kernel
theorem dX3_holds_14 : decode cX3_holds 14 = .ok (.invokestatic 47, 3) := by decide +kernel
theorem dX3_holds_17 : decode cX3_holds 17 = .ok (.ifCond .eq 13, 3) := by decide +kernel
theorem dX3_holds_20 : decode cX3_holds 20 = .ok (.aload_n 0, 1) := by decide +kernel
theorem dX3_holds_21 : decode cX3_holds 21 = .ok (.getfield 36, 3) := by decide +kernel
theorem dX3_holds_24 : decode cX3_holds 24 = .ok (.invokestatic 47, 3) := by decide +kernel
theorem dX3_holds_27 : decode cX3_holds 27 = .ok (.ifCond .ne 5, 3) := by decide +kernel
theorem dX3_holds_30 : decode cX3_holds 30 = .ok (.iconst 0, 1) := by decide +kernel
theorem dX3_holds_31 : decode cX3_holds 31 = .ok (.ireturn, 1) := by decide +kernel
theorem dX3_holds_32 : decode cX3_holds 32 = .ok (.iconst 4, 1) := by decide +kernel
theorem dX3_holds_33 : decode cX3_holds 33 = .ok (.aload_n 0, 1) := by decide +kernel
theorem dX3_holds_34 : decode cX3_holds 34 = .ok (.getfield 36, 3) := by decide +kernel
theorem dX3_holds_37 : decode cX3_holds 37 = .ok (.invokestatic 19, 3) := by decide +kernel
theorem dX3_holds_40 : decode cX3_holds 40 = .ok (.iload_n 1, 1) := by decide +kernel
theorem dX3_holds_41 : decode cX3_holds 41 = .ok (.aload_n 0, 1) := by decide +kernel
theorem dX3_holds_42 : decode cX3_holds 42 = .ok (.getfield 33, 3) := by decide +kernel
theorem dX3_holds_45 : decode cX3_holds 45 = .ok (.invokestatic 50, 3) := by decide +kernel
theorem dX3_holds_48 : decode cX3_holds 48 = .ok (.invokestatic 53, 3) := by decide +kernel
theorem dX3_holds_51 : decode cX3_holds 51 = .ok (.istore_n 3, 1) := by decide +kernel
theorem dX3_holds_52 : decode cX3_holds 52 = .ok (.iload_n 2, 1) := by decide +kernel
theorem dX3_holds_53 : decode cX3_holds 53 = .ok (.aload_n 0, 1) := by decide +kernel
theorem dX3_holds_54 : decode cX3_holds 54 = .ok (.getfield 36, 3) := by decide +kernel
theorem dX3_holds_57 : decode cX3_holds 57 = .ok (.invokestatic 19, 3) := by decide +kernel
theorem dX3_holds_60 : decode cX3_holds 60 = .ok (.aload_n 0, 1) := by decide +kernel
theorem dX3_holds_61 : decode cX3_holds 61 = .ok (.getfield 23, 3) := by decide +kernel
theorem dX3_holds_64 : decode cX3_holds 64 = .ok (.aload_n 0, 1) := by decide +kernel
theorem dX3_holds_65 : decode cX3_holds 65 = .ok (.getfield 33, 3) := by decide +kernel
theorem dX3_holds_68 : decode cX3_holds 68 = .ok (.invokestatic 50, 3) := by decide +kernel
theorem dX3_holds_71 : decode cX3_holds 71 = .ok (.invokestatic 53, 3) := by decide +kernel
theorem dX3_holds_74 : decode cX3_holds 74 = .ok (.istore 4, 2) := by decide +kernel
theorem dX3_holds_76 : decode cX3_holds 76 = .ok (.aload_n 0, 1) := by decide +kernel
theorem dX3_holds_77 : decode cX3_holds 77 = .ok (.getfield 33, 3) := by decide +kernel
theorem dX3_holds_80 : decode cX3_holds 80 = .ok (.aload_n 0, 1) := by decide +kernel
theorem dX3_holds_81 : decode cX3_holds 81 = .ok (.iload_n 1, 1) := by decide +kernel
theorem dX3_holds_82 : decode cX3_holds 82 = .ok (.iload_n 2, 1) := by decide +kernel
theorem dX3_holds_83 : decode cX3_holds 83 = .ok (.iload_n 3, 1) := by decide +kernel
theorem dX3_holds_84 : decode cX3_holds 84 = .ok (.iload 4, 2) := by decide +kernel
theorem dX3_holds_86 : decode cX3_holds 86 = .ok (.invokevirtual 29, 3) := by decide +kernel
theorem dX3_holds_89 : decode cX3_holds 89 = .ok (.if_icmp .ne 7, 3) := by decide +kernel
theorem dX3_holds_92 : decode cX3_holds 92 = .ok (.iconst 1, 1) := by decide +kernel
theorem dX3_holds_93 : decode cX3_holds 93 = .ok (.goto 4, 3) := by decide +kernel
theorem dX3_holds_96 : decode cX3_holds 96 = .ok (.iconst 0, 1) := by decide +kernel
theorem dX3_holds_97 : decode cX3_holds 97 = .ok (.ireturn, 1) := by decide +kernel
theorem dX3_challenge_0 : decode cX3_challenge 0 = .ok (.iload_n 2, 1) := by decide +kernel
theorem dX3_challenge_1 : decode cX3_challenge 1 = .ok (.i2l, 1) := by decide +kernel
theorem dX3_challenge_2 : decode cX3_challenge 2 = .ok (.iload_n 1, 1) := by decide +kernel
theorem dX3_challenge_3 : decode cX3_challenge 3 = .ok (.i2l, 1) := by decide +kernel
theorem dX3_challenge_4 : decode cX3_challenge 4 = .ok (.invokestatic 9, 3) := by decide +kernel
theorem dX3_challenge_7 : decode cX3_challenge 7 = .ok (.aload_n 0, 1) := by decide +kernel
theorem dX3_challenge_8 : decode cX3_challenge 8 = .ok (.getfield 23, 3) := by decide +kernel
theorem dX3_challenge_11 : decode cX3_challenge 11 = .ok (.i2l, 1) := by decide +kernel
theorem dX3_challenge_12 : decode cX3_challenge 12 = .ok (.invokestatic 56, 3) := by decide +kernel
theorem dX3_challenge_15 : decode cX3_challenge 15 = .ok (.lstore 5, 2) := by decide +kernel
theorem dX3_challenge_17 : decode cX3_challenge 17 = .ok (.lload 5, 2) := by decide +kernel
theorem dX3_challenge_19 : decode cX3_challenge 19 = .ok (.iload_n 3, 1) := by decide +kernel
theorem dX3_challenge_20 : decode cX3_challenge 20 = .ok (.i2l, 1) := by decide +kernel
theorem dX3_challenge_21 : decode cX3_challenge 21 = .ok (.invokestatic 56, 3) := by decide +kernel
theorem dX3_challenge_24 : decode cX3_challenge 24 = .ok (.iload 4, 2) := by decide +kernel
theorem dX3_challenge_26 : decode cX3_challenge 26 = .ok (.i2l, 1) := by decide +kernel
theorem dX3_challenge_27 : decode cX3_challenge 27 = .ok (.invokestatic 56, 3) := by decide +kernel
theorem dX3_challenge_30 : decode cX3_challenge 30 = .ok (.invokestatic 15, 3) := by decide +kernel
theorem dX3_challenge_33 : decode cX3_challenge 33 = .ok (.ireturn, 1) := by decide +kernel
theorem dX3_canAdd_0 : decode cX3_canAdd 0 = .ok (.iload_n 0, 1) := by decide +kernel
theorem dX3_canAdd_1 : decode cX3_canAdd 1 = .ok (.i2l, 1) := by decide +kernel
theorem dX3_canAdd_2 : decode cX3_canAdd 2 = .ok (.iload_n 1, 1) := by decide +kernel
theorem dX3_canAdd_3 : decode cX3_canAdd 3 = .ok (.i2l, 1) := by decide +kernel
theorem dX3_canAdd_4 : decode cX3_canAdd 4 = .ok (.ladd, 1) := by decide +kernel
theorem dX3_canAdd_5 : decode cX3_canAdd 5 = .ok (.lstore_n 2, 1) := by decide +kernel
theorem dX3_canAdd_6 : decode cX3_canAdd 6 = .ok (.lload_n 2, 1) := by decide +kernel
theorem dX3_canAdd_7 : decode cX3_canAdd 7 = .ok (.lconst 0, 1) := by decide +kernel
theorem dX3_canAdd_8 : decode cX3_canAdd 8 = .ok (.lcmp, 1) := by decide +kernel
theorem dX3_canAdd_9 : decode cX3_canAdd 9 = .ok (.ifCond .lt 15, 3) := by decide +kernel
theorem dX3_canAdd_12 : decode cX3_canAdd 12 = .ok (.lload_n 2, 1) := by decide +kernel
theorem dX3_canAdd_13 : decode cX3_canAdd 13 = .ok (.ldc2_w 59, 3) := by decide +kernel
theorem dX3_canAdd_16 : decode cX3_canAdd 16 = .ok (.lcmp, 1) := by decide +kernel
theorem dX3_canAdd_17 : decode cX3_canAdd 17 = .ok (.ifCond .gt 7, 3) := by decide +kernel
theorem dX3_canAdd_20 : decode cX3_canAdd 20 = .ok (.iconst 1, 1) := by decide +kernel
theorem dX3_canAdd_21 : decode cX3_canAdd 21 = .ok (.goto 4, 3) := by decide +kernel
theorem dX3_canAdd_24 : decode cX3_canAdd 24 = .ok (.iconst 0, 1) := by decide +kernel
theorem dX3_canAdd_25 : decode cX3_canAdd 25 = .ok (.ireturn, 1) := by decide +kernel
end
section
theorem dX4_init_0 : decode cX4_init 0 = .ok (.aload_n 0, 1) := by decide +kernel
theorem dX4_init_1 : decode cX4_init 1 = .ok (.invokespecial 1, 3) := by decide +kernel
theorem dX4_init_4 : decode cX4_init 4 = .ok (.aload_n 0, 1) := by decide +kernel
theorem dX4_init_5 : decode cX4_init 5 = .ok (.bipush 17, 2) := by decide +kernel
theorem dX4_init_7 : decode cX4_init 7 = .ok (.anewarray 9, 3) := by decide +kernel
theorem dX4_init_10 : decode cX4_init 10 = .ok (.putfield 11, 3) := by decide +kernel
theorem dX4_init_13 : decode cX4_init 13 = .ok (.iconst 0, 1) := by decide +kernel
theorem dX4_init_14 : decode cX4_init 14 = .ok (.istore_n 1, 1) := by decide +kernel
theorem dX4_init_15 : decode cX4_init 15 = .ok (.iload_n 1, 1) := by decide +kernel
theorem dX4_init_16 : decode cX4_init 16 = .ok (.bipush 16, 2) := by decide +kernel
theorem dX4_init_18 : decode cX4_init 18 = .ok (.if_icmp .gt 22, 3) := by decide +kernel
theorem dX4_init_21 : decode cX4_init 21 = .ok (.aload_n 0, 1) := by decide +kernel
theorem dX4_init_22 : decode cX4_init 22 = .ok (.getfield 11, 3) := by decide +kernel
theorem dX4_init_25 : decode cX4_init 25 = .ok (.iload_n 1, 1) := by decide +kernel
theorem dX4_init_26 : decode cX4_init 26 = .ok (.new 9, 3) := by decide +kernel
theorem dX4_init_29 : decode cX4_init 29 = .ok (.dup, 1) := by decide +kernel
theorem dX4_init_30 : decode cX4_init 30 = .ok (.invokespecial 15, 3) := by decide +kernel
theorem dX4_init_33 : decode cX4_init 33 = .ok (.aastore, 1) := by decide +kernel
theorem dX4_init_34 : decode cX4_init 34 = .ok (.iinc 1 1, 3) := by decide +kernel
theorem dX4_init_37 : decode cX4_init 37 = .ok (.goto (-22), 3) := by decide +kernel
theorem dX4_init_40 : decode cX4_init 40 = .ok (.aload_n 0, 1) := by decide +kernel
theorem dX4_init_41 : decode cX4_init 41 = .ok (.bipush 17, 2) := by decide +kernel
theorem dX4_init_43 : decode cX4_init 43 = .ok (.newarray .int, 2) := by decide +kernel
theorem dX4_init_45 : decode cX4_init 45 = .ok (.putfield 16, 3) := by decide +kernel
theorem dX4_init_48 : decode cX4_init 48 = .ok (.aload_n 0, 1) := by decide +kernel
theorem dX4_init_49 : decode cX4_init 49 = .ok (.bipush 17, 2) := by decide +kernel
theorem dX4_init_51 : decode cX4_init 51 = .ok (.newarray .int, 2) := by decide +kernel
theorem dX4_init_53 : decode cX4_init 53 = .ok (.putfield 20, 3) := by decide +kernel
theorem dX4_init_56 : decode cX4_init 56 = .ok (.aload_n 0, 1) := by decide +kernel
theorem dX4_init_57 : decode cX4_init 57 = .ok (.new 23, 3) := by decide +kernel
theorem dX4_init_60 : decode cX4_init 60 = .ok (.dup, 1) := by decide +kernel
theorem dX4_init_61 : decode cX4_init 61 = .ok (.invokespecial 25, 3) := by decide +kernel
theorem dX4_init_64 : decode cX4_init 64 = .ok (.putfield 26, 3) := by decide +kernel
theorem dX4_init_67 : decode cX4_init 67 = .ok (.aload_n 0, 1) := by decide +kernel
theorem dX4_init_68 : decode cX4_init 68 = .ok (.new 30, 3) := by decide +kernel
theorem dX4_init_71 : decode cX4_init 71 = .ok (.dup, 1) := by decide +kernel
theorem dX4_init_72 : decode cX4_init 72 = .ok (.invokespecial 32, 3) := by decide +kernel
theorem dX4_init_75 : decode cX4_init 75 = .ok (.putfield 33, 3) := by decide +kernel
theorem dX4_init_78 : decode cX4_init 78 = .ok (.return_, 1) := by decide +kernel
theorem dX4_begin_0 : decode cX4_begin 0 = .ok (.iload_n 1, 1) := by decide +kernel
theorem dX4_begin_1 : decode cX4_begin 1 = .ok (.iconst 1, 1) := by decide +kernel
theorem dX4_begin_2 : decode cX4_begin 2 = .ok (.if_icmp .lt 19, 3) := by decide +kernel
theorem dX4_begin_5 : decode cX4_begin 5 = .ok (.iload_n 1, 1) := by decide +kernel
theorem dX4_begin_6 : decode cX4_begin 6 = .ok (.bipush 16, 2) := by decide +kernel
theorem dX4_begin_8 : decode cX4_begin 8 = .ok (.if_icmp .gt 13, 3) := by decide +kernel
theorem dX4_begin_11 : decode cX4_begin 11 = .ok (.iload_n 2, 1) := by decide +kernel
theorem dX4_begin_12 : decode cX4_begin 12 = .ok (.iconst 1, 1) := by decide +kernel
theorem dX4_begin_13 : decode cX4_begin 13 = .ok (.if_icmp .lt 8, 3) := by decide +kernel
theorem dX4_begin_16 : decode cX4_begin 16 = .ok (.iload_n 2, 1) := by decide +kernel
theorem dX4_begin_17 : decode cX4_begin 17 = .ok (.iload_n 1, 1) := by decide +kernel
theorem dX4_begin_18 : decode cX4_begin 18 = .ok (.if_icmp .le 13, 3) := by decide +kernel
theorem dX4_begin_21 : decode cX4_begin 21 = .ok (.new 37, 3) := by decide +kernel
theorem dX4_begin_24 : decode cX4_begin 24 = .ok (.dup, 1) := by decide +kernel
theorem dX4_begin_25 : decode cX4_begin 25 = .ok (.ldc 39, 2) := by decide +kernel
theorem dX4_begin_27 : decode cX4_begin 27 = .ok (.invokespecial 41, 3) := by decide +kernel
theorem dX4_begin_30 : decode cX4_begin 30 = .ok (.athrow, 1) := by decide +kernel
theorem dX4_begin_31 : decode cX4_begin 31 = .ok (.aload_n 0, 1) := by decide +kernel
theorem dX4_begin_32 : decode cX4_begin 32 = .ok (.iload_n 1, 1) := by decide +kernel
theorem dX4_begin_33 : decode cX4_begin 33 = .ok (.putfield 44, 3) := by decide +kernel
theorem dX4_begin_36 : decode cX4_begin 36 = .ok (.aload_n 0, 1) := by decide +kernel
theorem dX4_begin_37 : decode cX4_begin 37 = .ok (.iload_n 2, 1) := by decide +kernel
theorem dX4_begin_38 : decode cX4_begin 38 = .ok (.putfield 48, 3) := by decide +kernel
theorem dX4_begin_41 : decode cX4_begin 41 = .ok (.aload_n 0, 1) := by decide +kernel
theorem dX4_begin_42 : decode cX4_begin 42 = .ok (.iconst 0, 1) := by decide +kernel
theorem dX4_begin_43 : decode cX4_begin 43 = .ok (.putfield 51, 3) := by decide +kernel
theorem dX4_begin_46 : decode cX4_begin 46 = .ok (.aload_n 0, 1) := by decide +kernel
theorem dX4_begin_47 : decode cX4_begin 47 = .ok (.iconst 0, 1) := by decide +kernel
theorem dX4_begin_48 : decode cX4_begin 48 = .ok (.putfield 55, 3) := by decide +kernel
theorem dX4_begin_51 : decode cX4_begin 51 = .ok (.iconst 1, 1) := by decide +kernel
theorem dX4_begin_52 : decode cX4_begin 52 = .ok (.istore_n 3, 1) := by decide +kernel
theorem dX4_begin_53 : decode cX4_begin 53 = .ok (.iload_n 3, 1) := by decide +kernel
theorem dX4_begin_54 : decode cX4_begin 54 = .ok (.bipush 16, 2) := by decide +kernel
theorem dX4_begin_56 : decode cX4_begin 56 = .ok (.if_icmp .gt 18, 3) := by decide +kernel
theorem dX4_begin_59 : decode cX4_begin 59 = .ok (.aload_n 0, 1) := by decide +kernel
theorem dX4_begin_60 : decode cX4_begin 60 = .ok (.getfield 11, 3) := by decide +kernel
theorem dX4_begin_63 : decode cX4_begin 63 = .ok (.iload_n 3, 1) := by decide +kernel
theorem dX4_begin_64 : decode cX4_begin 64 = .ok (.aaload, 1) := by decide +kernel
theorem dX4_begin_65 : decode cX4_begin 65 = .ok (.invokevirtual 58, 3) := by decide +kernel
theorem dX4_begin_68 : decode cX4_begin 68 = .ok (.iinc 3 1, 3) := by decide +kernel
theorem dX4_begin_71 : decode cX4_begin 71 = .ok (.goto (-18), 3) := by decide +kernel
theorem dX4_begin_74 : decode cX4_begin 74 = .ok (.aload_n 0, 1) := by decide +kernel
theorem dX4_begin_75 : decode cX4_begin 75 = .ok (.getfield 26, 3) := by decide +kernel
theorem dX4_begin_78 : decode cX4_begin 78 = .ok (.invokevirtual 61, 3) := by decide +kernel
theorem dX4_begin_81 : decode cX4_begin 81 = .ok (.return_, 1) := by decide +kernel
theorem dX4_deal_0 : decode cX4_deal 0 = .ok (.aload_n 0, 1) := by decide +kernel
theorem dX4_deal_1 : decode cX4_deal 1 = .ok (.iload_n 1, 1) := by decide +kernel
theorem dX4_deal_2 : decode cX4_deal 2 = .ok (.invokevirtual 62, 3) := by decide +kernel
theorem dX4_deal_5 : decode cX4_deal 5 = .ok (.aload_n 0, 1) := by decide +kernel
theorem dX4_deal_6 : decode cX4_deal 6 = .ok (.invokevirtual 66, 3) := by decide +kernel
theorem dX4_deal_9 : decode cX4_deal 9 = .ok (.aload_n 0, 1) := by decide +kernel
theorem dX4_deal_10 : decode cX4_deal 10 = .ok (.getfield 11, 3) := by decide +kernel
theorem dX4_deal_13 : decode cX4_deal 13 = .ok (.iload_n 1, 1) := by decide +kernel
theorem dX4_deal_14 : decode cX4_deal 14 = .ok (.aaload, 1) := by decide +kernel
theorem dX4_deal_15 : decode cX4_deal 15 = .ok (.getfield 69, 3) := by decide +kernel
theorem dX4_deal_18 : decode cX4_deal 18 = .ok (.ifCond .eq 13, 3) := by decide +kernel
theorem dX4_deal_21 : decode cX4_deal 21 = .ok (.new 72, 3) := by decide +kernel
theorem dX4_deal_24 : decode cX4_deal 24 = .ok (.dup, 1) := by decide +kernel
theorem dX4_deal_25 : decode cX4_deal 25 = .ok (.ldc 74, 2) := by decide +kernel
theorem dX4_deal_27 : decode cX4_deal 27 = .ok (.invokespecial 76, 3) := by decide +kernel
theorem dX4_deal_30 : decode cX4_deal 30 = .ok (.athrow, 1) := by decide +kernel
theorem dX4_deal_31 : decode cX4_deal 31 = .ok (.aload_n 0, 1) := by decide +kernel
theorem dX4_deal_32 : decode cX4_deal 32 = .ok (.getfield 11, 3) := by decide +kernel
theorem dX4_deal_35 : decode cX4_deal 35 = .ok (.iload_n 1, 1) := by decide +kernel
theorem dX4_deal_36 : decode cX4_deal 36 = .ok (.aaload, 1) := by decide +kernel
theorem dX4_deal_37 : decode cX4_deal 37 = .ok (.iload_n 1, 1) := by decide +kernel
theorem dX4_deal_38 : decode cX4_deal 38 = .ok (.lload_n 2, 1) := by decide +kernel
theorem dX4_deal_39 : decode cX4_deal 39 = .ok (.aload_n 0, 1) := by decide +kernel
theorem dX4_deal_40 : decode cX4_deal 40 = .ok (.getfield 44, 3) := by decide +kernel
theorem dX4_deal_43 : decode cX4_deal 43 = .ok (.aload_n 0, 1) := by decide +kernel
theorem dX4_deal_44 : decode cX4_deal 44 = .ok (.getfield 48, 3) := by decide +kernel
theorem dX4_deal_47 : decode cX4_deal 47 = .ok (.invokevirtual 77, 3) := by decide +kernel
theorem dX4_deal_50 : decode cX4_deal 50 = .ok (.return_, 1) := by decide +kernel
theorem dX4_spoil_0 : decode cX4_spoil 0 = .ok (.aload_n 0, 1) := by decide +kernel
theorem dX4_spoil_1 : decode cX4_spoil 1 = .ok (.iload_n 1, 1) := by decide +kernel
theorem dX4_spoil_2 : decode cX4_spoil 2 = .ok (.invokevirtual 62, 3) := by decide +kernel
theorem dX4_spoil_5 : decode cX4_spoil 5 = .ok (.aload_n 0, 1) := by decide +kernel
theorem dX4_spoil_6 : decode cX4_spoil 6 = .ok (.iload_n 2, 1) := by decide +kernel
theorem dX4_spoil_7 : decode cX4_spoil 7 = .ok (.invokevirtual 62, 3) := by decide +kernel
theorem dX4_spoil_10 : decode cX4_spoil 10 = .ok (.aload_n 0, 1) := by decide +kernel
theorem dX4_spoil_11 : decode cX4_spoil 11 = .ok (.iload_n 3, 1) := by decide +kernel
theorem dX4_spoil_12 : decode cX4_spoil 12 = .ok (.invokevirtual 81, 3) := by decide +kernel
theorem dX4_spoil_15 : decode cX4_spoil 15 = .ok (.aload_n 0, 1) := by decide +kernel
theorem dX4_spoil_16 : decode cX4_spoil 16 = .ok (.iload_n 1, 1) := by decide +kernel
theorem dX4_spoil_17 : decode cX4_spoil 17 = .ok (.invokevirtual 84, 3) := by decide +kernel
theorem dX4_spoil_20 : decode cX4_spoil 20 = .ok (.aload_n 0, 1) := by decide +kernel
theorem dX4_spoil_21 : decode cX4_spoil 21 = .ok (.invokevirtual 66, 3) := by decide +kernel
theorem dX4_spoil_24 : decode cX4_spoil 24 = .ok (.aload_n 0, 1) := by decide +kernel
theorem dX4_spoil_25 : decode cX4_spoil 25 = .ok (.getfield 11, 3) := by decide +kernel
theorem dX4_spoil_28 : decode cX4_spoil 28 = .ok (.iload_n 1, 1) := by decide +kernel
theorem dX4_spoil_29 : decode cX4_spoil 29 = .ok (.aaload, 1) := by decide +kernel
theorem dX4_spoil_30 : decode cX4_spoil 30 = .ok (.iload_n 2, 1) := by decide +kernel
theorem dX4_spoil_31 : decode cX4_spoil 31 = .ok (.iload_n 3, 1) := by decide +kernel
theorem dX4_spoil_32 : decode cX4_spoil 32 = .ok (.invokevirtual 87, 3) := by decide +kernel
theorem dX4_spoil_35 : decode cX4_spoil 35 = .ok (.ireturn, 1) := by decide +kernel
theorem dX4_commitment_0 : decode cX4_commitment 0 = .ok (.aload_n 0, 1) := by decide +kernel
theorem dX4_commitment_1 : decode cX4_commitment 1 = .ok (.iload_n 1, 1) := by decide +kernel
theorem dX4_commitment_2 : decode cX4_commitment 2 = .ok (.invokevirtual 62, 3) := by decide +kernel
theorem dX4_commitment_5 : decode cX4_commitment 5 = .ok (.iload_n 2, 1) := by decide +kernel
theorem dX4_commitment_6 : decode cX4_commitment 6 = .ok (.ifCond .lt 11, 3) := by decide +kernel
theorem dX4_commitment_9 : decode cX4_commitment 9 = .ok (.iload_n 2, 1) := by decide +kernel
theorem dX4_commitment_10 : decode cX4_commitment 10 = .ok (.aload_n 0, 1) := by decide +kernel
theorem dX4_commitment_11 : decode cX4_commitment 11 = .ok (.getfield 48, 3) := by decide +kernel
theorem dX4_commitment_14 : decode cX4_commitment 14 = .ok (.if_icmp .lt 13, 3) := by decide +kernel
theorem dX4_commitment_17 : decode cX4_commitment 17 = .ok (.new 37, 3) := by decide +kernel
theorem dX4_commitment_20 : decode cX4_commitment 20 = .ok (.dup, 1) := by decide +kernel
theorem dX4_commitment_21 : decode cX4_commitment 21 = .ok (.ldc 91, 2) := by decide +kernel
theorem dX4_commitment_23 : decode cX4_commitment 23 = .ok (.invokespecial 41, 3) := by decide +kernel
theorem dX4_commitment_26 : decode cX4_commitment 26 = .ok (.athrow, 1) := by decide +kernel
theorem dX4_commitment_27 : decode cX4_commitment 27 = .ok (.aload_n 0, 1) := by decide +kernel
theorem dX4_commitment_28 : decode cX4_commitment 28 = .ok (.iload_n 1, 1) := by decide +kernel
theorem dX4_commitment_29 : decode cX4_commitment 29 = .ok (.invokevirtual 84, 3) := by decide +kernel
theorem dX4_commitment_32 : decode cX4_commitment 32 = .ok (.aload_n 0, 1) := by decide +kernel
theorem dX4_commitment_33 : decode cX4_commitment 33 = .ok (.getfield 11, 3) := by decide +kernel
theorem dX4_commitment_36 : decode cX4_commitment 36 = .ok (.iload_n 1, 1) := by decide +kernel
theorem dX4_commitment_37 : decode cX4_commitment 37 = .ok (.aaload, 1) := by decide +kernel
theorem dX4_commitment_38 : decode cX4_commitment 38 = .ok (.getfield 93, 3) := by decide +kernel
theorem dX4_commitment_41 : decode cX4_commitment 41 = .ok (.iload_n 2, 1) := by decide +kernel
theorem dX4_commitment_42 : decode cX4_commitment 42 = .ok (.iaload, 1) := by decide +kernel
theorem dX4_commitment_43 : decode cX4_commitment 43 = .ok (.ireturn, 1) := by decide +kernel
theorem dX4_share_0 : decode cX4_share 0 = .ok (.aload_n 0, 1) := by decide +kernel
theorem dX4_share_1 : decode cX4_share 1 = .ok (.iload_n 1, 1) := by decide +kernel
theorem dX4_share_2 : decode cX4_share 2 = .ok (.invokevirtual 62, 3) := by decide +kernel
theorem dX4_share_5 : decode cX4_share 5 = .ok (.aload_n 0, 1) := by decide +kernel
theorem dX4_share_6 : decode cX4_share 6 = .ok (.iload_n 2, 1) := by decide +kernel
theorem dX4_share_7 : decode cX4_share 7 = .ok (.invokevirtual 62, 3) := by decide +kernel
theorem dX4_share_10 : decode cX4_share 10 = .ok (.aload_n 0, 1) := by decide +kernel
theorem dX4_share_11 : decode cX4_share 11 = .ok (.iload_n 1, 1) := by decide +kernel
theorem dX4_share_12 : decode cX4_share 12 = .ok (.invokevirtual 84, 3) := by decide +kernel
theorem dX4_share_15 : decode cX4_share 15 = .ok (.aload_n 0, 1) := by decide +kernel
theorem dX4_share_16 : decode cX4_share 16 = .ok (.getfield 11, 3) := by decide +kernel
theorem dX4_share_19 : decode cX4_share 19 = .ok (.iload_n 1, 1) := by decide +kernel
theorem dX4_share_20 : decode cX4_share 20 = .ok (.aaload, 1) := by decide +kernel
theorem dX4_share_21 : decode cX4_share 21 = .ok (.getfield 96, 3) := by decide +kernel
theorem dX4_share_24 : decode cX4_share 24 = .ok (.iload_n 2, 1) := by decide +kernel
theorem dX4_share_25 : decode cX4_share 25 = .ok (.iaload, 1) := by decide +kernel
theorem dX4_share_26 : decode cX4_share 26 = .ok (.ireturn, 1) := by decide +kernel
theorem dX4_isRight_0 : decode cX4_isRight 0 = .ok (.aload_n 0, 1) := by decide +kernel
theorem dX4_isRight_1 : decode cX4_isRight 1 = .ok (.iload_n 1, 1) := by decide +kernel
theorem dX4_isRight_2 : decode cX4_isRight 2 = .ok (.invokevirtual 62, 3) := by decide +kernel
theorem dX4_isRight_5 : decode cX4_isRight 5 = .ok (.aload_n 0, 1) := by decide +kernel
theorem dX4_isRight_6 : decode cX4_isRight 6 = .ok (.iload_n 2, 1) := by decide +kernel
theorem dX4_isRight_7 : decode cX4_isRight 7 = .ok (.invokevirtual 62, 3) := by decide +kernel
theorem dX4_isRight_10 : decode cX4_isRight 10 = .ok (.aload_n 0, 1) := by decide +kernel
theorem dX4_isRight_11 : decode cX4_isRight 11 = .ok (.iload_n 3, 1) := by decide +kernel
theorem dX4_isRight_12 : decode cX4_isRight 12 = .ok (.invokevirtual 81, 3) := by decide +kernel
theorem dX4_isRight_15 : decode cX4_isRight 15 = .ok (.aload_n 0, 1) := by decide +kernel
theorem dX4_isRight_16 : decode cX4_isRight 16 = .ok (.iload_n 1, 1) := by decide +kernel
theorem dX4_isRight_17 : decode cX4_isRight 17 = .ok (.invokevirtual 84, 3) := by decide +kernel
theorem dX4_isRight_20 : decode cX4_isRight 20 = .ok (.aload_n 0, 1) := by decide +kernel
theorem dX4_isRight_21 : decode cX4_isRight 21 = .ok (.getfield 11, 3) := by decide +kernel
theorem dX4_isRight_24 : decode cX4_isRight 24 = .ok (.iload_n 1, 1) := by decide +kernel
theorem dX4_isRight_25 : decode cX4_isRight 25 = .ok (.aaload, 1) := by decide +kernel
theorem dX4_isRight_26 : decode cX4_isRight 26 = .ok (.iload_n 2, 1) := by decide +kernel
theorem dX4_isRight_27 : decode cX4_isRight 27 = .ok (.iload_n 3, 1) := by decide +kernel
theorem dX4_isRight_28 : decode cX4_isRight 28 = .ok (.invokevirtual 99, 3) := by decide +kernel
theorem dX4_isRight_31 : decode cX4_isRight 31 = .ok (.ireturn, 1) := by decide +kernel
theorem dX4_complain_0 : decode cX4_complain 0 = .ok (.aload_n 0, 1) := by decide +kernel
theorem dX4_complain_1 : decode cX4_complain 1 = .ok (.invokevirtual 66, 3) := by decide +kernel
theorem dX4_complain_4 : decode cX4_complain 4 = .ok (.iconst 1, 1) := by decide +kernel
theorem dX4_complain_5 : decode cX4_complain 5 = .ok (.istore_n 1, 1) := by decide +kernel
theorem dX4_complain_6 : decode cX4_complain 6 = .ok (.iload_n 1, 1) := by decide +kernel
theorem dX4_complain_7 : decode cX4_complain 7 = .ok (.aload_n 0, 1) := by decide +kernel
theorem dX4_complain_8 : decode cX4_complain 8 = .ok (.getfield 44, 3) := by decide +kernel
theorem dX4_complain_11 : decode cX4_complain 11 = .ok (.if_icmp .gt 22, 3) := by decide +kernel
theorem dX4_complain_14 : decode cX4_complain 14 = .ok (.aload_n 0, 1) := by decide +kernel
theorem dX4_complain_15 : decode cX4_complain 15 = .ok (.getfield 11, 3) := by decide +kernel
theorem dX4_complain_18 : decode cX4_complain 18 = .ok (.iload_n 1, 1) := by decide +kernel
theorem dX4_complain_19 : decode cX4_complain 19 = .ok (.aaload, 1) := by decide +kernel
theorem dX4_complain_20 : decode cX4_complain 20 = .ok (.aload_n 0, 1) := by decide +kernel
theorem dX4_complain_21 : decode cX4_complain 21 = .ok (.getfield 44, 3) := by decide +kernel
theorem dX4_complain_24 : decode cX4_complain 24 = .ok (.invokevirtual 103, 3) := by decide +kernel
theorem dX4_complain_27 : decode cX4_complain 27 = .ok (.iinc 1 1, 3) := by decide +kernel
theorem dX4_complain_30 : decode cX4_complain 30 = .ok (.goto (-24), 3) := by decide +kernel
theorem dX4_complain_33 : decode cX4_complain 33 = .ok (.aload_n 0, 1) := by decide +kernel
theorem dX4_complain_34 : decode cX4_complain 34 = .ok (.invokevirtual 106, 3) := by decide +kernel
theorem dX4_complain_37 : decode cX4_complain 37 = .ok (.ireturn, 1) := by decide +kernel
theorem dX4_answer_0 : decode cX4_answer 0 = .ok (.aload_n 0, 1) := by decide +kernel
theorem dX4_answer_1 : decode cX4_answer 1 = .ok (.iload_n 1, 1) := by decide +kernel
theorem dX4_answer_2 : decode cX4_answer 2 = .ok (.invokevirtual 62, 3) := by decide +kernel
theorem dX4_answer_5 : decode cX4_answer 5 = .ok (.aload_n 0, 1) := by decide +kernel
theorem dX4_answer_6 : decode cX4_answer 6 = .ok (.iload_n 2, 1) := by decide +kernel
theorem dX4_answer_7 : decode cX4_answer 7 = .ok (.invokevirtual 62, 3) := by decide +kernel
theorem dX4_answer_10 : decode cX4_answer 10 = .ok (.aload_n 0, 1) := by decide +kernel
theorem dX4_answer_11 : decode cX4_answer 11 = .ok (.iload_n 3, 1) := by decide +kernel
theorem dX4_answer_12 : decode cX4_answer 12 = .ok (.invokevirtual 81, 3) := by decide +kernel
theorem dX4_answer_15 : decode cX4_answer 15 = .ok (.aload_n 0, 1) := by decide +kernel
theorem dX4_answer_16 : decode cX4_answer 16 = .ok (.invokevirtual 66, 3) := by decide +kernel
theorem dX4_answer_19 : decode cX4_answer 19 = .ok (.aload_n 0, 1) := by decide +kernel
theorem dX4_answer_20 : decode cX4_answer 20 = .ok (.getfield 11, 3) := by decide +kernel
theorem dX4_answer_23 : decode cX4_answer 23 = .ok (.iload_n 1, 1) := by decide +kernel
theorem dX4_answer_24 : decode cX4_answer 24 = .ok (.aaload, 1) := by decide +kernel
theorem dX4_answer_25 : decode cX4_answer 25 = .ok (.iload_n 2, 1) := by decide +kernel
theorem dX4_answer_26 : decode cX4_answer 26 = .ok (.invokevirtual 110, 3) := by decide +kernel
theorem dX4_answer_29 : decode cX4_answer 29 = .ok (.ifCond .ne 13, 3) := by decide +kernel
theorem dX4_answer_32 : decode cX4_answer 32 = .ok (.new 72, 3) := by decide +kernel
theorem dX4_answer_35 : decode cX4_answer 35 = .ok (.dup, 1) := by decide +kernel
theorem dX4_answer_36 : decode cX4_answer 36 = .ok (.ldc 114, 2) := by decide +kernel
theorem dX4_answer_38 : decode cX4_answer 38 = .ok (.invokespecial 76, 3) := by decide +kernel
theorem dX4_answer_41 : decode cX4_answer 41 = .ok (.athrow, 1) := by decide +kernel
theorem dX4_answer_42 : decode cX4_answer 42 = .ok (.aload_n 0, 1) := by decide +kernel
theorem dX4_answer_43 : decode cX4_answer 43 = .ok (.getfield 11, 3) := by decide +kernel
theorem dX4_answer_46 : decode cX4_answer 46 = .ok (.iload_n 1, 1) := by decide +kernel
theorem dX4_answer_47 : decode cX4_answer 47 = .ok (.aaload, 1) := by decide +kernel
theorem dX4_answer_48 : decode cX4_answer 48 = .ok (.iload_n 2, 1) := by decide +kernel
theorem dX4_answer_49 : decode cX4_answer 49 = .ok (.iload_n 3, 1) := by decide +kernel
theorem dX4_answer_50 : decode cX4_answer 50 = .ok (.invokevirtual 116, 3) := by decide +kernel
theorem dX4_answer_53 : decode cX4_answer 53 = .ok (.ireturn, 1) := by decide +kernel
theorem dX4_close_0 : decode cX4_close 0 = .ok (.aload_n 0, 1) := by decide +kernel
theorem dX4_close_1 : decode cX4_close 1 = .ok (.invokevirtual 66, 3) := by decide +kernel
theorem dX4_close_4 : decode cX4_close 4 = .ok (.aload_n 0, 1) := by decide +kernel
theorem dX4_close_5 : decode cX4_close 5 = .ok (.invokevirtual 119, 3) := by decide +kernel
theorem dX4_close_8 : decode cX4_close 8 = .ok (.istore_n 3, 1) := by decide +kernel
theorem dX4_close_9 : decode cX4_close 9 = .ok (.iload_n 3, 1) := by decide +kernel
theorem dX4_close_10 : decode cX4_close 10 = .ok (.ifCond .ne 13, 3) := by decide +kernel
theorem dX4_close_13 : decode cX4_close 13 = .ok (.new 72, 3) := by decide +kernel
theorem dX4_close_16 : decode cX4_close 16 = .ok (.dup, 1) := by decide +kernel
theorem dX4_close_17 : decode cX4_close 17 = .ok (.ldc 122, 2) := by decide +kernel
theorem dX4_close_19 : decode cX4_close 19 = .ok (.invokespecial 76, 3) := by decide +kernel
theorem dX4_close_22 : decode cX4_close 22 = .ok (.athrow, 1) := by decide +kernel
theorem dX4_close_23 : decode cX4_close 23 = .ok (.aload_n 0, 1) := by decide +kernel
theorem dX4_close_24 : decode cX4_close 24 = .ok (.iload_n 3, 1) := by decide +kernel
theorem dX4_close_25 : decode cX4_close 25 = .ok (.putfield 55, 3) := by decide +kernel
theorem dX4_close_28 : decode cX4_close 28 = .ok (.aload_n 0, 1) := by decide +kernel
theorem dX4_close_29 : decode cX4_close 29 = .ok (.invokevirtual 124, 3) := by decide +kernel
theorem dX4_close_32 : decode cX4_close 32 = .ok (.aload_n 0, 1) := by decide +kernel
theorem dX4_close_33 : decode cX4_close 33 = .ok (.getfield 26, 3) := by decide +kernel
theorem dX4_close_36 : decode cX4_close 36 = .ok (.lload_n 1, 1) := by decide +kernel
theorem dX4_close_37 : decode cX4_close 37 = .ok (.invokevirtual 127, 3) := by decide +kernel
theorem dX4_close_40 : decode cX4_close 40 = .ok (.aload_n 0, 1) := by decide +kernel
theorem dX4_close_41 : decode cX4_close 41 = .ok (.iconst 1, 1) := by decide +kernel
theorem dX4_close_42 : decode cX4_close 42 = .ok (.putfield 51, 3) := by decide +kernel
theorem dX4_close_45 : decode cX4_close 45 = .ok (.aload_n 0, 1) := by decide +kernel
theorem dX4_close_46 : decode cX4_close 46 = .ok (.getfield 55, 3) := by decide +kernel
theorem dX4_close_49 : decode cX4_close 49 = .ok (.invokestatic 131, 3) := by decide +kernel
theorem dX4_close_52 : decode cX4_close 52 = .ok (.ireturn, 1) := by decide +kernel
theorem dX4_key_0 : decode cX4_key 0 = .ok (.iload_n 1, 1) := by decide +kernel
theorem dX4_key_1 : decode cX4_key 1 = .ok (.ifCond .ne 12, 3) := by decide +kernel
theorem dX4_key_4 : decode cX4_key 4 = .ok (.iload_n 2, 1) := by decide +kernel
theorem dX4_key_5 : decode cX4_key 5 = .ok (.iconst 1, 1) := by decide +kernel
theorem dX4_key_6 : decode cX4_key 6 = .ok (.if_icmp .ne 7, 3) := by decide +kernel
theorem dX4_key_9 : decode cX4_key 9 = .ok (.iconst 1, 1) := by decide +kernel
theorem dX4_key_10 : decode cX4_key 10 = .ok (.goto 4, 3) := by decide +kernel
theorem dX4_key_13 : decode cX4_key 13 = .ok (.iconst 0, 1) := by decide +kernel
theorem dX4_key_14 : decode cX4_key 14 = .ok (.istore_n 3, 1) := by decide +kernel
theorem dX4_key_15 : decode cX4_key 15 = .ok (.iload_n 3, 1) := by decide +kernel
theorem dX4_key_16 : decode cX4_key 16 = .ok (.ifCond .ne 14, 3) := by decide +kernel
theorem dX4_key_19 : decode cX4_key 19 = .ok (.aload_n 0, 1) := by decide +kernel
theorem dX4_key_20 : decode cX4_key 20 = .ok (.iload_n 1, 1) := by decide +kernel
theorem dX4_key_21 : decode cX4_key 21 = .ok (.invokevirtual 62, 3) := by decide +kernel
theorem dX4_key_24 : decode cX4_key 24 = .ok (.aload_n 0, 1) := by decide +kernel
theorem dX4_key_25 : decode cX4_key 25 = .ok (.iload_n 2, 1) := by decide +kernel
theorem dX4_key_26 : decode cX4_key 26 = .ok (.iconst 1, 1) := by decide +kernel
theorem dX4_key_27 : decode cX4_key 27 = .ok (.invokevirtual 137, 3) := by decide +kernel
theorem dX4_key_30 : decode cX4_key 30 = .ok (.aload_n 0, 1) := by decide +kernel
theorem dX4_key_31 : decode cX4_key 31 = .ok (.invokevirtual 141, 3) := by decide +kernel
theorem dX4_key_34 : decode cX4_key 34 = .ok (.iload_n 3, 1) := by decide +kernel
theorem dX4_key_35 : decode cX4_key 35 = .ok (.ifCond .eq 8, 3) := by decide +kernel
theorem dX4_key_38 : decode cX4_key 38 = .ok (.aload_n 0, 1) := by decide +kernel
theorem dX4_key_39 : decode cX4_key 39 = .ok (.getfield 144, 3) := by decide +kernel
theorem dX4_key_42 : decode cX4_key 42 = .ok (.ireturn, 1) := by decide +kernel
theorem dX4_key_43 : decode cX4_key 43 = .ok (.iload_n 2, 1) := by decide +kernel
theorem dX4_key_44 : decode cX4_key 44 = .ok (.ifCond .ne 12, 3) := by decide +kernel
theorem dX4_key_47 : decode cX4_key 47 = .ok (.aload_n 0, 1) := by decide +kernel
theorem dX4_key_48 : decode cX4_key 48 = .ok (.getfield 16, 3) := by decide +kernel
theorem dX4_key_51 : decode cX4_key 51 = .ok (.iload_n 1, 1) := by decide +kernel
theorem dX4_key_52 : decode cX4_key 52 = .ok (.iaload, 1) := by decide +kernel
theorem dX4_key_53 : decode cX4_key 53 = .ok (.goto 9, 3) := by decide +kernel
theorem dX4_key_56 : decode cX4_key 56 = .ok (.aload_n 0, 1) := by decide +kernel
theorem dX4_key_57 : decode cX4_key 57 = .ok (.getfield 20, 3) := by decide +kernel
theorem dX4_key_60 : decode cX4_key 60 = .ok (.iload_n 1, 1) := by decide +kernel
theorem dX4_key_61 : decode cX4_key 61 = .ok (.iaload, 1) := by decide +kernel
theorem dX4_key_62 : decode cX4_key 62 = .ok (.ireturn, 1) := by decide +kernel
theorem dX4_round_0 : decode cX4_round 0 = .ok (.aload_n 0, 1) := by decide +kernel
theorem dX4_round_1 : decode cX4_round 1 = .ok (.invokevirtual 141, 3) := by decide +kernel
theorem dX4_round_4 : decode cX4_round 4 = .ok (.iload_n 1, 1) := by decide +kernel
theorem dX4_round_5 : decode cX4_round 5 = .ok (.tableswitch 68 0 3 #[31, 41, 49, 60], 31) := by decide +kernel
theorem dX4_round_36 : decode cX4_round 36 = .ok (.aload_n 0, 1) := by decide +kernel
theorem dX4_round_37 : decode cX4_round 37 = .ok (.getfield 26, 3) := by decide +kernel
theorem dX4_round_40 : decode cX4_round 40 = .ok (.getfield 147, 3) := by decide +kernel
theorem dX4_round_43 : decode cX4_round 43 = .ok (.iconst 1, 1) := by decide +kernel
theorem dX4_round_44 : decode cX4_round 44 = .ok (.iadd, 1) := by decide +kernel
theorem dX4_round_45 : decode cX4_round 45 = .ok (.ireturn, 1) := by decide +kernel
theorem dX4_round_46 : decode cX4_round 46 = .ok (.aload_n 0, 1) := by decide +kernel
theorem dX4_round_47 : decode cX4_round 47 = .ok (.getfield 26, 3) := by decide +kernel
theorem dX4_round_50 : decode cX4_round 50 = .ok (.getfield 150, 3) := by decide +kernel
theorem dX4_round_53 : decode cX4_round 53 = .ok (.ireturn, 1) := by decide +kernel
theorem dX4_round_54 : decode cX4_round 54 = .ok (.aload_n 0, 1) := by decide +kernel
theorem dX4_round_55 : decode cX4_round 55 = .ok (.getfield 26, 3) := by decide +kernel
theorem dX4_round_58 : decode cX4_round 58 = .ok (.getfield 153, 3) := by decide +kernel
theorem dX4_round_61 : decode cX4_round 61 = .ok (.invokestatic 131, 3) := by decide +kernel
theorem dX4_round_64 : decode cX4_round 64 = .ok (.ireturn, 1) := by decide +kernel
theorem dX4_round_65 : decode cX4_round 65 = .ok (.aload_n 0, 1) := by decide +kernel
theorem dX4_round_66 : decode cX4_round 66 = .ok (.getfield 26, 3) := by decide +kernel
theorem dX4_round_69 : decode cX4_round 69 = .ok (.getfield 153, 3) := by decide +kernel
theorem dX4_round_72 : decode cX4_round 72 = .ok (.ireturn, 1) := by decide +kernel
theorem dX4_round_73 : decode cX4_round 73 = .ok (.new 37, 3) := by decide +kernel
theorem dX4_round_76 : decode cX4_round 76 = .ok (.dup, 1) := by decide +kernel
theorem dX4_round_77 : decode cX4_round 77 = .ok (.ldc 156, 2) := by decide +kernel
theorem dX4_round_79 : decode cX4_round 79 = .ok (.invokespecial 41, 3) := by decide +kernel
theorem dX4_round_82 : decode cX4_round 82 = .ok (.athrow, 1) := by decide +kernel
theorem dX4_says_0 : decode cX4_says 0 = .ok (.aload_n 0, 1) := by decide +kernel
theorem dX4_says_1 : decode cX4_says 1 = .ok (.invokevirtual 141, 3) := by decide +kernel
theorem dX4_says_4 : decode cX4_says 4 = .ok (.aload_n 0, 1) := by decide +kernel
theorem dX4_says_5 : decode cX4_says 5 = .ok (.iload_n 1, 1) := by decide +kernel
theorem dX4_says_6 : decode cX4_says 6 = .ok (.invokevirtual 62, 3) := by decide +kernel
theorem dX4_says_9 : decode cX4_says 9 = .ok (.aload_n 0, 1) := by decide +kernel
theorem dX4_says_10 : decode cX4_says 10 = .ok (.iload_n 2, 1) := by decide +kernel
theorem dX4_says_11 : decode cX4_says 11 = .ok (.iconst 2, 1) := by decide +kernel
theorem dX4_says_12 : decode cX4_says 12 = .ok (.invokevirtual 137, 3) := by decide +kernel
theorem dX4_says_15 : decode cX4_says 15 = .ok (.aload_n 0, 1) := by decide +kernel
theorem dX4_says_16 : decode cX4_says 16 = .ok (.iload_n 1, 1) := by decide +kernel
theorem dX4_says_17 : decode cX4_says 17 = .ok (.invokevirtual 158, 3) := by decide +kernel
theorem dX4_says_20 : decode cX4_says 20 = .ok (.iload_n 2, 1) := by decide +kernel
theorem dX4_says_21 : decode cX4_says 21 = .ok (.ifCond .ne 11, 3) := by decide +kernel
theorem dX4_says_24 : decode cX4_says 24 = .ok (.aload_n 0, 1) := by decide +kernel
theorem dX4_says_25 : decode cX4_says 25 = .ok (.getfield 33, 3) := by decide +kernel
theorem dX4_says_28 : decode cX4_says 28 = .ok (.getfield 161, 3) := by decide +kernel
theorem dX4_says_31 : decode cX4_says 31 = .ok (.ireturn, 1) := by decide +kernel
theorem dX4_says_32 : decode cX4_says 32 = .ok (.iload_n 2, 1) := by decide +kernel
theorem dX4_says_33 : decode cX4_says 33 = .ok (.iconst 1, 1) := by decide +kernel
theorem dX4_says_34 : decode cX4_says 34 = .ok (.if_icmp .ne 13, 3) := by decide +kernel
theorem dX4_says_37 : decode cX4_says 37 = .ok (.aload_n 0, 1) := by decide +kernel
theorem dX4_says_38 : decode cX4_says 38 = .ok (.getfield 33, 3) := by decide +kernel
theorem dX4_says_41 : decode cX4_says 41 = .ok (.getfield 164, 3) := by decide +kernel
theorem dX4_says_44 : decode cX4_says 44 = .ok (.goto 10, 3) := by decide +kernel
theorem dX4_says_47 : decode cX4_says 47 = .ok (.aload_n 0, 1) := by decide +kernel
theorem dX4_says_48 : decode cX4_says 48 = .ok (.getfield 33, 3) := by decide +kernel
theorem dX4_says_51 : decode cX4_says 51 = .ok (.getfield 167, 3) := by decide +kernel
theorem dX4_says_54 : decode cX4_says 54 = .ok (.ireturn, 1) := by decide +kernel
theorem dX4_offer_0 : decode cX4_offer 0 = .ok (.aload_n 0, 1) := by decide +kernel
theorem dX4_offer_1 : decode cX4_offer 1 = .ok (.invokevirtual 141, 3) := by decide +kernel
theorem dX4_offer_4 : decode cX4_offer 4 = .ok (.aload_n 0, 1) := by decide +kernel
theorem dX4_offer_5 : decode cX4_offer 5 = .ok (.iload_n 1, 1) := by decide +kernel
theorem dX4_offer_6 : decode cX4_offer 6 = .ok (.invokevirtual 62, 3) := by decide +kernel
theorem dX4_offer_9 : decode cX4_offer 9 = .ok (.aload_n 0, 1) := by decide +kernel
theorem dX4_offer_10 : decode cX4_offer 10 = .ok (.iload_n 2, 1) := by decide +kernel
theorem dX4_offer_11 : decode cX4_offer 11 = .ok (.invokevirtual 62, 3) := by decide +kernel
theorem dX4_offer_14 : decode cX4_offer 14 = .ok (.aload_n 0, 1) := by decide +kernel
theorem dX4_offer_15 : decode cX4_offer 15 = .ok (.getfield 26, 3) := by decide +kernel
theorem dX4_offer_18 : decode cX4_offer 18 = .ok (.iload_n 1, 1) := by decide +kernel
theorem dX4_offer_19 : decode cX4_offer 19 = .ok (.invokevirtual 170, 3) := by decide +kernel
theorem dX4_offer_22 : decode cX4_offer 22 = .ok (.ifCond .eq 5, 3) := by decide +kernel
theorem dX4_offer_25 : decode cX4_offer 25 = .ok (.iconst 0, 1) := by decide +kernel
theorem dX4_offer_26 : decode cX4_offer 26 = .ok (.ireturn, 1) := by decide +kernel
theorem dX4_offer_27 : decode cX4_offer 27 = .ok (.aload_n 0, 1) := by decide +kernel
theorem dX4_offer_28 : decode cX4_offer 28 = .ok (.iload_n 2, 1) := by decide +kernel
theorem dX4_offer_29 : decode cX4_offer 29 = .ok (.invokevirtual 158, 3) := by decide +kernel
theorem dX4_offer_32 : decode cX4_offer 32 = .ok (.aload_n 0, 1) := by decide +kernel
theorem dX4_offer_33 : decode cX4_offer 33 = .ok (.getfield 33, 3) := by decide +kernel
theorem dX4_offer_36 : decode cX4_offer 36 = .ok (.iload_n 3, 1) := by decide +kernel
theorem dX4_offer_37 : decode cX4_offer 37 = .ok (.iload 4, 2) := by decide +kernel
theorem dX4_offer_39 : decode cX4_offer 39 = .ok (.iload 5, 2) := by decide +kernel
theorem dX4_offer_41 : decode cX4_offer 41 = .ok (.invokevirtual 173, 3) := by decide +kernel
theorem dX4_offer_44 : decode cX4_offer 44 = .ok (.ifCond .eq 26, 3) := by decide +kernel
theorem dX4_offer_47 : decode cX4_offer 47 = .ok (.aload_n 0, 1) := by decide +kernel
theorem dX4_offer_48 : decode cX4_offer 48 = .ok (.getfield 33, 3) := by decide +kernel
theorem dX4_offer_51 : decode cX4_offer 51 = .ok (.aload_n 0, 1) := by decide +kernel
theorem dX4_offer_52 : decode cX4_offer 52 = .ok (.getfield 20, 3) := by decide +kernel
theorem dX4_offer_55 : decode cX4_offer 55 = .ok (.iload_n 1, 1) := by decide +kernel
theorem dX4_offer_56 : decode cX4_offer 56 = .ok (.iaload, 1) := by decide +kernel
theorem dX4_offer_57 : decode cX4_offer 57 = .ok (.aload_n 0, 1) := by decide +kernel
theorem dX4_offer_58 : decode cX4_offer 58 = .ok (.getfield 26, 3) := by decide +kernel
theorem dX4_offer_61 : decode cX4_offer 61 = .ok (.getfield 150, 3) := by decide +kernel
theorem dX4_offer_64 : decode cX4_offer 64 = .ok (.invokevirtual 177, 3) := by decide +kernel
theorem dX4_offer_67 : decode cX4_offer 67 = .ok (.ifCond .ne 5, 3) := by decide +kernel
theorem dX4_offer_70 : decode cX4_offer 70 = .ok (.iconst 0, 1) := by decide +kernel
theorem dX4_offer_71 : decode cX4_offer 71 = .ok (.ireturn, 1) := by decide +kernel
theorem dX4_offer_72 : decode cX4_offer 72 = .ok (.aload_n 0, 1) := by decide +kernel
theorem dX4_offer_73 : decode cX4_offer 73 = .ok (.getfield 26, 3) := by decide +kernel
theorem dX4_offer_76 : decode cX4_offer 76 = .ok (.iload_n 1, 1) := by decide +kernel
theorem dX4_offer_77 : decode cX4_offer 77 = .ok (.aload_n 0, 1) := by decide +kernel
theorem dX4_offer_78 : decode cX4_offer 78 = .ok (.getfield 33, 3) := by decide +kernel
theorem dX4_offer_81 : decode cX4_offer 81 = .ok (.getfield 161, 3) := by decide +kernel
theorem dX4_offer_84 : decode cX4_offer 84 = .ok (.invokevirtual 180, 3) := by decide +kernel
theorem dX4_offer_87 : decode cX4_offer 87 = .ok (.iconst 1, 1) := by decide +kernel
theorem dX4_offer_88 : decode cX4_offer 88 = .ok (.ireturn, 1) := by decide +kernel
theorem dX4_value_0 : decode cX4_value 0 = .ok (.aload_n 0, 1) := by decide +kernel
theorem dX4_value_1 : decode cX4_value 1 = .ok (.invokevirtual 141, 3) := by decide +kernel
theorem dX4_value_4 : decode cX4_value 4 = .ok (.iload_n 1, 1) := by decide +kernel
theorem dX4_value_5 : decode cX4_value 5 = .ok (.invokestatic 131, 3) := by decide +kernel
theorem dX4_value_8 : decode cX4_value 8 = .ok (.aload_n 0, 1) := by decide +kernel
theorem dX4_value_9 : decode cX4_value 9 = .ok (.getfield 48, 3) := by decide +kernel
theorem dX4_value_12 : decode cX4_value 12 = .ok (.if_icmp .ne 17, 3) := by decide +kernel
theorem dX4_value_15 : decode cX4_value 15 = .ok (.iload_n 1, 1) := by decide +kernel
theorem dX4_value_16 : decode cX4_value 16 = .ok (.aload_n 0, 1) := by decide +kernel
theorem dX4_value_17 : decode cX4_value 17 = .ok (.getfield 26, 3) := by decide +kernel
theorem dX4_value_20 : decode cX4_value 20 = .ok (.getfield 153, 3) := by decide +kernel
theorem dX4_value_23 : decode cX4_value 23 = .ok (.iconst (-1), 1) := by decide +kernel
theorem dX4_value_24 : decode cX4_value 24 = .ok (.ixor, 1) := by decide +kernel
theorem dX4_value_25 : decode cX4_value 25 = .ok (.iand, 1) := by decide +kernel
theorem dX4_value_26 : decode cX4_value 26 = .ok (.ifCond .eq 13, 3) := by decide +kernel
theorem dX4_value_29 : decode cX4_value 29 = .ok (.new 37, 3) := by decide +kernel
theorem dX4_value_32 : decode cX4_value 32 = .ok (.dup, 1) := by decide +kernel
theorem dX4_value_33 : decode cX4_value 33 = .ok (.ldc 183, 2) := by decide +kernel
theorem dX4_value_35 : decode cX4_value 35 = .ok (.invokespecial 41, 3) := by decide +kernel
theorem dX4_value_38 : decode cX4_value 38 = .ok (.athrow, 1) := by decide +kernel
theorem dX4_value_39 : decode cX4_value 39 = .ok (.aload_n 0, 1) := by decide +kernel
theorem dX4_value_40 : decode cX4_value 40 = .ok (.getfield 26, 3) := by decide +kernel
theorem dX4_value_43 : decode cX4_value 43 = .ok (.iload_n 1, 1) := by decide +kernel
theorem dX4_value_44 : decode cX4_value 44 = .ok (.invokevirtual 185, 3) := by decide +kernel
theorem dX4_value_47 : decode cX4_value 47 = .ok (.ireturn, 1) := by decide +kernel
theorem dX4_publish_0 : decode cX4_publish 0 = .ok (.aload_n 0, 1) := by decide +kernel
theorem dX4_publish_1 : decode cX4_publish 1 = .ok (.invokevirtual 141, 3) := by decide +kernel
theorem dX4_publish_4 : decode cX4_publish 4 = .ok (.aload_n 0, 1) := by decide +kernel
theorem dX4_publish_5 : decode cX4_publish 5 = .ok (.getfield 26, 3) := by decide +kernel
theorem dX4_publish_8 : decode cX4_publish 8 = .ok (.getfield 153, 3) := by decide +kernel
theorem dX4_publish_11 : decode cX4_publish 11 = .ok (.invokestatic 131, 3) := by decide +kernel
theorem dX4_publish_14 : decode cX4_publish 14 = .ok (.aload_n 0, 1) := by decide +kernel
theorem dX4_publish_15 : decode cX4_publish 15 = .ok (.getfield 48, 3) := by decide +kernel
theorem dX4_publish_18 : decode cX4_publish 18 = .ok (.if_icmp .ge 13, 3) := by decide +kernel
theorem dX4_publish_21 : decode cX4_publish 21 = .ok (.new 72, 3) := by decide +kernel
theorem dX4_publish_24 : decode cX4_publish 24 = .ok (.dup, 1) := by decide +kernel
theorem dX4_publish_25 : decode cX4_publish 25 = .ok (.ldc 188, 2) := by decide +kernel
theorem dX4_publish_27 : decode cX4_publish 27 = .ok (.invokespecial 76, 3) := by decide +kernel
theorem dX4_publish_30 : decode cX4_publish 30 = .ok (.athrow, 1) := by decide +kernel
theorem dX4_publish_31 : decode cX4_publish 31 = .ok (.aload_n 0, 1) := by decide +kernel
theorem dX4_publish_32 : decode cX4_publish 32 = .ok (.getfield 26, 3) := by decide +kernel
theorem dX4_publish_35 : decode cX4_publish 35 = .ok (.getfield 147, 3) := by decide +kernel
theorem dX4_publish_38 : decode cX4_publish 38 = .ok (.sipush 300, 3) := by decide +kernel
theorem dX4_publish_41 : decode cX4_publish 41 = .ok (.if_icmp .lt 13, 3) := by decide +kernel
theorem dX4_publish_44 : decode cX4_publish 44 = .ok (.new 190, 3) := by decide +kernel
theorem dX4_publish_47 : decode cX4_publish 47 = .ok (.dup, 1) := by decide +kernel
theorem dX4_publish_48 : decode cX4_publish 48 = .ok (.ldc 192, 2) := by decide +kernel
theorem dX4_publish_50 : decode cX4_publish 50 = .ok (.invokespecial 194, 3) := by decide +kernel
theorem dX4_publish_53 : decode cX4_publish 53 = .ok (.athrow, 1) := by decide +kernel
theorem dX4_publish_54 : decode cX4_publish 54 = .ok (.aload_n 0, 1) := by decide +kernel
theorem dX4_publish_55 : decode cX4_publish 55 = .ok (.getfield 26, 3) := by decide +kernel
theorem dX4_publish_58 : decode cX4_publish 58 = .ok (.aload_n 0, 1) := by decide +kernel
theorem dX4_publish_59 : decode cX4_publish 59 = .ok (.getfield 26, 3) := by decide +kernel
theorem dX4_publish_62 : decode cX4_publish 62 = .ok (.aload_n 0, 1) := by decide +kernel
theorem dX4_publish_63 : decode cX4_publish 63 = .ok (.getfield 48, 3) := by decide +kernel
theorem dX4_publish_66 : decode cX4_publish 66 = .ok (.invokevirtual 195, 3) := by decide +kernel
theorem dX4_publish_69 : decode cX4_publish 69 = .ok (.invokevirtual 185, 3) := by decide +kernel
theorem dX4_publish_72 : decode cX4_publish 72 = .ok (.istore_n 1, 1) := by decide +kernel
theorem dX4_publish_73 : decode cX4_publish 73 = .ok (.aload_n 0, 1) := by decide +kernel
theorem dX4_publish_74 : decode cX4_publish 74 = .ok (.getfield 26, 3) := by decide +kernel
theorem dX4_publish_77 : decode cX4_publish 77 = .ok (.iload_n 1, 1) := by decide +kernel
theorem dX4_publish_78 : decode cX4_publish 78 = .ok (.invokevirtual 198, 3) := by decide +kernel
theorem dX4_publish_81 : decode cX4_publish 81 = .ok (.iload_n 1, 1) := by decide +kernel
theorem dX4_publish_82 : decode cX4_publish 82 = .ok (.ireturn, 1) := by decide +kernel
theorem dX4_ended_0 : decode cX4_ended 0 = .ok (.aload_n 0, 1) := by decide +kernel
theorem dX4_ended_1 : decode cX4_ended 1 = .ok (.iload_n 1, 1) := by decide +kernel
theorem dX4_ended_2 : decode cX4_ended 2 = .ok (.invokevirtual 201, 3) := by decide +kernel
theorem dX4_ended_5 : decode cX4_ended 5 = .ok (.aload_n 0, 1) := by decide +kernel
theorem dX4_ended_6 : decode cX4_ended 6 = .ok (.getfield 26, 3) := by decide +kernel
theorem dX4_ended_9 : decode cX4_ended 9 = .ok (.getfield 204, 3) := by decide +kernel
theorem dX4_ended_12 : decode cX4_ended 12 = .ok (.iload_n 1, 1) := by decide +kernel
theorem dX4_ended_13 : decode cX4_ended 13 = .ok (.laload, 1) := by decide +kernel
theorem dX4_ended_14 : decode cX4_ended 14 = .ok (.lreturn, 1) := by decide +kernel
theorem dX4_random_0 : decode cX4_random 0 = .ok (.aload_n 0, 1) := by decide +kernel
theorem dX4_random_1 : decode cX4_random 1 = .ok (.iload_n 1, 1) := by decide +kernel
theorem dX4_random_2 : decode cX4_random 2 = .ok (.invokevirtual 201, 3) := by decide +kernel
theorem dX4_random_5 : decode cX4_random 5 = .ok (.aload_n 0, 1) := by decide +kernel
theorem dX4_random_6 : decode cX4_random 6 = .ok (.getfield 26, 3) := by decide +kernel
theorem dX4_random_9 : decode cX4_random 9 = .ok (.getfield 204, 3) := by decide +kernel
theorem dX4_random_12 : decode cX4_random 12 = .ok (.iload_n 1, 1) := by decide +kernel
theorem dX4_random_13 : decode cX4_random 13 = .ok (.laload, 1) := by decide +kernel
theorem dX4_random_14 : decode cX4_random 14 = .ok (.iload_n 1, 1) := by decide +kernel
theorem dX4_random_15 : decode cX4_random 15 = .ok (.i2l, 1) := by decide +kernel
theorem dX4_random_16 : decode cX4_random 16 = .ok (.invokestatic 208, 3) := by decide +kernel
end
section
theorem dX4_random_19 : decode cX4_random 19 = .ok (.lreturn, 1) := by decide +kernel
theorem dX4_about_0 : decode cX4_about 0 = .ok (.iload_n 1, 1) := by decide +kernel
theorem dX4_about_1 : decode cX4_about 1 = .ok (.tableswitch 93 0 7 #[47, 52, 57, 62, 67, 72, 80, 85], 47) := by decide +kernel
theorem dX4_about_48 : decode cX4_about 48 = .ok (.aload_n 0, 1) := by decide +kernel
theorem dX4_about_49 : decode cX4_about 49 = .ok (.getfield 44, 3) := by decide +kernel
theorem dX4_about_52 : decode cX4_about 52 = .ok (.ireturn, 1) := by decide +kernel
theorem dX4_about_53 : decode cX4_about 53 = .ok (.aload_n 0, 1) := by decide +kernel
theorem dX4_about_54 : decode cX4_about 54 = .ok (.getfield 48, 3) := by decide +kernel
theorem dX4_about_57 : decode cX4_about 57 = .ok (.ireturn, 1) := by decide +kernel
theorem dX4_about_58 : decode cX4_about 58 = .ok (.aload_n 0, 1) := by decide +kernel
theorem dX4_about_59 : decode cX4_about 59 = .ok (.invokevirtual 214, 3) := by decide +kernel
theorem dX4_about_62 : decode cX4_about 62 = .ok (.ireturn, 1) := by decide +kernel
theorem dX4_about_63 : decode cX4_about 63 = .ok (.aload_n 0, 1) := by decide +kernel
theorem dX4_about_64 : decode cX4_about 64 = .ok (.invokevirtual 106, 3) := by decide +kernel
theorem dX4_about_67 : decode cX4_about 67 = .ok (.ireturn, 1) := by decide +kernel
theorem dX4_about_68 : decode cX4_about 68 = .ok (.aload_n 0, 1) := by decide +kernel
theorem dX4_about_69 : decode cX4_about 69 = .ok (.invokevirtual 217, 3) := by decide +kernel
theorem dX4_about_72 : decode cX4_about 72 = .ok (.ireturn, 1) := by decide +kernel
theorem dX4_about_73 : decode cX4_about 73 = .ok (.aload_n 0, 1) := by decide +kernel
theorem dX4_about_74 : decode cX4_about 74 = .ok (.getfield 55, 3) := by decide +kernel
theorem dX4_about_77 : decode cX4_about 77 = .ok (.invokestatic 131, 3) := by decide +kernel
theorem dX4_about_80 : decode cX4_about 80 = .ok (.ireturn, 1) := by decide +kernel
theorem dX4_about_81 : decode cX4_about 81 = .ok (.aload_n 0, 1) := by decide +kernel
theorem dX4_about_82 : decode cX4_about 82 = .ok (.getfield 55, 3) := by decide +kernel
theorem dX4_about_85 : decode cX4_about 85 = .ok (.ireturn, 1) := by decide +kernel
theorem dX4_about_86 : decode cX4_about 86 = .ok (.aload_n 0, 1) := by decide +kernel
theorem dX4_about_87 : decode cX4_about 87 = .ok (.getfield 26, 3) := by decide +kernel
theorem dX4_about_90 : decode cX4_about 90 = .ok (.getfield 147, 3) := by decide +kernel
theorem dX4_about_93 : decode cX4_about 93 = .ok (.ireturn, 1) := by decide +kernel
theorem dX4_about_94 : decode cX4_about 94 = .ok (.new 37, 3) := by decide +kernel
theorem dX4_about_97 : decode cX4_about 97 = .ok (.dup, 1) := by decide +kernel
theorem dX4_about_98 : decode cX4_about 98 = .ok (.ldc 220, 2) := by decide +kernel
theorem dX4_about_100 : decode cX4_about 100 = .ok (.invokespecial 41, 3) := by decide +kernel
theorem dX4_about_103 : decode cX4_about 103 = .ok (.athrow, 1) := by decide +kernel
theorem dX4_needNode_0 : decode cX4_needNode 0 = .ok (.iload_n 1, 1) := by decide +kernel
theorem dX4_needNode_1 : decode cX4_needNode 1 = .ok (.iconst 1, 1) := by decide +kernel
theorem dX4_needNode_2 : decode cX4_needNode 2 = .ok (.if_icmp .lt 11, 3) := by decide +kernel
theorem dX4_needNode_5 : decode cX4_needNode 5 = .ok (.iload_n 1, 1) := by decide +kernel
theorem dX4_needNode_6 : decode cX4_needNode 6 = .ok (.aload_n 0, 1) := by decide +kernel
theorem dX4_needNode_7 : decode cX4_needNode 7 = .ok (.getfield 44, 3) := by decide +kernel
theorem dX4_needNode_10 : decode cX4_needNode 10 = .ok (.if_icmp .le 13, 3) := by decide +kernel
theorem dX4_needNode_13 : decode cX4_needNode 13 = .ok (.new 37, 3) := by decide +kernel
theorem dX4_needNode_16 : decode cX4_needNode 16 = .ok (.dup, 1) := by decide +kernel
theorem dX4_needNode_17 : decode cX4_needNode 17 = .ok (.ldc 222, 2) := by decide +kernel
theorem dX4_needNode_19 : decode cX4_needNode 19 = .ok (.invokespecial 41, 3) := by decide +kernel
theorem dX4_needNode_22 : decode cX4_needNode 22 = .ok (.athrow, 1) := by decide +kernel
theorem dX4_needNode_23 : decode cX4_needNode 23 = .ok (.return_, 1) := by decide +kernel
theorem dX4_needExponent_0 : decode cX4_needExponent 0 = .ok (.iload_n 1, 1) := by decide +kernel
theorem dX4_needExponent_1 : decode cX4_needExponent 1 = .ok (.invokestatic 224, 3) := by decide +kernel
theorem dX4_needExponent_4 : decode cX4_needExponent 4 = .ok (.ifCond .ne 13, 3) := by decide +kernel
theorem dX4_needExponent_7 : decode cX4_needExponent 7 = .ok (.new 37, 3) := by decide +kernel
theorem dX4_needExponent_10 : decode cX4_needExponent 10 = .ok (.dup, 1) := by decide +kernel
theorem dX4_needExponent_11 : decode cX4_needExponent 11 = .ok (.ldc 227, 2) := by decide +kernel
theorem dX4_needExponent_13 : decode cX4_needExponent 13 = .ok (.invokespecial 41, 3) := by decide +kernel
theorem dX4_needExponent_16 : decode cX4_needExponent 16 = .ok (.athrow, 1) := by decide +kernel
theorem dX4_needExponent_17 : decode cX4_needExponent 17 = .ok (.return_, 1) := by decide +kernel
theorem dX4_needWhat_0 : decode cX4_needWhat 0 = .ok (.iload_n 1, 1) := by decide +kernel
theorem dX4_needWhat_1 : decode cX4_needWhat 1 = .ok (.ifCond .lt 8, 3) := by decide +kernel
theorem dX4_needWhat_4 : decode cX4_needWhat 4 = .ok (.iload_n 1, 1) := by decide +kernel
theorem dX4_needWhat_5 : decode cX4_needWhat 5 = .ok (.iload_n 2, 1) := by decide +kernel
theorem dX4_needWhat_6 : decode cX4_needWhat 6 = .ok (.if_icmp .le 13, 3) := by decide +kernel
theorem dX4_needWhat_9 : decode cX4_needWhat 9 = .ok (.new 37, 3) := by decide +kernel
theorem dX4_needWhat_12 : decode cX4_needWhat 12 = .ok (.dup, 1) := by decide +kernel
theorem dX4_needWhat_13 : decode cX4_needWhat 13 = .ok (.ldc 229, 2) := by decide +kernel
theorem dX4_needWhat_15 : decode cX4_needWhat 15 = .ok (.invokespecial 41, 3) := by decide +kernel
theorem dX4_needWhat_18 : decode cX4_needWhat 18 = .ok (.athrow, 1) := by decide +kernel
theorem dX4_needWhat_19 : decode cX4_needWhat 19 = .ok (.return_, 1) := by decide +kernel
theorem dX4_needDealt_0 : decode cX4_needDealt 0 = .ok (.aload_n 0, 1) := by decide +kernel
theorem dX4_needDealt_1 : decode cX4_needDealt 1 = .ok (.getfield 11, 3) := by decide +kernel
theorem dX4_needDealt_4 : decode cX4_needDealt 4 = .ok (.iload_n 1, 1) := by decide +kernel
theorem dX4_needDealt_5 : decode cX4_needDealt 5 = .ok (.aaload, 1) := by decide +kernel
theorem dX4_needDealt_6 : decode cX4_needDealt 6 = .ok (.getfield 69, 3) := by decide +kernel
theorem dX4_needDealt_9 : decode cX4_needDealt 9 = .ok (.ifCond .ne 13, 3) := by decide +kernel
theorem dX4_needDealt_12 : decode cX4_needDealt 12 = .ok (.new 72, 3) := by decide +kernel
theorem dX4_needDealt_15 : decode cX4_needDealt 15 = .ok (.dup, 1) := by decide +kernel
theorem dX4_needDealt_16 : decode cX4_needDealt 16 = .ok (.ldc 231, 2) := by decide +kernel
theorem dX4_needDealt_18 : decode cX4_needDealt 18 = .ok (.invokespecial 76, 3) := by decide +kernel
theorem dX4_needDealt_21 : decode cX4_needDealt 21 = .ok (.athrow, 1) := by decide +kernel
theorem dX4_needDealt_22 : decode cX4_needDealt 22 = .ok (.return_, 1) := by decide +kernel
theorem dX4_needOpen_0 : decode cX4_needOpen 0 = .ok (.aload_n 0, 1) := by decide +kernel
theorem dX4_needOpen_1 : decode cX4_needOpen 1 = .ok (.getfield 51, 3) := by decide +kernel
theorem dX4_needOpen_4 : decode cX4_needOpen 4 = .ok (.ifCond .eq 13, 3) := by decide +kernel
theorem dX4_needOpen_7 : decode cX4_needOpen 7 = .ok (.new 72, 3) := by decide +kernel
theorem dX4_needOpen_10 : decode cX4_needOpen 10 = .ok (.dup, 1) := by decide +kernel
theorem dX4_needOpen_11 : decode cX4_needOpen 11 = .ok (.ldc 233, 2) := by decide +kernel
theorem dX4_needOpen_13 : decode cX4_needOpen 13 = .ok (.invokespecial 76, 3) := by decide +kernel
theorem dX4_needOpen_16 : decode cX4_needOpen 16 = .ok (.athrow, 1) := by decide +kernel
theorem dX4_needOpen_17 : decode cX4_needOpen 17 = .ok (.return_, 1) := by decide +kernel
theorem dX4_needClosed_0 : decode cX4_needClosed 0 = .ok (.aload_n 0, 1) := by decide +kernel
theorem dX4_needClosed_1 : decode cX4_needClosed 1 = .ok (.getfield 51, 3) := by decide +kernel
theorem dX4_needClosed_4 : decode cX4_needClosed 4 = .ok (.ifCond .ne 13, 3) := by decide +kernel
theorem dX4_needClosed_7 : decode cX4_needClosed 7 = .ok (.new 72, 3) := by decide +kernel
theorem dX4_needClosed_10 : decode cX4_needClosed 10 = .ok (.dup, 1) := by decide +kernel
theorem dX4_needClosed_11 : decode cX4_needClosed 11 = .ok (.ldc 235, 2) := by decide +kernel
theorem dX4_needClosed_13 : decode cX4_needClosed 13 = .ok (.invokespecial 76, 3) := by decide +kernel
theorem dX4_needClosed_16 : decode cX4_needClosed 16 = .ok (.athrow, 1) := by decide +kernel
theorem dX4_needClosed_17 : decode cX4_needClosed 17 = .ok (.return_, 1) := by decide +kernel
theorem dX4_needEnded_0 : decode cX4_needEnded 0 = .ok (.iload_n 1, 1) := by decide +kernel
theorem dX4_needEnded_1 : decode cX4_needEnded 1 = .ok (.ifCond .ge 13, 3) := by decide +kernel
theorem dX4_needEnded_4 : decode cX4_needEnded 4 = .ok (.new 37, 3) := by decide +kernel
theorem dX4_needEnded_7 : decode cX4_needEnded 7 = .ok (.dup, 1) := by decide +kernel
theorem dX4_needEnded_8 : decode cX4_needEnded 8 = .ok (.ldc 237, 2) := by decide +kernel
theorem dX4_needEnded_10 : decode cX4_needEnded 10 = .ok (.invokespecial 41, 3) := by decide +kernel
theorem dX4_needEnded_13 : decode cX4_needEnded 13 = .ok (.athrow, 1) := by decide +kernel
theorem dX4_needEnded_14 : decode cX4_needEnded 14 = .ok (.aload_n 0, 1) := by decide +kernel
theorem dX4_needEnded_15 : decode cX4_needEnded 15 = .ok (.invokevirtual 141, 3) := by decide +kernel
theorem dX4_needEnded_18 : decode cX4_needEnded 18 = .ok (.iload_n 1, 1) := by decide +kernel
theorem dX4_needEnded_19 : decode cX4_needEnded 19 = .ok (.aload_n 0, 1) := by decide +kernel
theorem dX4_needEnded_20 : decode cX4_needEnded 20 = .ok (.getfield 26, 3) := by decide +kernel
theorem dX4_needEnded_23 : decode cX4_needEnded 23 = .ok (.getfield 147, 3) := by decide +kernel
theorem dX4_needEnded_26 : decode cX4_needEnded 26 = .ok (.if_icmp .le 13, 3) := by decide +kernel
theorem dX4_needEnded_29 : decode cX4_needEnded 29 = .ok (.new 37, 3) := by decide +kernel
theorem dX4_needEnded_32 : decode cX4_needEnded 32 = .ok (.dup, 1) := by decide +kernel
theorem dX4_needEnded_33 : decode cX4_needEnded 33 = .ok (.ldc 239, 2) := by decide +kernel
theorem dX4_needEnded_35 : decode cX4_needEnded 35 = .ok (.invokespecial 41, 3) := by decide +kernel
theorem dX4_needEnded_38 : decode cX4_needEnded 38 = .ok (.athrow, 1) := by decide +kernel
theorem dX4_needEnded_39 : decode cX4_needEnded 39 = .ok (.return_, 1) := by decide +kernel
theorem dX4_countDealt_0 : decode cX4_countDealt 0 = .ok (.iconst 0, 1) := by decide +kernel
theorem dX4_countDealt_1 : decode cX4_countDealt 1 = .ok (.istore_n 1, 1) := by decide +kernel
theorem dX4_countDealt_2 : decode cX4_countDealt 2 = .ok (.iconst 1, 1) := by decide +kernel
theorem dX4_countDealt_3 : decode cX4_countDealt 3 = .ok (.istore_n 2, 1) := by decide +kernel
theorem dX4_countDealt_4 : decode cX4_countDealt 4 = .ok (.iload_n 2, 1) := by decide +kernel
theorem dX4_countDealt_5 : decode cX4_countDealt 5 = .ok (.aload_n 0, 1) := by decide +kernel
theorem dX4_countDealt_6 : decode cX4_countDealt 6 = .ok (.getfield 44, 3) := by decide +kernel
theorem dX4_countDealt_9 : decode cX4_countDealt 9 = .ok (.if_icmp .gt 29, 3) := by decide +kernel
theorem dX4_countDealt_12 : decode cX4_countDealt 12 = .ok (.iload_n 1, 1) := by decide +kernel
theorem dX4_countDealt_13 : decode cX4_countDealt 13 = .ok (.aload_n 0, 1) := by decide +kernel
theorem dX4_countDealt_14 : decode cX4_countDealt 14 = .ok (.getfield 11, 3) := by decide +kernel
theorem dX4_countDealt_17 : decode cX4_countDealt 17 = .ok (.iload_n 2, 1) := by decide +kernel
theorem dX4_countDealt_18 : decode cX4_countDealt 18 = .ok (.aaload, 1) := by decide +kernel
theorem dX4_countDealt_19 : decode cX4_countDealt 19 = .ok (.getfield 69, 3) := by decide +kernel
theorem dX4_countDealt_22 : decode cX4_countDealt 22 = .ok (.ifCond .eq 7, 3) := by decide +kernel
theorem dX4_countDealt_25 : decode cX4_countDealt 25 = .ok (.iconst 1, 1) := by decide +kernel
theorem dX4_countDealt_26 : decode cX4_countDealt 26 = .ok (.goto 4, 3) := by decide +kernel
theorem dX4_countDealt_29 : decode cX4_countDealt 29 = .ok (.iconst 0, 1) := by decide +kernel
theorem dX4_countDealt_30 : decode cX4_countDealt 30 = .ok (.iadd, 1) := by decide +kernel
theorem dX4_countDealt_31 : decode cX4_countDealt 31 = .ok (.istore_n 1, 1) := by decide +kernel
theorem dX4_countDealt_32 : decode cX4_countDealt 32 = .ok (.iinc 2 1, 3) := by decide +kernel
theorem dX4_countDealt_35 : decode cX4_countDealt 35 = .ok (.goto (-31), 3) := by decide +kernel
theorem dX4_countDealt_38 : decode cX4_countDealt 38 = .ok (.iload_n 1, 1) := by decide +kernel
theorem dX4_countDealt_39 : decode cX4_countDealt 39 = .ok (.ireturn, 1) := by decide +kernel
theorem dX4_countComplaints_0 : decode cX4_countComplaints 0 = .ok (.iconst 0, 1) := by decide +kernel
theorem dX4_countComplaints_1 : decode cX4_countComplaints 1 = .ok (.istore_n 1, 1) := by decide +kernel
theorem dX4_countComplaints_2 : decode cX4_countComplaints 2 = .ok (.iconst 1, 1) := by decide +kernel
theorem dX4_countComplaints_3 : decode cX4_countComplaints 3 = .ok (.istore_n 2, 1) := by decide +kernel
theorem dX4_countComplaints_4 : decode cX4_countComplaints 4 = .ok (.iload_n 2, 1) := by decide +kernel
theorem dX4_countComplaints_5 : decode cX4_countComplaints 5 = .ok (.aload_n 0, 1) := by decide +kernel
theorem dX4_countComplaints_6 : decode cX4_countComplaints 6 = .ok (.getfield 44, 3) := by decide +kernel
theorem dX4_countComplaints_9 : decode cX4_countComplaints 9 = .ok (.if_icmp .gt 24, 3) := by decide +kernel
theorem dX4_countComplaints_12 : decode cX4_countComplaints 12 = .ok (.iload_n 1, 1) := by decide +kernel
theorem dX4_countComplaints_13 : decode cX4_countComplaints 13 = .ok (.aload_n 0, 1) := by decide +kernel
theorem dX4_countComplaints_14 : decode cX4_countComplaints 14 = .ok (.getfield 11, 3) := by decide +kernel
theorem dX4_countComplaints_17 : decode cX4_countComplaints 17 = .ok (.iload_n 2, 1) := by decide +kernel
theorem dX4_countComplaints_18 : decode cX4_countComplaints 18 = .ok (.aaload, 1) := by decide +kernel
theorem dX4_countComplaints_19 : decode cX4_countComplaints 19 = .ok (.getfield 241, 3) := by decide +kernel
theorem dX4_countComplaints_22 : decode cX4_countComplaints 22 = .ok (.invokestatic 131, 3) := by decide +kernel
theorem dX4_countComplaints_25 : decode cX4_countComplaints 25 = .ok (.iadd, 1) := by decide +kernel
theorem dX4_countComplaints_26 : decode cX4_countComplaints 26 = .ok (.istore_n 1, 1) := by decide +kernel
theorem dX4_countComplaints_27 : decode cX4_countComplaints 27 = .ok (.iinc 2 1, 3) := by decide +kernel
theorem dX4_countComplaints_30 : decode cX4_countComplaints 30 = .ok (.goto (-26), 3) := by decide +kernel
theorem dX4_countComplaints_33 : decode cX4_countComplaints 33 = .ok (.iload_n 1, 1) := by decide +kernel
theorem dX4_countComplaints_34 : decode cX4_countComplaints 34 = .ok (.ireturn, 1) := by decide +kernel
theorem dX4_countOut_0 : decode cX4_countOut 0 = .ok (.iconst 0, 1) := by decide +kernel
theorem dX4_countOut_1 : decode cX4_countOut 1 = .ok (.istore_n 1, 1) := by decide +kernel
theorem dX4_countOut_2 : decode cX4_countOut 2 = .ok (.iconst 1, 1) := by decide +kernel
theorem dX4_countOut_3 : decode cX4_countOut 3 = .ok (.istore_n 2, 1) := by decide +kernel
theorem dX4_countOut_4 : decode cX4_countOut 4 = .ok (.iload_n 2, 1) := by decide +kernel
theorem dX4_countOut_5 : decode cX4_countOut 5 = .ok (.aload_n 0, 1) := by decide +kernel
theorem dX4_countOut_6 : decode cX4_countOut 6 = .ok (.getfield 44, 3) := by decide +kernel
theorem dX4_countOut_9 : decode cX4_countOut 9 = .ok (.if_icmp .gt 29, 3) := by decide +kernel
theorem dX4_countOut_12 : decode cX4_countOut 12 = .ok (.iload_n 1, 1) := by decide +kernel
theorem dX4_countOut_13 : decode cX4_countOut 13 = .ok (.aload_n 0, 1) := by decide +kernel
theorem dX4_countOut_14 : decode cX4_countOut 14 = .ok (.getfield 11, 3) := by decide +kernel
theorem dX4_countOut_17 : decode cX4_countOut 17 = .ok (.iload_n 2, 1) := by decide +kernel
theorem dX4_countOut_18 : decode cX4_countOut 18 = .ok (.aaload, 1) := by decide +kernel
theorem dX4_countOut_19 : decode cX4_countOut 19 = .ok (.getfield 244, 3) := by decide +kernel
theorem dX4_countOut_22 : decode cX4_countOut 22 = .ok (.ifCond .eq 7, 3) := by decide +kernel
theorem dX4_countOut_25 : decode cX4_countOut 25 = .ok (.iconst 1, 1) := by decide +kernel
theorem dX4_countOut_26 : decode cX4_countOut 26 = .ok (.goto 4, 3) := by decide +kernel
theorem dX4_countOut_29 : decode cX4_countOut 29 = .ok (.iconst 0, 1) := by decide +kernel
theorem dX4_countOut_30 : decode cX4_countOut 30 = .ok (.iadd, 1) := by decide +kernel
theorem dX4_countOut_31 : decode cX4_countOut 31 = .ok (.istore_n 1, 1) := by decide +kernel
theorem dX4_countOut_32 : decode cX4_countOut 32 = .ok (.iinc 2 1, 3) := by decide +kernel
theorem dX4_countOut_35 : decode cX4_countOut 35 = .ok (.goto (-31), 3) := by decide +kernel
theorem dX4_countOut_38 : decode cX4_countOut 38 = .ok (.iload_n 1, 1) := by decide +kernel
theorem dX4_countOut_39 : decode cX4_countOut 39 = .ok (.ireturn, 1) := by decide +kernel
theorem dX4_findQualified_0 : decode cX4_findQualified 0 = .ok (.iconst 0, 1) := by decide +kernel
theorem dX4_findQualified_1 : decode cX4_findQualified 1 = .ok (.istore_n 1, 1) := by decide +kernel
theorem dX4_findQualified_2 : decode cX4_findQualified 2 = .ok (.iconst 1, 1) := by decide +kernel
theorem dX4_findQualified_3 : decode cX4_findQualified 3 = .ok (.istore_n 2, 1) := by decide +kernel
theorem dX4_findQualified_4 : decode cX4_findQualified 4 = .ok (.iload_n 2, 1) := by decide +kernel
theorem dX4_findQualified_5 : decode cX4_findQualified 5 = .ok (.aload_n 0, 1) := by decide +kernel
theorem dX4_findQualified_6 : decode cX4_findQualified 6 = .ok (.getfield 44, 3) := by decide +kernel
theorem dX4_findQualified_9 : decode cX4_findQualified 9 = .ok (.if_icmp .gt 27, 3) := by decide +kernel
theorem dX4_findQualified_12 : decode cX4_findQualified 12 = .ok (.aload_n 0, 1) := by decide +kernel
theorem dX4_findQualified_13 : decode cX4_findQualified 13 = .ok (.getfield 11, 3) := by decide +kernel
theorem dX4_findQualified_16 : decode cX4_findQualified 16 = .ok (.iload_n 2, 1) := by decide +kernel
theorem dX4_findQualified_17 : decode cX4_findQualified 17 = .ok (.aaload, 1) := by decide +kernel
theorem dX4_findQualified_18 : decode cX4_findQualified 18 = .ok (.invokevirtual 247, 3) := by decide +kernel
theorem dX4_findQualified_21 : decode cX4_findQualified 21 = .ok (.ifCond .eq 9, 3) := by decide +kernel
theorem dX4_findQualified_24 : decode cX4_findQualified 24 = .ok (.iload_n 1, 1) := by decide +kernel
theorem dX4_findQualified_25 : decode cX4_findQualified 25 = .ok (.iconst 1, 1) := by decide +kernel
theorem dX4_findQualified_26 : decode cX4_findQualified 26 = .ok (.iload_n 2, 1) := by decide +kernel
theorem dX4_findQualified_27 : decode cX4_findQualified 27 = .ok (.ishl, 1) := by decide +kernel
theorem dX4_findQualified_28 : decode cX4_findQualified 28 = .ok (.ior, 1) := by decide +kernel
theorem dX4_findQualified_29 : decode cX4_findQualified 29 = .ok (.istore_n 1, 1) := by decide +kernel
theorem dX4_findQualified_30 : decode cX4_findQualified 30 = .ok (.iinc 2 1, 3) := by decide +kernel
theorem dX4_findQualified_33 : decode cX4_findQualified 33 = .ok (.goto (-29), 3) := by decide +kernel
theorem dX4_findQualified_36 : decode cX4_findQualified 36 = .ok (.iload_n 1, 1) := by decide +kernel
theorem dX4_findQualified_37 : decode cX4_findQualified 37 = .ok (.ireturn, 1) := by decide +kernel
theorem dX4_makeKeys_0 : decode cX4_makeKeys 0 = .ok (.aload_n 0, 1) := by decide +kernel
theorem dX4_makeKeys_1 : decode cX4_makeKeys 1 = .ok (.iconst 1, 1) := by decide +kernel
theorem dX4_makeKeys_2 : decode cX4_makeKeys 2 = .ok (.putfield 144, 3) := by decide +kernel
theorem dX4_makeKeys_5 : decode cX4_makeKeys 5 = .ok (.iconst 1, 1) := by decide +kernel
theorem dX4_makeKeys_6 : decode cX4_makeKeys 6 = .ok (.istore_n 1, 1) := by decide +kernel
theorem dX4_makeKeys_7 : decode cX4_makeKeys 7 = .ok (.iload_n 1, 1) := by decide +kernel
theorem dX4_makeKeys_8 : decode cX4_makeKeys 8 = .ok (.aload_n 0, 1) := by decide +kernel
theorem dX4_makeKeys_9 : decode cX4_makeKeys 9 = .ok (.getfield 44, 3) := by decide +kernel
theorem dX4_makeKeys_12 : decode cX4_makeKeys 12 = .ok (.if_icmp .gt 42, 3) := by decide +kernel
theorem dX4_makeKeys_15 : decode cX4_makeKeys 15 = .ok (.aload_n 0, 1) := by decide +kernel
theorem dX4_makeKeys_16 : decode cX4_makeKeys 16 = .ok (.getfield 55, 3) := by decide +kernel
theorem dX4_makeKeys_19 : decode cX4_makeKeys 19 = .ok (.iload_n 1, 1) := by decide +kernel
theorem dX4_makeKeys_20 : decode cX4_makeKeys 20 = .ok (.invokestatic 251, 3) := by decide +kernel
theorem dX4_makeKeys_23 : decode cX4_makeKeys 23 = .ok (.ifCond .eq 25, 3) := by decide +kernel
theorem dX4_makeKeys_26 : decode cX4_makeKeys 26 = .ok (.aload_n 0, 1) := by decide +kernel
theorem dX4_makeKeys_27 : decode cX4_makeKeys 27 = .ok (.aload_n 0, 1) := by decide +kernel
theorem dX4_makeKeys_28 : decode cX4_makeKeys 28 = .ok (.getfield 144, 3) := by decide +kernel
theorem dX4_makeKeys_31 : decode cX4_makeKeys 31 = .ok (.aload_n 0, 1) := by decide +kernel
theorem dX4_makeKeys_32 : decode cX4_makeKeys 32 = .ok (.getfield 11, 3) := by decide +kernel
theorem dX4_makeKeys_35 : decode cX4_makeKeys 35 = .ok (.iload_n 1, 1) := by decide +kernel
theorem dX4_makeKeys_36 : decode cX4_makeKeys 36 = .ok (.aaload, 1) := by decide +kernel
theorem dX4_makeKeys_37 : decode cX4_makeKeys 37 = .ok (.getfield 93, 3) := by decide +kernel
theorem dX4_makeKeys_40 : decode cX4_makeKeys 40 = .ok (.iconst 0, 1) := by decide +kernel
theorem dX4_makeKeys_41 : decode cX4_makeKeys 41 = .ok (.iaload, 1) := by decide +kernel
theorem dX4_makeKeys_42 : decode cX4_makeKeys 42 = .ok (.invokestatic 254, 3) := by decide +kernel
theorem dX4_makeKeys_45 : decode cX4_makeKeys 45 = .ok (.putfield 144, 3) := by decide +kernel
theorem dX4_makeKeys_48 : decode cX4_makeKeys 48 = .ok (.iinc 1 1, 3) := by decide +kernel
theorem dX4_makeKeys_51 : decode cX4_makeKeys 51 = .ok (.goto (-44), 3) := by decide +kernel
theorem dX4_makeKeys_54 : decode cX4_makeKeys 54 = .ok (.iconst 1, 1) := by decide +kernel
theorem dX4_makeKeys_55 : decode cX4_makeKeys 55 = .ok (.istore_n 1, 1) := by decide +kernel
theorem dX4_makeKeys_56 : decode cX4_makeKeys 56 = .ok (.iload_n 1, 1) := by decide +kernel
theorem dX4_makeKeys_57 : decode cX4_makeKeys 57 = .ok (.aload_n 0, 1) := by decide +kernel
theorem dX4_makeKeys_58 : decode cX4_makeKeys 58 = .ok (.getfield 44, 3) := by decide +kernel
theorem dX4_makeKeys_61 : decode cX4_makeKeys 61 = .ok (.if_icmp .gt 36, 3) := by decide +kernel
theorem dX4_makeKeys_64 : decode cX4_makeKeys 64 = .ok (.aload_n 0, 1) := by decide +kernel
theorem dX4_makeKeys_65 : decode cX4_makeKeys 65 = .ok (.getfield 16, 3) := by decide +kernel
theorem dX4_makeKeys_68 : decode cX4_makeKeys 68 = .ok (.iload_n 1, 1) := by decide +kernel
theorem dX4_makeKeys_69 : decode cX4_makeKeys 69 = .ok (.aload_n 0, 1) := by decide +kernel
theorem dX4_makeKeys_70 : decode cX4_makeKeys 70 = .ok (.iload_n 1, 1) := by decide +kernel
theorem dX4_makeKeys_71 : decode cX4_makeKeys 71 = .ok (.invokevirtual 257, 3) := by decide +kernel
theorem dX4_makeKeys_74 : decode cX4_makeKeys 74 = .ok (.iastore, 1) := by decide +kernel
theorem dX4_makeKeys_75 : decode cX4_makeKeys 75 = .ok (.aload_n 0, 1) := by decide +kernel
theorem dX4_makeKeys_76 : decode cX4_makeKeys 76 = .ok (.getfield 20, 3) := by decide +kernel
theorem dX4_makeKeys_79 : decode cX4_makeKeys 79 = .ok (.iload_n 1, 1) := by decide +kernel
theorem dX4_makeKeys_80 : decode cX4_makeKeys 80 = .ok (.iconst 4, 1) := by decide +kernel
theorem dX4_makeKeys_81 : decode cX4_makeKeys 81 = .ok (.aload_n 0, 1) := by decide +kernel
theorem dX4_makeKeys_82 : decode cX4_makeKeys 82 = .ok (.getfield 16, 3) := by decide +kernel
theorem dX4_makeKeys_85 : decode cX4_makeKeys 85 = .ok (.iload_n 1, 1) := by decide +kernel
theorem dX4_makeKeys_86 : decode cX4_makeKeys 86 = .ok (.iaload, 1) := by decide +kernel
theorem dX4_makeKeys_87 : decode cX4_makeKeys 87 = .ok (.invokestatic 260, 3) := by decide +kernel
theorem dX4_makeKeys_90 : decode cX4_makeKeys 90 = .ok (.iastore, 1) := by decide +kernel
theorem dX4_makeKeys_91 : decode cX4_makeKeys 91 = .ok (.iinc 1 1, 3) := by decide +kernel
theorem dX4_makeKeys_94 : decode cX4_makeKeys 94 = .ok (.goto (-38), 3) := by decide +kernel
theorem dX4_makeKeys_97 : decode cX4_makeKeys 97 = .ok (.return_, 1) := by decide +kernel
theorem dX4_sumOfShares_0 : decode cX4_sumOfShares 0 = .ok (.lconst 0, 1) := by decide +kernel
theorem dX4_sumOfShares_1 : decode cX4_sumOfShares 1 = .ok (.lstore_n 2, 1) := by decide +kernel
theorem dX4_sumOfShares_2 : decode cX4_sumOfShares 2 = .ok (.iconst 1, 1) := by decide +kernel
theorem dX4_sumOfShares_3 : decode cX4_sumOfShares 3 = .ok (.istore 4, 2) := by decide +kernel
theorem dX4_sumOfShares_5 : decode cX4_sumOfShares 5 = .ok (.iload 4, 2) := by decide +kernel
theorem dX4_sumOfShares_7 : decode cX4_sumOfShares 7 = .ok (.aload_n 0, 1) := by decide +kernel
theorem dX4_sumOfShares_8 : decode cX4_sumOfShares 8 = .ok (.getfield 44, 3) := by decide +kernel
theorem dX4_sumOfShares_11 : decode cX4_sumOfShares 11 = .ok (.if_icmp .gt 37, 3) := by decide +kernel
theorem dX4_sumOfShares_14 : decode cX4_sumOfShares 14 = .ok (.aload_n 0, 1) := by decide +kernel
theorem dX4_sumOfShares_15 : decode cX4_sumOfShares 15 = .ok (.getfield 55, 3) := by decide +kernel
theorem dX4_sumOfShares_18 : decode cX4_sumOfShares 18 = .ok (.iload 4, 2) := by decide +kernel
theorem dX4_sumOfShares_20 : decode cX4_sumOfShares 20 = .ok (.invokestatic 251, 3) := by decide +kernel
theorem dX4_sumOfShares_23 : decode cX4_sumOfShares 23 = .ok (.ifCond .eq 19, 3) := by decide +kernel
theorem dX4_sumOfShares_26 : decode cX4_sumOfShares 26 = .ok (.lload_n 2, 1) := by decide +kernel
theorem dX4_sumOfShares_27 : decode cX4_sumOfShares 27 = .ok (.aload_n 0, 1) := by decide +kernel
theorem dX4_sumOfShares_28 : decode cX4_sumOfShares 28 = .ok (.getfield 11, 3) := by decide +kernel
theorem dX4_sumOfShares_31 : decode cX4_sumOfShares 31 = .ok (.iload 4, 2) := by decide +kernel
theorem dX4_sumOfShares_33 : decode cX4_sumOfShares 33 = .ok (.aaload, 1) := by decide +kernel
theorem dX4_sumOfShares_34 : decode cX4_sumOfShares 34 = .ok (.getfield 96, 3) := by decide +kernel
theorem dX4_sumOfShares_37 : decode cX4_sumOfShares 37 = .ok (.iload_n 1, 1) := by decide +kernel
theorem dX4_sumOfShares_38 : decode cX4_sumOfShares 38 = .ok (.iaload, 1) := by decide +kernel
theorem dX4_sumOfShares_39 : decode cX4_sumOfShares 39 = .ok (.i2l, 1) := by decide +kernel
theorem dX4_sumOfShares_40 : decode cX4_sumOfShares 40 = .ok (.ladd, 1) := by decide +kernel
theorem dX4_sumOfShares_41 : decode cX4_sumOfShares 41 = .ok (.lstore_n 2, 1) := by decide +kernel
theorem dX4_sumOfShares_42 : decode cX4_sumOfShares 42 = .ok (.iinc 4 1, 3) := by decide +kernel
theorem dX4_sumOfShares_45 : decode cX4_sumOfShares 45 = .ok (.goto (-40), 3) := by decide +kernel
theorem dX4_sumOfShares_48 : decode cX4_sumOfShares 48 = .ok (.lload_n 2, 1) := by decide +kernel
theorem dX4_sumOfShares_49 : decode cX4_sumOfShares 49 = .ok (.invokestatic 263, 3) := by decide +kernel
theorem dX4_sumOfShares_52 : decode cX4_sumOfShares 52 = .ok (.ireturn, 1) := by decide +kernel
theorem dX4_stateFor_0 : decode cX4_stateFor 0 = .ok (.aload_n 0, 1) := by decide +kernel
theorem dX4_stateFor_1 : decode cX4_stateFor 1 = .ok (.getfield 33, 3) := by decide +kernel
theorem dX4_stateFor_4 : decode cX4_stateFor 4 = .ok (.aload_n 0, 1) := by decide +kernel
theorem dX4_stateFor_5 : decode cX4_stateFor 5 = .ok (.getfield 16, 3) := by decide +kernel
theorem dX4_stateFor_8 : decode cX4_stateFor 8 = .ok (.iload_n 1, 1) := by decide +kernel
theorem dX4_stateFor_9 : decode cX4_stateFor 9 = .ok (.iaload, 1) := by decide +kernel
theorem dX4_stateFor_10 : decode cX4_stateFor 10 = .ok (.aload_n 0, 1) := by decide +kernel
theorem dX4_stateFor_11 : decode cX4_stateFor 11 = .ok (.getfield 20, 3) := by decide +kernel
theorem dX4_stateFor_14 : decode cX4_stateFor 14 = .ok (.iload_n 1, 1) := by decide +kernel
theorem dX4_stateFor_15 : decode cX4_stateFor 15 = .ok (.iaload, 1) := by decide +kernel
theorem dX4_stateFor_16 : decode cX4_stateFor 16 = .ok (.aload_n 0, 1) := by decide +kernel
theorem dX4_stateFor_17 : decode cX4_stateFor 17 = .ok (.getfield 26, 3) := by decide +kernel
theorem dX4_stateFor_20 : decode cX4_stateFor 20 = .ok (.getfield 150, 3) := by decide +kernel
theorem dX4_stateFor_23 : decode cX4_stateFor 23 = .ok (.aload_n 0, 1) := by decide +kernel
theorem dX4_stateFor_24 : decode cX4_stateFor 24 = .ok (.getfield 26, 3) := by decide +kernel
theorem dX4_stateFor_27 : decode cX4_stateFor 27 = .ok (.getfield 267, 3) := by decide +kernel
theorem dX4_stateFor_30 : decode cX4_stateFor 30 = .ok (.invokevirtual 271, 3) := by decide +kernel
theorem dX4_stateFor_33 : decode cX4_stateFor 33 = .ok (.return_, 1) := by decide +kernel
end
section
theorem dX5_init_0 : decode cX5_init 0 = .ok (.aload_n 0, 1) := by decide +kernel
theorem dX5_init_1 : decode cX5_init 1 = .ok (.invokespecial 1, 3) := by decide +kernel
theorem dX5_init_4 : decode cX5_init 4 = .ok (.aload_n 0, 1) := by decide +kernel
theorem dX5_init_5 : decode cX5_init 5 = .ok (.bipush 17, 2) := by decide +kernel
theorem dX5_init_7 : decode cX5_init 7 = .ok (.newarray .boolean, 2) := by decide +kernel
theorem dX5_init_9 : decode cX5_init 9 = .ok (.putfield 7, 3) := by decide +kernel
theorem dX5_init_12 : decode cX5_init 12 = .ok (.aload_n 0, 1) := by decide +kernel
theorem dX5_init_13 : decode cX5_init 13 = .ok (.bipush 17, 2) := by decide +kernel
theorem dX5_init_15 : decode cX5_init 15 = .ok (.newarray .boolean, 2) := by decide +kernel
theorem dX5_init_17 : decode cX5_init 17 = .ok (.putfield 13, 3) := by decide +kernel
theorem dX5_init_20 : decode cX5_init 20 = .ok (.aload_n 0, 1) := by decide +kernel
theorem dX5_init_21 : decode cX5_init 21 = .ok (.sipush 289, 3) := by decide +kernel
theorem dX5_init_24 : decode cX5_init 24 = .ok (.newarray .long, 2) := by decide +kernel
theorem dX5_init_26 : decode cX5_init 26 = .ok (.putfield 16, 3) := by decide +kernel
theorem dX5_init_29 : decode cX5_init 29 = .ok (.aload_n 0, 1) := by decide +kernel
theorem dX5_init_30 : decode cX5_init 30 = .ok (.sipush 289, 3) := by decide +kernel
theorem dX5_init_33 : decode cX5_init 33 = .ok (.newarray .long, 2) := by decide +kernel
theorem dX5_init_35 : decode cX5_init 35 = .ok (.putfield 20, 3) := by decide +kernel
theorem dX5_init_38 : decode cX5_init 38 = .ok (.aload_n 0, 1) := by decide +kernel
theorem dX5_init_39 : decode cX5_init 39 = .ok (.sipush 289, 3) := by decide +kernel
theorem dX5_init_42 : decode cX5_init 42 = .ok (.newarray .long, 2) := by decide +kernel
theorem dX5_init_44 : decode cX5_init 44 = .ok (.putfield 23, 3) := by decide +kernel
theorem dX5_init_47 : decode cX5_init 47 = .ok (.aload_n 0, 1) := by decide +kernel
theorem dX5_init_48 : decode cX5_init 48 = .ok (.sipush 289, 3) := by decide +kernel
theorem dX5_init_51 : decode cX5_init 51 = .ok (.newarray .boolean, 2) := by decide +kernel
theorem dX5_init_53 : decode cX5_init 53 = .ok (.putfield 26, 3) := by decide +kernel
theorem dX5_init_56 : decode cX5_init 56 = .ok (.aload_n 0, 1) := by decide +kernel
theorem dX5_init_57 : decode cX5_init 57 = .ok (.bipush 17, 2) := by decide +kernel
theorem dX5_init_59 : decode cX5_init 59 = .ok (.newarray .long, 2) := by decide +kernel
theorem dX5_init_61 : decode cX5_init 61 = .ok (.putfield 29, 3) := by decide +kernel
theorem dX5_init_64 : decode cX5_init 64 = .ok (.aload_n 0, 1) := by decide +kernel
theorem dX5_init_65 : decode cX5_init 65 = .ok (.bipush 17, 2) := by decide +kernel
theorem dX5_init_67 : decode cX5_init 67 = .ok (.newarray .long, 2) := by decide +kernel
theorem dX5_init_69 : decode cX5_init 69 = .ok (.putfield 32, 3) := by decide +kernel
theorem dX5_init_72 : decode cX5_init 72 = .ok (.aload_n 0, 1) := by decide +kernel
theorem dX5_init_73 : decode cX5_init 73 = .ok (.sipush 301, 3) := by decide +kernel
theorem dX5_init_76 : decode cX5_init 76 = .ok (.newarray .long, 2) := by decide +kernel
theorem dX5_init_78 : decode cX5_init 78 = .ok (.putfield 35, 3) := by decide +kernel
theorem dX5_init_81 : decode cX5_init 81 = .ok (.aload_n 0, 1) := by decide +kernel
theorem dX5_init_82 : decode cX5_init 82 = .ok (.bipush 17, 2) := by decide +kernel
theorem dX5_init_84 : decode cX5_init 84 = .ok (.newarray .long, 2) := by decide +kernel
theorem dX5_init_86 : decode cX5_init 86 = .ok (.putfield 38, 3) := by decide +kernel
theorem dX5_init_89 : decode cX5_init 89 = .ok (.return_, 1) := by decide +kernel
theorem dX5_thrown_0 : decode cX5_thrown 0 = .ok (.aload_n 0, 1) := by decide +kernel
theorem dX5_thrown_1 : decode cX5_thrown 1 = .ok (.getfield 41, 3) := by decide +kernel
theorem dX5_thrown_4 : decode cX5_thrown 4 = .ok (.ireturn, 1) := by decide +kernel
theorem dX5_refuses_0 : decode cX5_refuses 0 = .ok (.aload_n 0, 1) := by decide +kernel
theorem dX5_refuses_1 : decode cX5_refuses 1 = .ok (.iload_n 1, 1) := by decide +kernel
theorem dX5_refuses_2 : decode cX5_refuses 2 = .ok (.putfield 41, 3) := by decide +kernel
theorem dX5_refuses_5 : decode cX5_refuses 5 = .ok (.iload_n 1, 1) := by decide +kernel
theorem dX5_refuses_6 : decode cX5_refuses 6 = .ok (.ifCond .le 7, 3) := by decide +kernel
theorem dX5_refuses_9 : decode cX5_refuses 9 = .ok (.iconst 1, 1) := by decide +kernel
theorem dX5_refuses_10 : decode cX5_refuses 10 = .ok (.goto 4, 3) := by decide +kernel
theorem dX5_refuses_13 : decode cX5_refuses 13 = .ok (.iconst 0, 1) := by decide +kernel
theorem dX5_refuses_14 : decode cX5_refuses 14 = .ok (.ireturn, 1) := by decide +kernel
theorem dX5_hashes_0 : decode cX5_hashes 0 = .ok (.aload_n 0, 1) := by decide +kernel
theorem dX5_hashes_1 : decode cX5_hashes 1 = .ok (.aload_n 0, 1) := by decide +kernel
theorem dX5_hashes_2 : decode cX5_hashes 2 = .ok (.getfield 45, 3) := by decide +kernel
theorem dX5_hashes_5 : decode cX5_hashes 5 = .ok (.lload_n 1, 1) := by decide +kernel
theorem dX5_hashes_6 : decode cX5_hashes 6 = .ok (.ladd, 1) := by decide +kernel
theorem dX5_hashes_7 : decode cX5_hashes 7 = .ok (.ldc2_w 49, 3) := by decide +kernel
theorem dX5_hashes_10 : decode cX5_hashes 10 = .ok (.lmul, 1) := by decide +kernel
theorem dX5_hashes_11 : decode cX5_hashes 11 = .ok (.ldc2_w 51, 3) := by decide +kernel
theorem dX5_hashes_14 : decode cX5_hashes 14 = .ok (.ladd, 1) := by decide +kernel
theorem dX5_hashes_15 : decode cX5_hashes 15 = .ok (.putfield 45, 3) := by decide +kernel
theorem dX5_hashes_18 : decode cX5_hashes 18 = .ok (.aload_n 0, 1) := by decide +kernel
theorem dX5_hashes_19 : decode cX5_hashes 19 = .ok (.aload_n 0, 1) := by decide +kernel
theorem dX5_hashes_20 : decode cX5_hashes 20 = .ok (.getfield 45, 3) := by decide +kernel
theorem dX5_hashes_23 : decode cX5_hashes 23 = .ok (.aload_n 0, 1) := by decide +kernel
theorem dX5_hashes_24 : decode cX5_hashes 24 = .ok (.getfield 45, 3) := by decide +kernel
theorem dX5_hashes_27 : decode cX5_hashes 27 = .ok (.bipush 29, 2) := by decide +kernel
theorem dX5_hashes_29 : decode cX5_hashes 29 = .ok (.lushr, 1) := by decide +kernel
theorem dX5_hashes_30 : decode cX5_hashes 30 = .ok (.lxor, 1) := by decide +kernel
theorem dX5_hashes_31 : decode cX5_hashes 31 = .ok (.putfield 45, 3) := by decide +kernel
theorem dX5_hashes_34 : decode cX5_hashes 34 = .ok (.aload_n 0, 1) := by decide +kernel
theorem dX5_hashes_35 : decode cX5_hashes 35 = .ok (.aload_n 0, 1) := by decide +kernel
theorem dX5_hashes_36 : decode cX5_hashes 36 = .ok (.getfield 45, 3) := by decide +kernel
theorem dX5_hashes_39 : decode cX5_hashes 39 = .ok (.ldc2_w 53, 3) := by decide +kernel
theorem dX5_hashes_42 : decode cX5_hashes 42 = .ok (.lmul, 1) := by decide +kernel
theorem dX5_hashes_43 : decode cX5_hashes 43 = .ok (.putfield 45, 3) := by decide +kernel
theorem dX5_hashes_46 : decode cX5_hashes 46 = .ok (.aload_n 0, 1) := by decide +kernel
theorem dX5_hashes_47 : decode cX5_hashes 47 = .ok (.aload_n 0, 1) := by decide +kernel
theorem dX5_hashes_48 : decode cX5_hashes 48 = .ok (.getfield 45, 3) := by decide +kernel
theorem dX5_hashes_51 : decode cX5_hashes 51 = .ok (.aload_n 0, 1) := by decide +kernel
theorem dX5_hashes_52 : decode cX5_hashes 52 = .ok (.getfield 45, 3) := by decide +kernel
theorem dX5_hashes_55 : decode cX5_hashes 55 = .ok (.bipush 32, 2) := by decide +kernel
theorem dX5_hashes_57 : decode cX5_hashes 57 = .ok (.lushr, 1) := by decide +kernel
theorem dX5_hashes_58 : decode cX5_hashes 58 = .ok (.lxor, 1) := by decide +kernel
theorem dX5_hashes_59 : decode cX5_hashes 59 = .ok (.putfield 45, 3) := by decide +kernel
theorem dX5_hashes_62 : decode cX5_hashes 62 = .ok (.return_, 1) := by decide +kernel
theorem dX5_rest_0 : decode cX5_rest 0 = .ok (.lload_n 0, 1) := by decide +kernel
theorem dX5_rest_1 : decode cX5_rest 1 = .ok (.lload_n 2, 1) := by decide +kernel
theorem dX5_rest_2 : decode cX5_rest 2 = .ok (.lrem, 1) := by decide +kernel
theorem dX5_rest_3 : decode cX5_rest 3 = .ok (.lstore 4, 2) := by decide +kernel
theorem dX5_rest_5 : decode cX5_rest 5 = .ok (.lload 4, 2) := by decide +kernel
theorem dX5_rest_7 : decode cX5_rest 7 = .ok (.lconst 0, 1) := by decide +kernel
theorem dX5_rest_8 : decode cX5_rest 8 = .ok (.lcmp, 1) := by decide +kernel
theorem dX5_rest_9 : decode cX5_rest 9 = .ok (.ifCond .ge 10, 3) := by decide +kernel
theorem dX5_rest_12 : decode cX5_rest 12 = .ok (.lload 4, 2) := by decide +kernel
theorem dX5_rest_14 : decode cX5_rest 14 = .ok (.lload_n 2, 1) := by decide +kernel
theorem dX5_rest_15 : decode cX5_rest 15 = .ok (.ladd, 1) := by decide +kernel
theorem dX5_rest_16 : decode cX5_rest 16 = .ok (.goto 5, 3) := by decide +kernel
theorem dX5_rest_19 : decode cX5_rest 19 = .ok (.lload 4, 2) := by decide +kernel
theorem dX5_rest_21 : decode cX5_rest 21 = .ok (.lreturn, 1) := by decide +kernel
theorem dX5_power_0 : decode cX5_power 0 = .ok (.lconst 1, 1) := by decide +kernel
theorem dX5_power_1 : decode cX5_power 1 = .ok (.lload 4, 2) := by decide +kernel
theorem dX5_power_3 : decode cX5_power 3 = .ok (.lrem, 1) := by decide +kernel
theorem dX5_power_4 : decode cX5_power 4 = .ok (.lstore 6, 2) := by decide +kernel
theorem dX5_power_6 : decode cX5_power 6 = .ok (.lload_n 0, 1) := by decide +kernel
theorem dX5_power_7 : decode cX5_power 7 = .ok (.lload 4, 2) := by decide +kernel
theorem dX5_power_9 : decode cX5_power 9 = .ok (.invokestatic 55, 3) := by decide +kernel
theorem dX5_power_12 : decode cX5_power 12 = .ok (.lstore 8, 2) := by decide +kernel
theorem dX5_power_14 : decode cX5_power 14 = .ok (.lload_n 2, 1) := by decide +kernel
theorem dX5_power_15 : decode cX5_power 15 = .ok (.lstore 10, 2) := by decide +kernel
theorem dX5_power_17 : decode cX5_power 17 = .ok (.lload 10, 2) := by decide +kernel
theorem dX5_power_19 : decode cX5_power 19 = .ok (.lconst 0, 1) := by decide +kernel
theorem dX5_power_20 : decode cX5_power 20 = .ok (.lcmp, 1) := by decide +kernel
theorem dX5_power_21 : decode cX5_power 21 = .ok (.ifCond .le 46, 3) := by decide +kernel
theorem dX5_power_24 : decode cX5_power 24 = .ok (.lload 10, 2) := by decide +kernel
theorem dX5_power_26 : decode cX5_power 26 = .ok (.lconst 1, 1) := by decide +kernel
theorem dX5_power_27 : decode cX5_power 27 = .ok (.land, 1) := by decide +kernel
theorem dX5_power_28 : decode cX5_power 28 = .ok (.lconst 1, 1) := by decide +kernel
theorem dX5_power_29 : decode cX5_power 29 = .ok (.lcmp, 1) := by decide +kernel
theorem dX5_power_30 : decode cX5_power 30 = .ok (.ifCond .ne 14, 3) := by decide +kernel
theorem dX5_power_33 : decode cX5_power 33 = .ok (.lload 6, 2) := by decide +kernel
theorem dX5_power_35 : decode cX5_power 35 = .ok (.lload 8, 2) := by decide +kernel
theorem dX5_power_37 : decode cX5_power 37 = .ok (.lmul, 1) := by decide +kernel
theorem dX5_power_38 : decode cX5_power 38 = .ok (.lload 4, 2) := by decide +kernel
theorem dX5_power_40 : decode cX5_power 40 = .ok (.lrem, 1) := by decide +kernel
theorem dX5_power_41 : decode cX5_power 41 = .ok (.goto 5, 3) := by decide +kernel
theorem dX5_power_44 : decode cX5_power 44 = .ok (.lload 6, 2) := by decide +kernel
theorem dX5_power_46 : decode cX5_power 46 = .ok (.lstore 6, 2) := by decide +kernel
theorem dX5_power_48 : decode cX5_power 48 = .ok (.lload 8, 2) := by decide +kernel
theorem dX5_power_50 : decode cX5_power 50 = .ok (.lload 8, 2) := by decide +kernel
theorem dX5_power_52 : decode cX5_power 52 = .ok (.lmul, 1) := by decide +kernel
theorem dX5_power_53 : decode cX5_power 53 = .ok (.lload 4, 2) := by decide +kernel
theorem dX5_power_55 : decode cX5_power 55 = .ok (.lrem, 1) := by decide +kernel
theorem dX5_power_56 : decode cX5_power 56 = .ok (.lstore 8, 2) := by decide +kernel
theorem dX5_power_58 : decode cX5_power 58 = .ok (.lload 10, 2) := by decide +kernel
theorem dX5_power_60 : decode cX5_power 60 = .ok (.iconst 1, 1) := by decide +kernel
theorem dX5_power_61 : decode cX5_power 61 = .ok (.lshr, 1) := by decide +kernel
theorem dX5_power_62 : decode cX5_power 62 = .ok (.lstore 10, 2) := by decide +kernel
theorem dX5_power_64 : decode cX5_power 64 = .ok (.goto (-47), 3) := by decide +kernel
theorem dX5_power_67 : decode cX5_power 67 = .ok (.lload 6, 2) := by decide +kernel
theorem dX5_power_69 : decode cX5_power 69 = .ok (.lreturn, 1) := by decide +kernel
theorem dX5_isNode_0 : decode cX5_isNode 0 = .ok (.iload_n 1, 1) := by decide +kernel
theorem dX5_isNode_1 : decode cX5_isNode 1 = .ok (.iconst 1, 1) := by decide +kernel
theorem dX5_isNode_2 : decode cX5_isNode 2 = .ok (.if_icmp .lt 15, 3) := by decide +kernel
theorem dX5_isNode_5 : decode cX5_isNode 5 = .ok (.iload_n 1, 1) := by decide +kernel
theorem dX5_isNode_6 : decode cX5_isNode 6 = .ok (.aload_n 0, 1) := by decide +kernel
theorem dX5_isNode_7 : decode cX5_isNode 7 = .ok (.getfield 59, 3) := by decide +kernel
theorem dX5_isNode_10 : decode cX5_isNode 10 = .ok (.if_icmp .gt 7, 3) := by decide +kernel
theorem dX5_isNode_13 : decode cX5_isNode 13 = .ok (.iconst 1, 1) := by decide +kernel
theorem dX5_isNode_14 : decode cX5_isNode 14 = .ok (.goto 4, 3) := by decide +kernel
theorem dX5_isNode_17 : decode cX5_isNode 17 = .ok (.iconst 0, 1) := by decide +kernel
theorem dX5_isNode_18 : decode cX5_isNode 18 = .ok (.ireturn, 1) := by decide +kernel
theorem dX5_isExponent_0 : decode cX5_isExponent 0 = .ok (.iload_n 0, 1) := by decide +kernel
theorem dX5_isExponent_1 : decode cX5_isExponent 1 = .ok (.ifCond .lt 16, 3) := by decide +kernel
theorem dX5_isExponent_4 : decode cX5_isExponent 4 = .ok (.iload_n 0, 1) := by decide +kernel
theorem dX5_isExponent_5 : decode cX5_isExponent 5 = .ok (.i2l, 1) := by decide +kernel
theorem dX5_isExponent_6 : decode cX5_isExponent 6 = .ok (.ldc2_w 62, 3) := by decide +kernel
theorem dX5_isExponent_9 : decode cX5_isExponent 9 = .ok (.lcmp, 1) := by decide +kernel
theorem dX5_isExponent_10 : decode cX5_isExponent 10 = .ok (.ifCond .ge 7, 3) := by decide +kernel
theorem dX5_isExponent_13 : decode cX5_isExponent 13 = .ok (.iconst 1, 1) := by decide +kernel
theorem dX5_isExponent_14 : decode cX5_isExponent 14 = .ok (.goto 4, 3) := by decide +kernel
theorem dX5_isExponent_17 : decode cX5_isExponent 17 = .ok (.iconst 0, 1) := by decide +kernel
theorem dX5_isExponent_18 : decode cX5_isExponent 18 = .ok (.ireturn, 1) := by decide +kernel
theorem dX5_begin_0 : decode cX5_begin 0 = .ok (.aload_n 0, 1) := by decide +kernel
theorem dX5_begin_1 : decode cX5_begin 1 = .ok (.iload_n 1, 1) := by decide +kernel
theorem dX5_begin_2 : decode cX5_begin 2 = .ok (.iconst 1, 1) := by decide +kernel
theorem dX5_begin_3 : decode cX5_begin 3 = .ok (.if_icmp .lt 19, 3) := by decide +kernel
theorem dX5_begin_6 : decode cX5_begin 6 = .ok (.iload_n 1, 1) := by decide +kernel
theorem dX5_begin_7 : decode cX5_begin 7 = .ok (.bipush 16, 2) := by decide +kernel
theorem dX5_begin_9 : decode cX5_begin 9 = .ok (.if_icmp .gt 13, 3) := by decide +kernel
theorem dX5_begin_12 : decode cX5_begin 12 = .ok (.iload_n 2, 1) := by decide +kernel
theorem dX5_begin_13 : decode cX5_begin 13 = .ok (.iconst 1, 1) := by decide +kernel
theorem dX5_begin_14 : decode cX5_begin 14 = .ok (.if_icmp .lt 8, 3) := by decide +kernel
theorem dX5_begin_17 : decode cX5_begin 17 = .ok (.iload_n 2, 1) := by decide +kernel
theorem dX5_begin_18 : decode cX5_begin 18 = .ok (.iload_n 1, 1) := by decide +kernel
theorem dX5_begin_19 : decode cX5_begin 19 = .ok (.if_icmp .le 7, 3) := by decide +kernel
theorem dX5_begin_22 : decode cX5_begin 22 = .ok (.iconst 1, 1) := by decide +kernel
theorem dX5_begin_23 : decode cX5_begin 23 = .ok (.goto 4, 3) := by decide +kernel
theorem dX5_begin_26 : decode cX5_begin 26 = .ok (.iconst 0, 1) := by decide +kernel
theorem dX5_begin_27 : decode cX5_begin 27 = .ok (.invokevirtual 64, 3) := by decide +kernel
theorem dX5_begin_30 : decode cX5_begin 30 = .ok (.ifCond .eq 4, 3) := by decide +kernel
theorem dX5_begin_33 : decode cX5_begin 33 = .ok (.return_, 1) := by decide +kernel
theorem dX5_begin_34 : decode cX5_begin 34 = .ok (.aload_n 0, 1) := by decide +kernel
theorem dX5_begin_35 : decode cX5_begin 35 = .ok (.iload_n 1, 1) := by decide +kernel
theorem dX5_begin_36 : decode cX5_begin 36 = .ok (.putfield 59, 3) := by decide +kernel
theorem dX5_begin_39 : decode cX5_begin 39 = .ok (.aload_n 0, 1) := by decide +kernel
theorem dX5_begin_40 : decode cX5_begin 40 = .ok (.iload_n 2, 1) := by decide +kernel
theorem dX5_begin_41 : decode cX5_begin 41 = .ok (.putfield 68, 3) := by decide +kernel
theorem dX5_begin_44 : decode cX5_begin 44 = .ok (.aload_n 0, 1) := by decide +kernel
theorem dX5_begin_45 : decode cX5_begin 45 = .ok (.iconst 0, 1) := by decide +kernel
theorem dX5_begin_46 : decode cX5_begin 46 = .ok (.putfield 71, 3) := by decide +kernel
theorem dX5_begin_49 : decode cX5_begin 49 = .ok (.aload_n 0, 1) := by decide +kernel
theorem dX5_begin_50 : decode cX5_begin 50 = .ok (.iconst 0, 1) := by decide +kernel
theorem dX5_begin_51 : decode cX5_begin 51 = .ok (.putfield 75, 3) := by decide +kernel
theorem dX5_begin_54 : decode cX5_begin 54 = .ok (.aload_n 0, 1) := by decide +kernel
theorem dX5_begin_55 : decode cX5_begin 55 = .ok (.iconst 0, 1) := by decide +kernel
theorem dX5_begin_56 : decode cX5_begin 56 = .ok (.putfield 78, 3) := by decide +kernel
theorem dX5_begin_59 : decode cX5_begin 59 = .ok (.aload_n 0, 1) := by decide +kernel
theorem dX5_begin_60 : decode cX5_begin 60 = .ok (.iconst 0, 1) := by decide +kernel
theorem dX5_begin_61 : decode cX5_begin 61 = .ok (.putfield 81, 3) := by decide +kernel
theorem dX5_begin_64 : decode cX5_begin 64 = .ok (.iconst 0, 1) := by decide +kernel
theorem dX5_begin_65 : decode cX5_begin 65 = .ok (.istore_n 3, 1) := by decide +kernel
theorem dX5_begin_66 : decode cX5_begin 66 = .ok (.iload_n 3, 1) := by decide +kernel
theorem dX5_begin_67 : decode cX5_begin 67 = .ok (.bipush 17, 2) := by decide +kernel
theorem dX5_begin_69 : decode cX5_begin 69 = .ok (.if_icmp .ge 23, 3) := by decide +kernel
theorem dX5_begin_72 : decode cX5_begin 72 = .ok (.aload_n 0, 1) := by decide +kernel
theorem dX5_begin_73 : decode cX5_begin 73 = .ok (.getfield 7, 3) := by decide +kernel
theorem dX5_begin_76 : decode cX5_begin 76 = .ok (.iload_n 3, 1) := by decide +kernel
theorem dX5_begin_77 : decode cX5_begin 77 = .ok (.iconst 0, 1) := by decide +kernel
theorem dX5_begin_78 : decode cX5_begin 78 = .ok (.bastore, 1) := by decide +kernel
theorem dX5_begin_79 : decode cX5_begin 79 = .ok (.aload_n 0, 1) := by decide +kernel
theorem dX5_begin_80 : decode cX5_begin 80 = .ok (.getfield 13, 3) := by decide +kernel
theorem dX5_begin_83 : decode cX5_begin 83 = .ok (.iload_n 3, 1) := by decide +kernel
theorem dX5_begin_84 : decode cX5_begin 84 = .ok (.iconst 0, 1) := by decide +kernel
theorem dX5_begin_85 : decode cX5_begin 85 = .ok (.bastore, 1) := by decide +kernel
theorem dX5_begin_86 : decode cX5_begin 86 = .ok (.iinc 3 1, 3) := by decide +kernel
theorem dX5_begin_89 : decode cX5_begin 89 = .ok (.goto (-23), 3) := by decide +kernel
theorem dX5_begin_92 : decode cX5_begin 92 = .ok (.iconst 0, 1) := by decide +kernel
theorem dX5_begin_93 : decode cX5_begin 93 = .ok (.istore_n 3, 1) := by decide +kernel
theorem dX5_begin_94 : decode cX5_begin 94 = .ok (.iload_n 3, 1) := by decide +kernel
theorem dX5_begin_95 : decode cX5_begin 95 = .ok (.sipush 289, 3) := by decide +kernel
theorem dX5_begin_98 : decode cX5_begin 98 = .ok (.if_icmp .ge 16, 3) := by decide +kernel
theorem dX5_begin_101 : decode cX5_begin 101 = .ok (.aload_n 0, 1) := by decide +kernel
theorem dX5_begin_102 : decode cX5_begin 102 = .ok (.getfield 26, 3) := by decide +kernel
theorem dX5_begin_105 : decode cX5_begin 105 = .ok (.iload_n 3, 1) := by decide +kernel
theorem dX5_begin_106 : decode cX5_begin 106 = .ok (.iconst 0, 1) := by decide +kernel
theorem dX5_begin_107 : decode cX5_begin 107 = .ok (.bastore, 1) := by decide +kernel
theorem dX5_begin_108 : decode cX5_begin 108 = .ok (.iinc 3 1, 3) := by decide +kernel
theorem dX5_begin_111 : decode cX5_begin 111 = .ok (.goto (-17), 3) := by decide +kernel
theorem dX5_begin_114 : decode cX5_begin 114 = .ok (.return_, 1) := by decide +kernel
theorem dX5_right_0 : decode cX5_right 0 = .ok (.lconst 0, 1) := by decide +kernel
theorem dX5_right_1 : decode cX5_right 1 = .ok (.lstore_n 3, 1) := by decide +kernel
theorem dX5_right_2 : decode cX5_right 2 = .ok (.lconst 1, 1) := by decide +kernel
theorem dX5_right_3 : decode cX5_right 3 = .ok (.lstore 5, 2) := by decide +kernel
theorem dX5_right_5 : decode cX5_right 5 = .ok (.iconst 0, 1) := by decide +kernel
theorem dX5_right_6 : decode cX5_right 6 = .ok (.istore 7, 2) := by decide +kernel
theorem dX5_right_8 : decode cX5_right 8 = .ok (.iload 7, 2) := by decide +kernel
theorem dX5_right_10 : decode cX5_right 10 = .ok (.aload_n 0, 1) := by decide +kernel
theorem dX5_right_11 : decode cX5_right 11 = .ok (.getfield 68, 3) := by decide +kernel
theorem dX5_right_14 : decode cX5_right 14 = .ok (.if_icmp .ge 42, 3) := by decide +kernel
theorem dX5_right_17 : decode cX5_right 17 = .ok (.lload_n 3, 1) := by decide +kernel
theorem dX5_right_18 : decode cX5_right 18 = .ok (.aload_n 0, 1) := by decide +kernel
theorem dX5_right_19 : decode cX5_right 19 = .ok (.getfield 16, 3) := by decide +kernel
theorem dX5_right_22 : decode cX5_right 22 = .ok (.bipush 17, 2) := by decide +kernel
theorem dX5_right_24 : decode cX5_right 24 = .ok (.iload_n 1, 1) := by decide +kernel
theorem dX5_right_25 : decode cX5_right 25 = .ok (.imul, 1) := by decide +kernel
theorem dX5_right_26 : decode cX5_right 26 = .ok (.iload 7, 2) := by decide +kernel
theorem dX5_right_28 : decode cX5_right 28 = .ok (.iadd, 1) := by decide +kernel
theorem dX5_right_29 : decode cX5_right 29 = .ok (.laload, 1) := by decide +kernel
theorem dX5_right_30 : decode cX5_right 30 = .ok (.lload 5, 2) := by decide +kernel
theorem dX5_right_32 : decode cX5_right 32 = .ok (.lmul, 1) := by decide +kernel
theorem dX5_right_33 : decode cX5_right 33 = .ok (.ladd, 1) := by decide +kernel
theorem dX5_right_34 : decode cX5_right 34 = .ok (.ldc2_w 62, 3) := by decide +kernel
theorem dX5_right_37 : decode cX5_right 37 = .ok (.lrem, 1) := by decide +kernel
theorem dX5_right_38 : decode cX5_right 38 = .ok (.lstore_n 3, 1) := by decide +kernel
theorem dX5_right_39 : decode cX5_right 39 = .ok (.lload 5, 2) := by decide +kernel
theorem dX5_right_41 : decode cX5_right 41 = .ok (.iload_n 2, 1) := by decide +kernel
theorem dX5_right_42 : decode cX5_right 42 = .ok (.i2l, 1) := by decide +kernel
theorem dX5_right_43 : decode cX5_right 43 = .ok (.lmul, 1) := by decide +kernel
theorem dX5_right_44 : decode cX5_right 44 = .ok (.ldc2_w 62, 3) := by decide +kernel
theorem dX5_right_47 : decode cX5_right 47 = .ok (.lrem, 1) := by decide +kernel
theorem dX5_right_48 : decode cX5_right 48 = .ok (.lstore 5, 2) := by decide +kernel
theorem dX5_right_50 : decode cX5_right 50 = .ok (.iinc 7 1, 3) := by decide +kernel
theorem dX5_right_53 : decode cX5_right 53 = .ok (.goto (-45), 3) := by decide +kernel
theorem dX5_right_56 : decode cX5_right 56 = .ok (.lload_n 3, 1) := by decide +kernel
theorem dX5_right_57 : decode cX5_right 57 = .ok (.lreturn, 1) := by decide +kernel
theorem dX5_deal_0 : decode cX5_deal 0 = .ok (.aload_n 0, 1) := by decide +kernel
theorem dX5_deal_1 : decode cX5_deal 1 = .ok (.aload_n 0, 1) := by decide +kernel
theorem dX5_deal_2 : decode cX5_deal 2 = .ok (.iload_n 1, 1) := by decide +kernel
theorem dX5_deal_3 : decode cX5_deal 3 = .ok (.invokevirtual 84, 3) := by decide +kernel
theorem dX5_deal_6 : decode cX5_deal 6 = .ok (.ifCond .ne 7, 3) := by decide +kernel
theorem dX5_deal_9 : decode cX5_deal 9 = .ok (.iconst 1, 1) := by decide +kernel
theorem dX5_deal_10 : decode cX5_deal 10 = .ok (.goto 24, 3) := by decide +kernel
theorem dX5_deal_13 : decode cX5_deal 13 = .ok (.aload_n 0, 1) := by decide +kernel
theorem dX5_deal_14 : decode cX5_deal 14 = .ok (.getfield 7, 3) := by decide +kernel
theorem dX5_deal_17 : decode cX5_deal 17 = .ok (.iload_n 1, 1) := by decide +kernel
theorem dX5_deal_18 : decode cX5_deal 18 = .ok (.baload, 1) := by decide +kernel
theorem dX5_deal_19 : decode cX5_deal 19 = .ok (.ifCond .ne 10, 3) := by decide +kernel
theorem dX5_deal_22 : decode cX5_deal 22 = .ok (.aload_n 0, 1) := by decide +kernel
theorem dX5_deal_23 : decode cX5_deal 23 = .ok (.getfield 71, 3) := by decide +kernel
theorem dX5_deal_26 : decode cX5_deal 26 = .ok (.ifCond .eq 7, 3) := by decide +kernel
theorem dX5_deal_29 : decode cX5_deal 29 = .ok (.iconst 2, 1) := by decide +kernel
theorem dX5_deal_30 : decode cX5_deal 30 = .ok (.goto 4, 3) := by decide +kernel
theorem dX5_deal_33 : decode cX5_deal 33 = .ok (.iconst 0, 1) := by decide +kernel
theorem dX5_deal_34 : decode cX5_deal 34 = .ok (.invokevirtual 64, 3) := by decide +kernel
theorem dX5_deal_37 : decode cX5_deal 37 = .ok (.ifCond .eq 4, 3) := by decide +kernel
theorem dX5_deal_40 : decode cX5_deal 40 = .ok (.return_, 1) := by decide +kernel
theorem dX5_deal_41 : decode cX5_deal 41 = .ok (.aload_n 0, 1) := by decide +kernel
theorem dX5_deal_42 : decode cX5_deal 42 = .ok (.getfield 7, 3) := by decide +kernel
theorem dX5_deal_45 : decode cX5_deal 45 = .ok (.iload_n 1, 1) := by decide +kernel
theorem dX5_deal_46 : decode cX5_deal 46 = .ok (.iconst 1, 1) := by decide +kernel
theorem dX5_deal_47 : decode cX5_deal 47 = .ok (.bastore, 1) := by decide +kernel
theorem dX5_deal_48 : decode cX5_deal 48 = .ok (.iconst 0, 1) := by decide +kernel
theorem dX5_deal_49 : decode cX5_deal 49 = .ok (.istore 4, 2) := by decide +kernel
theorem dX5_deal_51 : decode cX5_deal 51 = .ok (.iload 4, 2) := by decide +kernel
theorem dX5_deal_53 : decode cX5_deal 53 = .ok (.aload_n 0, 1) := by decide +kernel
theorem dX5_deal_54 : decode cX5_deal 54 = .ok (.getfield 68, 3) := by decide +kernel
theorem dX5_deal_57 : decode cX5_deal 57 = .ok (.if_icmp .ge 87, 3) := by decide +kernel
theorem dX5_deal_60 : decode cX5_deal 60 = .ok (.aload_n 0, 1) := by decide +kernel
theorem dX5_deal_61 : decode cX5_deal 61 = .ok (.lconst 0, 1) := by decide +kernel
theorem dX5_deal_62 : decode cX5_deal 62 = .ok (.putfield 45, 3) := by decide +kernel
theorem dX5_deal_65 : decode cX5_deal 65 = .ok (.aload_n 0, 1) := by decide +kernel
theorem dX5_deal_66 : decode cX5_deal 66 = .ok (.lload_n 2, 1) := by decide +kernel
theorem dX5_deal_67 : decode cX5_deal 67 = .ok (.invokevirtual 87, 3) := by decide +kernel
theorem dX5_deal_70 : decode cX5_deal 70 = .ok (.aload_n 0, 1) := by decide +kernel
theorem dX5_deal_71 : decode cX5_deal 71 = .ok (.iload_n 1, 1) := by decide +kernel
theorem dX5_deal_72 : decode cX5_deal 72 = .ok (.i2l, 1) := by decide +kernel
theorem dX5_deal_73 : decode cX5_deal 73 = .ok (.invokevirtual 87, 3) := by decide +kernel
theorem dX5_deal_76 : decode cX5_deal 76 = .ok (.aload_n 0, 1) := by decide +kernel
theorem dX5_deal_77 : decode cX5_deal 77 = .ok (.iload 4, 2) := by decide +kernel
theorem dX5_deal_79 : decode cX5_deal 79 = .ok (.i2l, 1) := by decide +kernel
theorem dX5_deal_80 : decode cX5_deal 80 = .ok (.invokevirtual 87, 3) := by decide +kernel
theorem dX5_deal_83 : decode cX5_deal 83 = .ok (.aload_n 0, 1) := by decide +kernel
theorem dX5_deal_84 : decode cX5_deal 84 = .ok (.getfield 16, 3) := by decide +kernel
theorem dX5_deal_87 : decode cX5_deal 87 = .ok (.bipush 17, 2) := by decide +kernel
theorem dX5_deal_89 : decode cX5_deal 89 = .ok (.iload_n 1, 1) := by decide +kernel
theorem dX5_deal_90 : decode cX5_deal 90 = .ok (.imul, 1) := by decide +kernel
theorem dX5_deal_91 : decode cX5_deal 91 = .ok (.iload 4, 2) := by decide +kernel
theorem dX5_deal_93 : decode cX5_deal 93 = .ok (.iadd, 1) := by decide +kernel
theorem dX5_deal_94 : decode cX5_deal 94 = .ok (.aload_n 0, 1) := by decide +kernel
theorem dX5_deal_95 : decode cX5_deal 95 = .ok (.getfield 45, 3) := by decide +kernel
theorem dX5_deal_98 : decode cX5_deal 98 = .ok (.ldc2_w 62, 3) := by decide +kernel
theorem dX5_deal_101 : decode cX5_deal 101 = .ok (.invokestatic 55, 3) := by decide +kernel
theorem dX5_deal_104 : decode cX5_deal 104 = .ok (.lastore, 1) := by decide +kernel
theorem dX5_deal_105 : decode cX5_deal 105 = .ok (.aload_n 0, 1) := by decide +kernel
theorem dX5_deal_106 : decode cX5_deal 106 = .ok (.getfield 20, 3) := by decide +kernel
theorem dX5_deal_109 : decode cX5_deal 109 = .ok (.bipush 17, 2) := by decide +kernel
theorem dX5_deal_111 : decode cX5_deal 111 = .ok (.iload_n 1, 1) := by decide +kernel
theorem dX5_deal_112 : decode cX5_deal 112 = .ok (.imul, 1) := by decide +kernel
theorem dX5_deal_113 : decode cX5_deal 113 = .ok (.iload 4, 2) := by decide +kernel
theorem dX5_deal_115 : decode cX5_deal 115 = .ok (.iadd, 1) := by decide +kernel
theorem dX5_deal_116 : decode cX5_deal 116 = .ok (.ldc2_w 91, 3) := by decide +kernel
theorem dX5_deal_119 : decode cX5_deal 119 = .ok (.aload_n 0, 1) := by decide +kernel
theorem dX5_deal_120 : decode cX5_deal 120 = .ok (.getfield 16, 3) := by decide +kernel
theorem dX5_deal_123 : decode cX5_deal 123 = .ok (.bipush 17, 2) := by decide +kernel
theorem dX5_deal_125 : decode cX5_deal 125 = .ok (.iload_n 1, 1) := by decide +kernel
theorem dX5_deal_126 : decode cX5_deal 126 = .ok (.imul, 1) := by decide +kernel
theorem dX5_deal_127 : decode cX5_deal 127 = .ok (.iload 4, 2) := by decide +kernel
theorem dX5_deal_129 : decode cX5_deal 129 = .ok (.iadd, 1) := by decide +kernel
theorem dX5_deal_130 : decode cX5_deal 130 = .ok (.laload, 1) := by decide +kernel
theorem dX5_deal_131 : decode cX5_deal 131 = .ok (.ldc2_w 93, 3) := by decide +kernel
theorem dX5_deal_134 : decode cX5_deal 134 = .ok (.invokestatic 95, 3) := by decide +kernel
theorem dX5_deal_137 : decode cX5_deal 137 = .ok (.lastore, 1) := by decide +kernel
theorem dX5_deal_138 : decode cX5_deal 138 = .ok (.iinc 4 1, 3) := by decide +kernel
theorem dX5_deal_141 : decode cX5_deal 141 = .ok (.goto (-90), 3) := by decide +kernel
theorem dX5_deal_144 : decode cX5_deal 144 = .ok (.iconst 1, 1) := by decide +kernel
theorem dX5_deal_145 : decode cX5_deal 145 = .ok (.istore 4, 2) := by decide +kernel
theorem dX5_deal_147 : decode cX5_deal 147 = .ok (.iload 4, 2) := by decide +kernel
theorem dX5_deal_149 : decode cX5_deal 149 = .ok (.aload_n 0, 1) := by decide +kernel
theorem dX5_deal_150 : decode cX5_deal 150 = .ok (.getfield 59, 3) := by decide +kernel
theorem dX5_deal_153 : decode cX5_deal 153 = .ok (.if_icmp .gt 28, 3) := by decide +kernel
theorem dX5_deal_156 : decode cX5_deal 156 = .ok (.aload_n 0, 1) := by decide +kernel
theorem dX5_deal_157 : decode cX5_deal 157 = .ok (.getfield 23, 3) := by decide +kernel
theorem dX5_deal_160 : decode cX5_deal 160 = .ok (.bipush 17, 2) := by decide +kernel
theorem dX5_deal_162 : decode cX5_deal 162 = .ok (.iload_n 1, 1) := by decide +kernel
theorem dX5_deal_163 : decode cX5_deal 163 = .ok (.imul, 1) := by decide +kernel
theorem dX5_deal_164 : decode cX5_deal 164 = .ok (.iload 4, 2) := by decide +kernel
theorem dX5_deal_166 : decode cX5_deal 166 = .ok (.iadd, 1) := by decide +kernel
theorem dX5_deal_167 : decode cX5_deal 167 = .ok (.aload_n 0, 1) := by decide +kernel
theorem dX5_deal_168 : decode cX5_deal 168 = .ok (.iload_n 1, 1) := by decide +kernel
theorem dX5_deal_169 : decode cX5_deal 169 = .ok (.iload 4, 2) := by decide +kernel
theorem dX5_deal_171 : decode cX5_deal 171 = .ok (.invokevirtual 99, 3) := by decide +kernel
theorem dX5_deal_174 : decode cX5_deal 174 = .ok (.lastore, 1) := by decide +kernel
theorem dX5_deal_175 : decode cX5_deal 175 = .ok (.iinc 4 1, 3) := by decide +kernel
theorem dX5_deal_178 : decode cX5_deal 178 = .ok (.goto (-31), 3) := by decide +kernel
theorem dX5_deal_181 : decode cX5_deal 181 = .ok (.return_, 1) := by decide +kernel
theorem dX5_spoil_0 : decode cX5_spoil 0 = .ok (.aload_n 0, 1) := by decide +kernel
theorem dX5_spoil_1 : decode cX5_spoil 1 = .ok (.iload_n 1, 1) := by decide +kernel
theorem dX5_spoil_2 : decode cX5_spoil 2 = .ok (.invokevirtual 84, 3) := by decide +kernel
theorem dX5_spoil_5 : decode cX5_spoil 5 = .ok (.ifCond .eq 22, 3) := by decide +kernel
theorem dX5_spoil_8 : decode cX5_spoil 8 = .ok (.aload_n 0, 1) := by decide +kernel
theorem dX5_spoil_9 : decode cX5_spoil 9 = .ok (.iload_n 2, 1) := by decide +kernel
theorem dX5_spoil_10 : decode cX5_spoil 10 = .ok (.invokevirtual 84, 3) := by decide +kernel
theorem dX5_spoil_13 : decode cX5_spoil 13 = .ok (.ifCond .eq 14, 3) := by decide +kernel
theorem dX5_spoil_16 : decode cX5_spoil 16 = .ok (.iload_n 3, 1) := by decide +kernel
theorem dX5_spoil_17 : decode cX5_spoil 17 = .ok (.invokestatic 103, 3) := by decide +kernel
theorem dX5_spoil_20 : decode cX5_spoil 20 = .ok (.ifCond .eq 7, 3) := by decide +kernel
theorem dX5_spoil_23 : decode cX5_spoil 23 = .ok (.iconst 1, 1) := by decide +kernel
theorem dX5_spoil_24 : decode cX5_spoil 24 = .ok (.goto 4, 3) := by decide +kernel
theorem dX5_spoil_27 : decode cX5_spoil 27 = .ok (.iconst 0, 1) := by decide +kernel
theorem dX5_spoil_28 : decode cX5_spoil 28 = .ok (.istore 4, 2) := by decide +kernel
theorem dX5_spoil_30 : decode cX5_spoil 30 = .ok (.aload_n 0, 1) := by decide +kernel
theorem dX5_spoil_31 : decode cX5_spoil 31 = .ok (.iload 4, 2) := by decide +kernel
theorem dX5_spoil_33 : decode cX5_spoil 33 = .ok (.ifCond .ne 7, 3) := by decide +kernel
theorem dX5_spoil_36 : decode cX5_spoil 36 = .ok (.iconst 1, 1) := by decide +kernel
theorem dX5_spoil_37 : decode cX5_spoil 37 = .ok (.goto 24, 3) := by decide +kernel
theorem dX5_spoil_40 : decode cX5_spoil 40 = .ok (.aload_n 0, 1) := by decide +kernel
theorem dX5_spoil_41 : decode cX5_spoil 41 = .ok (.getfield 7, 3) := by decide +kernel
theorem dX5_spoil_44 : decode cX5_spoil 44 = .ok (.iload_n 1, 1) := by decide +kernel
theorem dX5_spoil_45 : decode cX5_spoil 45 = .ok (.baload, 1) := by decide +kernel
theorem dX5_spoil_46 : decode cX5_spoil 46 = .ok (.ifCond .eq 10, 3) := by decide +kernel
theorem dX5_spoil_49 : decode cX5_spoil 49 = .ok (.aload_n 0, 1) := by decide +kernel
theorem dX5_spoil_50 : decode cX5_spoil 50 = .ok (.getfield 71, 3) := by decide +kernel
theorem dX5_spoil_53 : decode cX5_spoil 53 = .ok (.ifCond .eq 7, 3) := by decide +kernel
theorem dX5_spoil_56 : decode cX5_spoil 56 = .ok (.iconst 2, 1) := by decide +kernel
theorem dX5_spoil_57 : decode cX5_spoil 57 = .ok (.goto 4, 3) := by decide +kernel
theorem dX5_spoil_60 : decode cX5_spoil 60 = .ok (.iconst 0, 1) := by decide +kernel
theorem dX5_spoil_61 : decode cX5_spoil 61 = .ok (.invokevirtual 64, 3) := by decide +kernel
theorem dX5_spoil_64 : decode cX5_spoil 64 = .ok (.ifCond .eq 5, 3) := by decide +kernel
theorem dX5_spoil_67 : decode cX5_spoil 67 = .ok (.iconst 0, 1) := by decide +kernel
theorem dX5_spoil_68 : decode cX5_spoil 68 = .ok (.ireturn, 1) := by decide +kernel
theorem dX5_spoil_69 : decode cX5_spoil 69 = .ok (.aload_n 0, 1) := by decide +kernel
theorem dX5_spoil_70 : decode cX5_spoil 70 = .ok (.getfield 23, 3) := by decide +kernel
theorem dX5_spoil_73 : decode cX5_spoil 73 = .ok (.bipush 17, 2) := by decide +kernel
theorem dX5_spoil_75 : decode cX5_spoil 75 = .ok (.iload_n 1, 1) := by decide +kernel
theorem dX5_spoil_76 : decode cX5_spoil 76 = .ok (.imul, 1) := by decide +kernel
theorem dX5_spoil_77 : decode cX5_spoil 77 = .ok (.iload_n 2, 1) := by decide +kernel
theorem dX5_spoil_78 : decode cX5_spoil 78 = .ok (.iadd, 1) := by decide +kernel
theorem dX5_spoil_79 : decode cX5_spoil 79 = .ok (.laload, 1) := by decide +kernel
theorem dX5_spoil_80 : decode cX5_spoil 80 = .ok (.l2i, 1) := by decide +kernel
theorem dX5_spoil_81 : decode cX5_spoil 81 = .ok (.istore 5, 2) := by decide +kernel
theorem dX5_spoil_83 : decode cX5_spoil 83 = .ok (.aload_n 0, 1) := by decide +kernel
theorem dX5_spoil_84 : decode cX5_spoil 84 = .ok (.getfield 23, 3) := by decide +kernel
theorem dX5_spoil_87 : decode cX5_spoil 87 = .ok (.bipush 17, 2) := by decide +kernel
theorem dX5_spoil_89 : decode cX5_spoil 89 = .ok (.iload_n 1, 1) := by decide +kernel
theorem dX5_spoil_90 : decode cX5_spoil 90 = .ok (.imul, 1) := by decide +kernel
theorem dX5_spoil_91 : decode cX5_spoil 91 = .ok (.iload_n 2, 1) := by decide +kernel
theorem dX5_spoil_92 : decode cX5_spoil 92 = .ok (.iadd, 1) := by decide +kernel
theorem dX5_spoil_93 : decode cX5_spoil 93 = .ok (.iload 5, 2) := by decide +kernel
theorem dX5_spoil_95 : decode cX5_spoil 95 = .ok (.i2l, 1) := by decide +kernel
theorem dX5_spoil_96 : decode cX5_spoil 96 = .ok (.iload_n 3, 1) := by decide +kernel
theorem dX5_spoil_97 : decode cX5_spoil 97 = .ok (.i2l, 1) := by decide +kernel
theorem dX5_spoil_98 : decode cX5_spoil 98 = .ok (.ladd, 1) := by decide +kernel
theorem dX5_spoil_99 : decode cX5_spoil 99 = .ok (.ldc2_w 62, 3) := by decide +kernel
theorem dX5_spoil_102 : decode cX5_spoil 102 = .ok (.lrem, 1) := by decide +kernel
theorem dX5_spoil_103 : decode cX5_spoil 103 = .ok (.lastore, 1) := by decide +kernel
theorem dX5_spoil_104 : decode cX5_spoil 104 = .ok (.iload 5, 2) := by decide +kernel
theorem dX5_spoil_106 : decode cX5_spoil 106 = .ok (.ireturn, 1) := by decide +kernel
theorem dX5_commitment_0 : decode cX5_commitment 0 = .ok (.aload_n 0, 1) := by decide +kernel
theorem dX5_commitment_1 : decode cX5_commitment 1 = .ok (.aload_n 0, 1) := by decide +kernel
theorem dX5_commitment_2 : decode cX5_commitment 2 = .ok (.iload_n 1, 1) := by decide +kernel
theorem dX5_commitment_3 : decode cX5_commitment 3 = .ok (.invokevirtual 84, 3) := by decide +kernel
theorem dX5_commitment_6 : decode cX5_commitment 6 = .ok (.ifCond .eq 15, 3) := by decide +kernel
theorem dX5_commitment_9 : decode cX5_commitment 9 = .ok (.iload_n 2, 1) := by decide +kernel
theorem dX5_commitment_10 : decode cX5_commitment 10 = .ok (.ifCond .lt 11, 3) := by decide +kernel
theorem dX5_commitment_13 : decode cX5_commitment 13 = .ok (.iload_n 2, 1) := by decide +kernel
theorem dX5_commitment_14 : decode cX5_commitment 14 = .ok (.aload_n 0, 1) := by decide +kernel
theorem dX5_commitment_15 : decode cX5_commitment 15 = .ok (.getfield 68, 3) := by decide +kernel
theorem dX5_commitment_18 : decode cX5_commitment 18 = .ok (.if_icmp .lt 7, 3) := by decide +kernel
theorem dX5_commitment_21 : decode cX5_commitment 21 = .ok (.iconst 1, 1) := by decide +kernel
theorem dX5_commitment_22 : decode cX5_commitment 22 = .ok (.goto 17, 3) := by decide +kernel
theorem dX5_commitment_25 : decode cX5_commitment 25 = .ok (.aload_n 0, 1) := by decide +kernel
theorem dX5_commitment_26 : decode cX5_commitment 26 = .ok (.getfield 7, 3) := by decide +kernel
theorem dX5_commitment_29 : decode cX5_commitment 29 = .ok (.iload_n 1, 1) := by decide +kernel
theorem dX5_commitment_30 : decode cX5_commitment 30 = .ok (.baload, 1) := by decide +kernel
theorem dX5_commitment_31 : decode cX5_commitment 31 = .ok (.ifCond .ne 7, 3) := by decide +kernel
theorem dX5_commitment_34 : decode cX5_commitment 34 = .ok (.iconst 2, 1) := by decide +kernel
theorem dX5_commitment_35 : decode cX5_commitment 35 = .ok (.goto 4, 3) := by decide +kernel
theorem dX5_commitment_38 : decode cX5_commitment 38 = .ok (.iconst 0, 1) := by decide +kernel
theorem dX5_commitment_39 : decode cX5_commitment 39 = .ok (.invokevirtual 64, 3) := by decide +kernel
theorem dX5_commitment_42 : decode cX5_commitment 42 = .ok (.ifCond .eq 5, 3) := by decide +kernel
theorem dX5_commitment_45 : decode cX5_commitment 45 = .ok (.iconst 0, 1) := by decide +kernel
theorem dX5_commitment_46 : decode cX5_commitment 46 = .ok (.ireturn, 1) := by decide +kernel
theorem dX5_commitment_47 : decode cX5_commitment 47 = .ok (.aload_n 0, 1) := by decide +kernel
theorem dX5_commitment_48 : decode cX5_commitment 48 = .ok (.getfield 20, 3) := by decide +kernel
theorem dX5_commitment_51 : decode cX5_commitment 51 = .ok (.bipush 17, 2) := by decide +kernel
theorem dX5_commitment_53 : decode cX5_commitment 53 = .ok (.iload_n 1, 1) := by decide +kernel
theorem dX5_commitment_54 : decode cX5_commitment 54 = .ok (.imul, 1) := by decide +kernel
theorem dX5_commitment_55 : decode cX5_commitment 55 = .ok (.iload_n 2, 1) := by decide +kernel
theorem dX5_commitment_56 : decode cX5_commitment 56 = .ok (.iadd, 1) := by decide +kernel
theorem dX5_commitment_57 : decode cX5_commitment 57 = .ok (.laload, 1) := by decide +kernel
theorem dX5_commitment_58 : decode cX5_commitment 58 = .ok (.l2i, 1) := by decide +kernel
theorem dX5_commitment_59 : decode cX5_commitment 59 = .ok (.ireturn, 1) := by decide +kernel
theorem dX5_share_0 : decode cX5_share 0 = .ok (.aload_n 0, 1) := by decide +kernel
theorem dX5_share_1 : decode cX5_share 1 = .ok (.aload_n 0, 1) := by decide +kernel
theorem dX5_share_2 : decode cX5_share 2 = .ok (.iload_n 1, 1) := by decide +kernel
theorem dX5_share_3 : decode cX5_share 3 = .ok (.invokevirtual 84, 3) := by decide +kernel
theorem dX5_share_6 : decode cX5_share 6 = .ok (.ifCond .eq 11, 3) := by decide +kernel
theorem dX5_share_9 : decode cX5_share 9 = .ok (.aload_n 0, 1) := by decide +kernel
theorem dX5_share_10 : decode cX5_share 10 = .ok (.iload_n 2, 1) := by decide +kernel
theorem dX5_share_11 : decode cX5_share 11 = .ok (.invokevirtual 84, 3) := by decide +kernel
theorem dX5_share_14 : decode cX5_share 14 = .ok (.ifCond .ne 7, 3) := by decide +kernel
theorem dX5_share_17 : decode cX5_share 17 = .ok (.iconst 1, 1) := by decide +kernel
theorem dX5_share_18 : decode cX5_share 18 = .ok (.goto 17, 3) := by decide +kernel
theorem dX5_share_21 : decode cX5_share 21 = .ok (.aload_n 0, 1) := by decide +kernel
theorem dX5_share_22 : decode cX5_share 22 = .ok (.getfield 7, 3) := by decide +kernel
theorem dX5_share_25 : decode cX5_share 25 = .ok (.iload_n 1, 1) := by decide +kernel
theorem dX5_share_26 : decode cX5_share 26 = .ok (.baload, 1) := by decide +kernel
theorem dX5_share_27 : decode cX5_share 27 = .ok (.ifCond .ne 7, 3) := by decide +kernel
theorem dX5_share_30 : decode cX5_share 30 = .ok (.iconst 2, 1) := by decide +kernel
theorem dX5_share_31 : decode cX5_share 31 = .ok (.goto 4, 3) := by decide +kernel
theorem dX5_share_34 : decode cX5_share 34 = .ok (.iconst 0, 1) := by decide +kernel
theorem dX5_share_35 : decode cX5_share 35 = .ok (.invokevirtual 64, 3) := by decide +kernel
theorem dX5_share_38 : decode cX5_share 38 = .ok (.ifCond .eq 5, 3) := by decide +kernel
theorem dX5_share_41 : decode cX5_share 41 = .ok (.iconst 0, 1) := by decide +kernel
theorem dX5_share_42 : decode cX5_share 42 = .ok (.ireturn, 1) := by decide +kernel
theorem dX5_share_43 : decode cX5_share 43 = .ok (.aload_n 0, 1) := by decide +kernel
theorem dX5_share_44 : decode cX5_share 44 = .ok (.getfield 23, 3) := by decide +kernel
theorem dX5_share_47 : decode cX5_share 47 = .ok (.bipush 17, 2) := by decide +kernel
theorem dX5_share_49 : decode cX5_share 49 = .ok (.iload_n 1, 1) := by decide +kernel
theorem dX5_share_50 : decode cX5_share 50 = .ok (.imul, 1) := by decide +kernel
theorem dX5_share_51 : decode cX5_share 51 = .ok (.iload_n 2, 1) := by decide +kernel
theorem dX5_share_52 : decode cX5_share 52 = .ok (.iadd, 1) := by decide +kernel
theorem dX5_share_53 : decode cX5_share 53 = .ok (.laload, 1) := by decide +kernel
theorem dX5_share_54 : decode cX5_share 54 = .ok (.l2i, 1) := by decide +kernel
theorem dX5_share_55 : decode cX5_share 55 = .ok (.ireturn, 1) := by decide +kernel
end
section
theorem dX5_isRight_0 : decode cX5_isRight 0 = .ok (.aload_n 0, 1) := by decide +kernel
theorem dX5_isRight_1 : decode cX5_isRight 1 = .ok (.iload_n 1, 1) := by decide +kernel
theorem dX5_isRight_2 : decode cX5_isRight 2 = .ok (.invokevirtual 84, 3) := by decide +kernel
theorem dX5_isRight_5 : decode cX5_isRight 5 = .ok (.ifCond .eq 22, 3) := by decide +kernel
theorem dX5_isRight_8 : decode cX5_isRight 8 = .ok (.aload_n 0, 1) := by decide +kernel
theorem dX5_isRight_9 : decode cX5_isRight 9 = .ok (.iload_n 2, 1) := by decide +kernel
theorem dX5_isRight_10 : decode cX5_isRight 10 = .ok (.invokevirtual 84, 3) := by decide +kernel
theorem dX5_isRight_13 : decode cX5_isRight 13 = .ok (.ifCond .eq 14, 3) := by decide +kernel
theorem dX5_isRight_16 : decode cX5_isRight 16 = .ok (.iload_n 3, 1) := by decide +kernel
theorem dX5_isRight_17 : decode cX5_isRight 17 = .ok (.invokestatic 103, 3) := by decide +kernel
theorem dX5_isRight_20 : decode cX5_isRight 20 = .ok (.ifCond .eq 7, 3) := by decide +kernel
theorem dX5_isRight_23 : decode cX5_isRight 23 = .ok (.iconst 1, 1) := by decide +kernel
theorem dX5_isRight_24 : decode cX5_isRight 24 = .ok (.goto 4, 3) := by decide +kernel
theorem dX5_isRight_27 : decode cX5_isRight 27 = .ok (.iconst 0, 1) := by decide +kernel
theorem dX5_isRight_28 : decode cX5_isRight 28 = .ok (.istore 4, 2) := by decide +kernel
theorem dX5_isRight_30 : decode cX5_isRight 30 = .ok (.aload_n 0, 1) := by decide +kernel
theorem dX5_isRight_31 : decode cX5_isRight 31 = .ok (.iload 4, 2) := by decide +kernel
theorem dX5_isRight_33 : decode cX5_isRight 33 = .ok (.ifCond .ne 7, 3) := by decide +kernel
theorem dX5_isRight_36 : decode cX5_isRight 36 = .ok (.iconst 1, 1) := by decide +kernel
theorem dX5_isRight_37 : decode cX5_isRight 37 = .ok (.goto 17, 3) := by decide +kernel
theorem dX5_isRight_40 : decode cX5_isRight 40 = .ok (.aload_n 0, 1) := by decide +kernel
theorem dX5_isRight_41 : decode cX5_isRight 41 = .ok (.getfield 7, 3) := by decide +kernel
theorem dX5_isRight_44 : decode cX5_isRight 44 = .ok (.iload_n 1, 1) := by decide +kernel
theorem dX5_isRight_45 : decode cX5_isRight 45 = .ok (.baload, 1) := by decide +kernel
theorem dX5_isRight_46 : decode cX5_isRight 46 = .ok (.ifCond .ne 7, 3) := by decide +kernel
theorem dX5_isRight_49 : decode cX5_isRight 49 = .ok (.iconst 2, 1) := by decide +kernel
theorem dX5_isRight_50 : decode cX5_isRight 50 = .ok (.goto 4, 3) := by decide +kernel
theorem dX5_isRight_53 : decode cX5_isRight 53 = .ok (.iconst 0, 1) := by decide +kernel
theorem dX5_isRight_54 : decode cX5_isRight 54 = .ok (.invokevirtual 64, 3) := by decide +kernel
theorem dX5_isRight_57 : decode cX5_isRight 57 = .ok (.ifCond .ne 19, 3) := by decide +kernel
theorem dX5_isRight_60 : decode cX5_isRight 60 = .ok (.aload_n 0, 1) := by decide +kernel
theorem dX5_isRight_61 : decode cX5_isRight 61 = .ok (.iload_n 1, 1) := by decide +kernel
theorem dX5_isRight_62 : decode cX5_isRight 62 = .ok (.iload_n 2, 1) := by decide +kernel
theorem dX5_isRight_63 : decode cX5_isRight 63 = .ok (.invokevirtual 99, 3) := by decide +kernel
theorem dX5_isRight_66 : decode cX5_isRight 66 = .ok (.iload_n 3, 1) := by decide +kernel
theorem dX5_isRight_67 : decode cX5_isRight 67 = .ok (.i2l, 1) := by decide +kernel
theorem dX5_isRight_68 : decode cX5_isRight 68 = .ok (.lcmp, 1) := by decide +kernel
theorem dX5_isRight_69 : decode cX5_isRight 69 = .ok (.ifCond .ne 7, 3) := by decide +kernel
theorem dX5_isRight_72 : decode cX5_isRight 72 = .ok (.iconst 1, 1) := by decide +kernel
theorem dX5_isRight_73 : decode cX5_isRight 73 = .ok (.goto 4, 3) := by decide +kernel
theorem dX5_isRight_76 : decode cX5_isRight 76 = .ok (.iconst 0, 1) := by decide +kernel
theorem dX5_isRight_77 : decode cX5_isRight 77 = .ok (.ireturn, 1) := by decide +kernel
theorem dX5_complain_0 : decode cX5_complain 0 = .ok (.aload_n 0, 1) := by decide +kernel
theorem dX5_complain_1 : decode cX5_complain 1 = .ok (.aload_n 0, 1) := by decide +kernel
theorem dX5_complain_2 : decode cX5_complain 2 = .ok (.getfield 71, 3) := by decide +kernel
theorem dX5_complain_5 : decode cX5_complain 5 = .ok (.ifCond .eq 7, 3) := by decide +kernel
theorem dX5_complain_8 : decode cX5_complain 8 = .ok (.iconst 1, 1) := by decide +kernel
theorem dX5_complain_9 : decode cX5_complain 9 = .ok (.goto 4, 3) := by decide +kernel
theorem dX5_complain_12 : decode cX5_complain 12 = .ok (.iconst 0, 1) := by decide +kernel
theorem dX5_complain_13 : decode cX5_complain 13 = .ok (.invokevirtual 64, 3) := by decide +kernel
theorem dX5_complain_16 : decode cX5_complain 16 = .ok (.ifCond .eq 5, 3) := by decide +kernel
theorem dX5_complain_19 : decode cX5_complain 19 = .ok (.iconst 0, 1) := by decide +kernel
theorem dX5_complain_20 : decode cX5_complain 20 = .ok (.ireturn, 1) := by decide +kernel
theorem dX5_complain_21 : decode cX5_complain 21 = .ok (.iconst 1, 1) := by decide +kernel
theorem dX5_complain_22 : decode cX5_complain 22 = .ok (.istore_n 1, 1) := by decide +kernel
theorem dX5_complain_23 : decode cX5_complain 23 = .ok (.iload_n 1, 1) := by decide +kernel
theorem dX5_complain_24 : decode cX5_complain 24 = .ok (.aload_n 0, 1) := by decide +kernel
theorem dX5_complain_25 : decode cX5_complain 25 = .ok (.getfield 59, 3) := by decide +kernel
theorem dX5_complain_28 : decode cX5_complain 28 = .ok (.if_icmp .gt 85, 3) := by decide +kernel
theorem dX5_complain_31 : decode cX5_complain 31 = .ok (.iconst 1, 1) := by decide +kernel
theorem dX5_complain_32 : decode cX5_complain 32 = .ok (.istore_n 2, 1) := by decide +kernel
theorem dX5_complain_33 : decode cX5_complain 33 = .ok (.iload_n 2, 1) := by decide +kernel
theorem dX5_complain_34 : decode cX5_complain 34 = .ok (.aload_n 0, 1) := by decide +kernel
theorem dX5_complain_35 : decode cX5_complain 35 = .ok (.getfield 59, 3) := by decide +kernel
theorem dX5_complain_38 : decode cX5_complain 38 = .ok (.if_icmp .gt 69, 3) := by decide +kernel
theorem dX5_complain_41 : decode cX5_complain 41 = .ok (.aload_n 0, 1) := by decide +kernel
theorem dX5_complain_42 : decode cX5_complain 42 = .ok (.getfield 7, 3) := by decide +kernel
theorem dX5_complain_45 : decode cX5_complain 45 = .ok (.iload_n 1, 1) := by decide +kernel
theorem dX5_complain_46 : decode cX5_complain 46 = .ok (.baload, 1) := by decide +kernel
theorem dX5_complain_47 : decode cX5_complain 47 = .ok (.ifCond .eq 60, 3) := by decide +kernel
theorem dX5_complain_50 : decode cX5_complain 50 = .ok (.aload_n 0, 1) := by decide +kernel
theorem dX5_complain_51 : decode cX5_complain 51 = .ok (.getfield 26, 3) := by decide +kernel
theorem dX5_complain_54 : decode cX5_complain 54 = .ok (.bipush 17, 2) := by decide +kernel
theorem dX5_complain_56 : decode cX5_complain 56 = .ok (.iload_n 1, 1) := by decide +kernel
theorem dX5_complain_57 : decode cX5_complain 57 = .ok (.imul, 1) := by decide +kernel
theorem dX5_complain_58 : decode cX5_complain 58 = .ok (.iload_n 2, 1) := by decide +kernel
theorem dX5_complain_59 : decode cX5_complain 59 = .ok (.iadd, 1) := by decide +kernel
theorem dX5_complain_60 : decode cX5_complain 60 = .ok (.aload_n 0, 1) := by decide +kernel
theorem dX5_complain_61 : decode cX5_complain 61 = .ok (.getfield 26, 3) := by decide +kernel
theorem dX5_complain_64 : decode cX5_complain 64 = .ok (.bipush 17, 2) := by decide +kernel
theorem dX5_complain_66 : decode cX5_complain 66 = .ok (.iload_n 1, 1) := by decide +kernel
theorem dX5_complain_67 : decode cX5_complain 67 = .ok (.imul, 1) := by decide +kernel
theorem dX5_complain_68 : decode cX5_complain 68 = .ok (.iload_n 2, 1) := by decide +kernel
theorem dX5_complain_69 : decode cX5_complain 69 = .ok (.iadd, 1) := by decide +kernel
theorem dX5_complain_70 : decode cX5_complain 70 = .ok (.baload, 1) := by decide +kernel
theorem dX5_complain_71 : decode cX5_complain 71 = .ok (.ifCond .ne 24, 3) := by decide +kernel
theorem dX5_complain_74 : decode cX5_complain 74 = .ok (.aload_n 0, 1) := by decide +kernel
theorem dX5_complain_75 : decode cX5_complain 75 = .ok (.getfield 23, 3) := by decide +kernel
theorem dX5_complain_78 : decode cX5_complain 78 = .ok (.bipush 17, 2) := by decide +kernel
theorem dX5_complain_80 : decode cX5_complain 80 = .ok (.iload_n 1, 1) := by decide +kernel
theorem dX5_complain_81 : decode cX5_complain 81 = .ok (.imul, 1) := by decide +kernel
theorem dX5_complain_82 : decode cX5_complain 82 = .ok (.iload_n 2, 1) := by decide +kernel
theorem dX5_complain_83 : decode cX5_complain 83 = .ok (.iadd, 1) := by decide +kernel
theorem dX5_complain_84 : decode cX5_complain 84 = .ok (.laload, 1) := by decide +kernel
theorem dX5_complain_85 : decode cX5_complain 85 = .ok (.aload_n 0, 1) := by decide +kernel
theorem dX5_complain_86 : decode cX5_complain 86 = .ok (.iload_n 1, 1) := by decide +kernel
theorem dX5_complain_87 : decode cX5_complain 87 = .ok (.iload_n 2, 1) := by decide +kernel
theorem dX5_complain_88 : decode cX5_complain 88 = .ok (.invokevirtual 99, 3) := by decide +kernel
theorem dX5_complain_91 : decode cX5_complain 91 = .ok (.lcmp, 1) := by decide +kernel
theorem dX5_complain_92 : decode cX5_complain 92 = .ok (.ifCond .eq 7, 3) := by decide +kernel
theorem dX5_complain_95 : decode cX5_complain 95 = .ok (.iconst 1, 1) := by decide +kernel
theorem dX5_complain_96 : decode cX5_complain 96 = .ok (.goto 4, 3) := by decide +kernel
theorem dX5_complain_99 : decode cX5_complain 99 = .ok (.iconst 0, 1) := by decide +kernel
theorem dX5_complain_100 : decode cX5_complain 100 = .ok (.bastore, 1) := by decide +kernel
theorem dX5_complain_101 : decode cX5_complain 101 = .ok (.iinc 2 1, 3) := by decide +kernel
theorem dX5_complain_104 : decode cX5_complain 104 = .ok (.goto (-71), 3) := by decide +kernel
theorem dX5_complain_107 : decode cX5_complain 107 = .ok (.iinc 1 1, 3) := by decide +kernel
theorem dX5_complain_110 : decode cX5_complain 110 = .ok (.goto (-87), 3) := by decide +kernel
theorem dX5_complain_113 : decode cX5_complain 113 = .ok (.aload_n 0, 1) := by decide +kernel
theorem dX5_complain_114 : decode cX5_complain 114 = .ok (.iconst 0, 1) := by decide +kernel
theorem dX5_complain_115 : decode cX5_complain 115 = .ok (.invokevirtual 106, 3) := by decide +kernel
theorem dX5_complain_118 : decode cX5_complain 118 = .ok (.ireturn, 1) := by decide +kernel
theorem dX5_complaints_0 : decode cX5_complaints 0 = .ok (.iconst 0, 1) := by decide +kernel
theorem dX5_complaints_1 : decode cX5_complaints 1 = .ok (.istore_n 2, 1) := by decide +kernel
theorem dX5_complaints_2 : decode cX5_complaints 2 = .ok (.iconst 1, 1) := by decide +kernel
theorem dX5_complaints_3 : decode cX5_complaints 3 = .ok (.istore_n 3, 1) := by decide +kernel
theorem dX5_complaints_4 : decode cX5_complaints 4 = .ok (.iload_n 3, 1) := by decide +kernel
theorem dX5_complaints_5 : decode cX5_complaints 5 = .ok (.aload_n 0, 1) := by decide +kernel
theorem dX5_complaints_6 : decode cX5_complaints 6 = .ok (.getfield 59, 3) := by decide +kernel
theorem dX5_complaints_9 : decode cX5_complaints 9 = .ok (.if_icmp .gt 59, 3) := by decide +kernel
theorem dX5_complaints_12 : decode cX5_complaints 12 = .ok (.iconst 1, 1) := by decide +kernel
theorem dX5_complaints_13 : decode cX5_complaints 13 = .ok (.istore 4, 2) := by decide +kernel
theorem dX5_complaints_15 : decode cX5_complaints 15 = .ok (.iload 4, 2) := by decide +kernel
theorem dX5_complaints_17 : decode cX5_complaints 17 = .ok (.aload_n 0, 1) := by decide +kernel
theorem dX5_complaints_18 : decode cX5_complaints 18 = .ok (.getfield 59, 3) := by decide +kernel
theorem dX5_complaints_21 : decode cX5_complaints 21 = .ok (.if_icmp .gt 41, 3) := by decide +kernel
theorem dX5_complaints_24 : decode cX5_complaints 24 = .ok (.iload_n 2, 1) := by decide +kernel
theorem dX5_complaints_25 : decode cX5_complaints 25 = .ok (.aload_n 0, 1) := by decide +kernel
theorem dX5_complaints_26 : decode cX5_complaints 26 = .ok (.getfield 26, 3) := by decide +kernel
theorem dX5_complaints_29 : decode cX5_complaints 29 = .ok (.bipush 17, 2) := by decide +kernel
theorem dX5_complaints_31 : decode cX5_complaints 31 = .ok (.iload_n 3, 1) := by decide +kernel
theorem dX5_complaints_32 : decode cX5_complaints 32 = .ok (.imul, 1) := by decide +kernel
theorem dX5_complaints_33 : decode cX5_complaints 33 = .ok (.iload 4, 2) := by decide +kernel
theorem dX5_complaints_35 : decode cX5_complaints 35 = .ok (.iadd, 1) := by decide +kernel
theorem dX5_complaints_36 : decode cX5_complaints 36 = .ok (.baload, 1) := by decide +kernel
theorem dX5_complaints_37 : decode cX5_complaints 37 = .ok (.ifCond .eq 16, 3) := by decide +kernel
theorem dX5_complaints_40 : decode cX5_complaints 40 = .ok (.iload_n 1, 1) := by decide +kernel
theorem dX5_complaints_41 : decode cX5_complaints 41 = .ok (.ifCond .eq 8, 3) := by decide +kernel
theorem dX5_complaints_44 : decode cX5_complaints 44 = .ok (.iload_n 1, 1) := by decide +kernel
theorem dX5_complaints_45 : decode cX5_complaints 45 = .ok (.iload_n 3, 1) := by decide +kernel
theorem dX5_complaints_46 : decode cX5_complaints 46 = .ok (.if_icmp .ne 7, 3) := by decide +kernel
theorem dX5_complaints_49 : decode cX5_complaints 49 = .ok (.iconst 1, 1) := by decide +kernel
theorem dX5_complaints_50 : decode cX5_complaints 50 = .ok (.goto 4, 3) := by decide +kernel
theorem dX5_complaints_53 : decode cX5_complaints 53 = .ok (.iconst 0, 1) := by decide +kernel
theorem dX5_complaints_54 : decode cX5_complaints 54 = .ok (.iadd, 1) := by decide +kernel
theorem dX5_complaints_55 : decode cX5_complaints 55 = .ok (.istore_n 2, 1) := by decide +kernel
theorem dX5_complaints_56 : decode cX5_complaints 56 = .ok (.iinc 4 1, 3) := by decide +kernel
theorem dX5_complaints_59 : decode cX5_complaints 59 = .ok (.goto (-44), 3) := by decide +kernel
theorem dX5_complaints_62 : decode cX5_complaints 62 = .ok (.iinc 3 1, 3) := by decide +kernel
theorem dX5_complaints_65 : decode cX5_complaints 65 = .ok (.goto (-61), 3) := by decide +kernel
theorem dX5_complaints_68 : decode cX5_complaints 68 = .ok (.iload_n 2, 1) := by decide +kernel
theorem dX5_complaints_69 : decode cX5_complaints 69 = .ok (.ireturn, 1) := by decide +kernel
theorem dX5_answer_0 : decode cX5_answer 0 = .ok (.aload_n 0, 1) := by decide +kernel
theorem dX5_answer_1 : decode cX5_answer 1 = .ok (.iload_n 1, 1) := by decide +kernel
theorem dX5_answer_2 : decode cX5_answer 2 = .ok (.invokevirtual 84, 3) := by decide +kernel
theorem dX5_answer_5 : decode cX5_answer 5 = .ok (.ifCond .eq 22, 3) := by decide +kernel
theorem dX5_answer_8 : decode cX5_answer 8 = .ok (.aload_n 0, 1) := by decide +kernel
theorem dX5_answer_9 : decode cX5_answer 9 = .ok (.iload_n 2, 1) := by decide +kernel
theorem dX5_answer_10 : decode cX5_answer 10 = .ok (.invokevirtual 84, 3) := by decide +kernel
theorem dX5_answer_13 : decode cX5_answer 13 = .ok (.ifCond .eq 14, 3) := by decide +kernel
theorem dX5_answer_16 : decode cX5_answer 16 = .ok (.iload_n 3, 1) := by decide +kernel
theorem dX5_answer_17 : decode cX5_answer 17 = .ok (.invokestatic 103, 3) := by decide +kernel
theorem dX5_answer_20 : decode cX5_answer 20 = .ok (.ifCond .eq 7, 3) := by decide +kernel
theorem dX5_answer_23 : decode cX5_answer 23 = .ok (.iconst 1, 1) := by decide +kernel
theorem dX5_answer_24 : decode cX5_answer 24 = .ok (.goto 4, 3) := by decide +kernel
theorem dX5_answer_27 : decode cX5_answer 27 = .ok (.iconst 0, 1) := by decide +kernel
theorem dX5_answer_28 : decode cX5_answer 28 = .ok (.istore 4, 2) := by decide +kernel
theorem dX5_answer_30 : decode cX5_answer 30 = .ok (.aload_n 0, 1) := by decide +kernel
theorem dX5_answer_31 : decode cX5_answer 31 = .ok (.iload 4, 2) := by decide +kernel
theorem dX5_answer_33 : decode cX5_answer 33 = .ok (.ifCond .ne 7, 3) := by decide +kernel
theorem dX5_answer_36 : decode cX5_answer 36 = .ok (.iconst 1, 1) := by decide +kernel
theorem dX5_answer_37 : decode cX5_answer 37 = .ok (.goto 29, 3) := by decide +kernel
theorem dX5_answer_40 : decode cX5_answer 40 = .ok (.aload_n 0, 1) := by decide +kernel
theorem dX5_answer_41 : decode cX5_answer 41 = .ok (.getfield 71, 3) := by decide +kernel
theorem dX5_answer_44 : decode cX5_answer 44 = .ok (.ifCond .ne 17, 3) := by decide +kernel
theorem dX5_answer_47 : decode cX5_answer 47 = .ok (.aload_n 0, 1) := by decide +kernel
theorem dX5_answer_48 : decode cX5_answer 48 = .ok (.getfield 26, 3) := by decide +kernel
theorem dX5_answer_51 : decode cX5_answer 51 = .ok (.bipush 17, 2) := by decide +kernel
theorem dX5_answer_53 : decode cX5_answer 53 = .ok (.iload_n 1, 1) := by decide +kernel
theorem dX5_answer_54 : decode cX5_answer 54 = .ok (.imul, 1) := by decide +kernel
theorem dX5_answer_55 : decode cX5_answer 55 = .ok (.iload_n 2, 1) := by decide +kernel
theorem dX5_answer_56 : decode cX5_answer 56 = .ok (.iadd, 1) := by decide +kernel
theorem dX5_answer_57 : decode cX5_answer 57 = .ok (.baload, 1) := by decide +kernel
theorem dX5_answer_58 : decode cX5_answer 58 = .ok (.ifCond .ne 7, 3) := by decide +kernel
theorem dX5_answer_61 : decode cX5_answer 61 = .ok (.iconst 2, 1) := by decide +kernel
theorem dX5_answer_62 : decode cX5_answer 62 = .ok (.goto 4, 3) := by decide +kernel
theorem dX5_answer_65 : decode cX5_answer 65 = .ok (.iconst 0, 1) := by decide +kernel
theorem dX5_answer_66 : decode cX5_answer 66 = .ok (.invokevirtual 64, 3) := by decide +kernel
theorem dX5_answer_69 : decode cX5_answer 69 = .ok (.ifCond .eq 5, 3) := by decide +kernel
theorem dX5_answer_72 : decode cX5_answer 72 = .ok (.iconst 0, 1) := by decide +kernel
theorem dX5_answer_73 : decode cX5_answer 73 = .ok (.ireturn, 1) := by decide +kernel
theorem dX5_answer_74 : decode cX5_answer 74 = .ok (.iload_n 3, 1) := by decide +kernel
theorem dX5_answer_75 : decode cX5_answer 75 = .ok (.ifCond .le 12, 3) := by decide +kernel
theorem dX5_answer_78 : decode cX5_answer 78 = .ok (.aload_n 0, 1) := by decide +kernel
theorem dX5_answer_79 : decode cX5_answer 79 = .ok (.getfield 13, 3) := by decide +kernel
theorem dX5_answer_82 : decode cX5_answer 82 = .ok (.iload_n 1, 1) := by decide +kernel
theorem dX5_answer_83 : decode cX5_answer 83 = .ok (.iconst 1, 1) := by decide +kernel
theorem dX5_answer_84 : decode cX5_answer 84 = .ok (.bastore, 1) := by decide +kernel
theorem dX5_answer_85 : decode cX5_answer 85 = .ok (.iconst 0, 1) := by decide +kernel
theorem dX5_answer_86 : decode cX5_answer 86 = .ok (.ireturn, 1) := by decide +kernel
theorem dX5_answer_87 : decode cX5_answer 87 = .ok (.aload_n 0, 1) := by decide +kernel
theorem dX5_answer_88 : decode cX5_answer 88 = .ok (.getfield 23, 3) := by decide +kernel
theorem dX5_answer_91 : decode cX5_answer 91 = .ok (.bipush 17, 2) := by decide +kernel
theorem dX5_answer_93 : decode cX5_answer 93 = .ok (.iload_n 1, 1) := by decide +kernel
theorem dX5_answer_94 : decode cX5_answer 94 = .ok (.imul, 1) := by decide +kernel
theorem dX5_answer_95 : decode cX5_answer 95 = .ok (.iload_n 2, 1) := by decide +kernel
theorem dX5_answer_96 : decode cX5_answer 96 = .ok (.iadd, 1) := by decide +kernel
theorem dX5_answer_97 : decode cX5_answer 97 = .ok (.aload_n 0, 1) := by decide +kernel
theorem dX5_answer_98 : decode cX5_answer 98 = .ok (.iload_n 1, 1) := by decide +kernel
theorem dX5_answer_99 : decode cX5_answer 99 = .ok (.iload_n 2, 1) := by decide +kernel
theorem dX5_answer_100 : decode cX5_answer 100 = .ok (.invokevirtual 99, 3) := by decide +kernel
theorem dX5_answer_103 : decode cX5_answer 103 = .ok (.lastore, 1) := by decide +kernel
theorem dX5_answer_104 : decode cX5_answer 104 = .ok (.aload_n 0, 1) := by decide +kernel
theorem dX5_answer_105 : decode cX5_answer 105 = .ok (.getfield 26, 3) := by decide +kernel
theorem dX5_answer_108 : decode cX5_answer 108 = .ok (.bipush 17, 2) := by decide +kernel
theorem dX5_answer_110 : decode cX5_answer 110 = .ok (.iload_n 1, 1) := by decide +kernel
theorem dX5_answer_111 : decode cX5_answer 111 = .ok (.imul, 1) := by decide +kernel
theorem dX5_answer_112 : decode cX5_answer 112 = .ok (.iload_n 2, 1) := by decide +kernel
theorem dX5_answer_113 : decode cX5_answer 113 = .ok (.iadd, 1) := by decide +kernel
theorem dX5_answer_114 : decode cX5_answer 114 = .ok (.iconst 0, 1) := by decide +kernel
theorem dX5_answer_115 : decode cX5_answer 115 = .ok (.bastore, 1) := by decide +kernel
theorem dX5_answer_116 : decode cX5_answer 116 = .ok (.iconst 1, 1) := by decide +kernel
theorem dX5_answer_117 : decode cX5_answer 117 = .ok (.ireturn, 1) := by decide +kernel
theorem dX5_isQualified_0 : decode cX5_isQualified 0 = .ok (.aload_n 0, 1) := by decide +kernel
theorem dX5_isQualified_1 : decode cX5_isQualified 1 = .ok (.getfield 7, 3) := by decide +kernel
theorem dX5_isQualified_4 : decode cX5_isQualified 4 = .ok (.iload_n 1, 1) := by decide +kernel
theorem dX5_isQualified_5 : decode cX5_isQualified 5 = .ok (.baload, 1) := by decide +kernel
theorem dX5_isQualified_6 : decode cX5_isQualified 6 = .ok (.ifCond .eq 24, 3) := by decide +kernel
theorem dX5_isQualified_9 : decode cX5_isQualified 9 = .ok (.aload_n 0, 1) := by decide +kernel
theorem dX5_isQualified_10 : decode cX5_isQualified 10 = .ok (.getfield 13, 3) := by decide +kernel
theorem dX5_isQualified_13 : decode cX5_isQualified 13 = .ok (.iload_n 1, 1) := by decide +kernel
theorem dX5_isQualified_14 : decode cX5_isQualified 14 = .ok (.baload, 1) := by decide +kernel
theorem dX5_isQualified_15 : decode cX5_isQualified 15 = .ok (.ifCond .ne 15, 3) := by decide +kernel
theorem dX5_isQualified_18 : decode cX5_isQualified 18 = .ok (.aload_n 0, 1) := by decide +kernel
theorem dX5_isQualified_19 : decode cX5_isQualified 19 = .ok (.iload_n 1, 1) := by decide +kernel
theorem dX5_isQualified_20 : decode cX5_isQualified 20 = .ok (.invokevirtual 106, 3) := by decide +kernel
theorem dX5_isQualified_23 : decode cX5_isQualified 23 = .ok (.ifCond .ne 7, 3) := by decide +kernel
theorem dX5_isQualified_26 : decode cX5_isQualified 26 = .ok (.iconst 1, 1) := by decide +kernel
theorem dX5_isQualified_27 : decode cX5_isQualified 27 = .ok (.goto 4, 3) := by decide +kernel
theorem dX5_isQualified_30 : decode cX5_isQualified 30 = .ok (.iconst 0, 1) := by decide +kernel
theorem dX5_isQualified_31 : decode cX5_isQualified 31 = .ok (.ireturn, 1) := by decide +kernel
theorem dX5_close_0 : decode cX5_close 0 = .ok (.iconst 0, 1) := by decide +kernel
theorem dX5_close_1 : decode cX5_close 1 = .ok (.istore_n 3, 1) := by decide +kernel
theorem dX5_close_2 : decode cX5_close 2 = .ok (.iconst 0, 1) := by decide +kernel
theorem dX5_close_3 : decode cX5_close 3 = .ok (.istore 4, 2) := by decide +kernel
theorem dX5_close_5 : decode cX5_close 5 = .ok (.iconst 1, 1) := by decide +kernel
theorem dX5_close_6 : decode cX5_close 6 = .ok (.istore 5, 2) := by decide +kernel
theorem dX5_close_8 : decode cX5_close 8 = .ok (.iload 5, 2) := by decide +kernel
theorem dX5_close_10 : decode cX5_close 10 = .ok (.aload_n 0, 1) := by decide +kernel
theorem dX5_close_11 : decode cX5_close 11 = .ok (.getfield 59, 3) := by decide +kernel
theorem dX5_close_14 : decode cX5_close 14 = .ok (.if_icmp .gt 48, 3) := by decide +kernel
theorem dX5_close_17 : decode cX5_close 17 = .ok (.iload_n 3, 1) := by decide +kernel
theorem dX5_close_18 : decode cX5_close 18 = .ok (.aload_n 0, 1) := by decide +kernel
theorem dX5_close_19 : decode cX5_close 19 = .ok (.iload 5, 2) := by decide +kernel
theorem dX5_close_21 : decode cX5_close 21 = .ok (.invokevirtual 110, 3) := by decide +kernel
theorem dX5_close_24 : decode cX5_close 24 = .ok (.ifCond .eq 10, 3) := by decide +kernel
theorem dX5_close_27 : decode cX5_close 27 = .ok (.iconst 1, 1) := by decide +kernel
theorem dX5_close_28 : decode cX5_close 28 = .ok (.iload 5, 2) := by decide +kernel
theorem dX5_close_30 : decode cX5_close 30 = .ok (.ishl, 1) := by decide +kernel
theorem dX5_close_31 : decode cX5_close 31 = .ok (.goto 4, 3) := by decide +kernel
theorem dX5_close_34 : decode cX5_close 34 = .ok (.iconst 0, 1) := by decide +kernel
theorem dX5_close_35 : decode cX5_close 35 = .ok (.ior, 1) := by decide +kernel
theorem dX5_close_36 : decode cX5_close 36 = .ok (.istore_n 3, 1) := by decide +kernel
theorem dX5_close_37 : decode cX5_close 37 = .ok (.iload 4, 2) := by decide +kernel
theorem dX5_close_39 : decode cX5_close 39 = .ok (.aload_n 0, 1) := by decide +kernel
theorem dX5_close_40 : decode cX5_close 40 = .ok (.iload 5, 2) := by decide +kernel
theorem dX5_close_42 : decode cX5_close 42 = .ok (.invokevirtual 110, 3) := by decide +kernel
theorem dX5_close_45 : decode cX5_close 45 = .ok (.ifCond .eq 7, 3) := by decide +kernel
theorem dX5_close_48 : decode cX5_close 48 = .ok (.iconst 1, 1) := by decide +kernel
theorem dX5_close_49 : decode cX5_close 49 = .ok (.goto 4, 3) := by decide +kernel
theorem dX5_close_52 : decode cX5_close 52 = .ok (.iconst 0, 1) := by decide +kernel
theorem dX5_close_53 : decode cX5_close 53 = .ok (.iadd, 1) := by decide +kernel
theorem dX5_close_54 : decode cX5_close 54 = .ok (.istore 4, 2) := by decide +kernel
theorem dX5_close_56 : decode cX5_close 56 = .ok (.iinc 5 1, 3) := by decide +kernel
theorem dX5_close_59 : decode cX5_close 59 = .ok (.goto (-51), 3) := by decide +kernel
theorem dX5_close_62 : decode cX5_close 62 = .ok (.aload_n 0, 1) := by decide +kernel
theorem dX5_close_63 : decode cX5_close 63 = .ok (.aload_n 0, 1) := by decide +kernel
theorem dX5_close_64 : decode cX5_close 64 = .ok (.getfield 71, 3) := by decide +kernel
theorem dX5_close_67 : decode cX5_close 67 = .ok (.ifCond .ne 8, 3) := by decide +kernel
theorem dX5_close_70 : decode cX5_close 70 = .ok (.iload 4, 2) := by decide +kernel
theorem dX5_close_72 : decode cX5_close 72 = .ok (.ifCond .ne 7, 3) := by decide +kernel
theorem dX5_close_75 : decode cX5_close 75 = .ok (.iconst 1, 1) := by decide +kernel
theorem dX5_close_76 : decode cX5_close 76 = .ok (.goto 4, 3) := by decide +kernel
theorem dX5_close_79 : decode cX5_close 79 = .ok (.iconst 0, 1) := by decide +kernel
theorem dX5_close_80 : decode cX5_close 80 = .ok (.invokevirtual 64, 3) := by decide +kernel
theorem dX5_close_83 : decode cX5_close 83 = .ok (.ifCond .eq 5, 3) := by decide +kernel
theorem dX5_close_86 : decode cX5_close 86 = .ok (.iconst 0, 1) := by decide +kernel
theorem dX5_close_87 : decode cX5_close 87 = .ok (.ireturn, 1) := by decide +kernel
theorem dX5_close_88 : decode cX5_close 88 = .ok (.aload_n 0, 1) := by decide +kernel
theorem dX5_close_89 : decode cX5_close 89 = .ok (.iconst 1, 1) := by decide +kernel
theorem dX5_close_90 : decode cX5_close 90 = .ok (.putfield 71, 3) := by decide +kernel
theorem dX5_close_93 : decode cX5_close 93 = .ok (.aload_n 0, 1) := by decide +kernel
theorem dX5_close_94 : decode cX5_close 94 = .ok (.iload_n 3, 1) := by decide +kernel
theorem dX5_close_95 : decode cX5_close 95 = .ok (.putfield 75, 3) := by decide +kernel
theorem dX5_close_98 : decode cX5_close 98 = .ok (.aload_n 0, 1) := by decide +kernel
theorem dX5_close_99 : decode cX5_close 99 = .ok (.getfield 35, 3) := by decide +kernel
theorem dX5_close_102 : decode cX5_close 102 = .ok (.iconst 0, 1) := by decide +kernel
theorem dX5_close_103 : decode cX5_close 103 = .ok (.lload_n 1, 1) := by decide +kernel
theorem dX5_close_104 : decode cX5_close 104 = .ok (.lastore, 1) := by decide +kernel
theorem dX5_close_105 : decode cX5_close 105 = .ok (.aload_n 0, 1) := by decide +kernel
theorem dX5_close_106 : decode cX5_close 106 = .ok (.iconst 0, 1) := by decide +kernel
theorem dX5_close_107 : decode cX5_close 107 = .ok (.putfield 78, 3) := by decide +kernel
theorem dX5_close_110 : decode cX5_close 110 = .ok (.aload_n 0, 1) := by decide +kernel
theorem dX5_close_111 : decode cX5_close 111 = .ok (.iconst 0, 1) := by decide +kernel
theorem dX5_close_112 : decode cX5_close 112 = .ok (.putfield 81, 3) := by decide +kernel
theorem dX5_close_115 : decode cX5_close 115 = .ok (.iconst 0, 1) := by decide +kernel
theorem dX5_close_116 : decode cX5_close 116 = .ok (.istore 5, 2) := by decide +kernel
theorem dX5_close_118 : decode cX5_close 118 = .ok (.iload 5, 2) := by decide +kernel
theorem dX5_close_120 : decode cX5_close 120 = .ok (.aload_n 0, 1) := by decide +kernel
theorem dX5_close_121 : decode cX5_close 121 = .ok (.getfield 59, 3) := by decide +kernel
theorem dX5_close_124 : decode cX5_close 124 = .ok (.if_icmp .gt 115, 3) := by decide +kernel
theorem dX5_close_127 : decode cX5_close 127 = .ok (.lconst 0, 1) := by decide +kernel
theorem dX5_close_128 : decode cX5_close 128 = .ok (.lstore 6, 2) := by decide +kernel
theorem dX5_close_130 : decode cX5_close 130 = .ok (.iconst 1, 1) := by decide +kernel
theorem dX5_close_131 : decode cX5_close 131 = .ok (.istore 8, 2) := by decide +kernel
theorem dX5_close_133 : decode cX5_close 133 = .ok (.iload 8, 2) := by decide +kernel
theorem dX5_close_135 : decode cX5_close 135 = .ok (.aload_n 0, 1) := by decide +kernel
theorem dX5_close_136 : decode cX5_close 136 = .ok (.getfield 59, 3) := by decide +kernel
theorem dX5_close_139 : decode cX5_close 139 = .ok (.if_icmp .gt 58, 3) := by decide +kernel
theorem dX5_close_142 : decode cX5_close 142 = .ok (.lload 6, 2) := by decide +kernel
theorem dX5_close_144 : decode cX5_close 144 = .ok (.iload_n 3, 1) := by decide +kernel
theorem dX5_close_145 : decode cX5_close 145 = .ok (.iload 8, 2) := by decide +kernel
theorem dX5_close_147 : decode cX5_close 147 = .ok (.ishr, 1) := by decide +kernel
theorem dX5_close_148 : decode cX5_close 148 = .ok (.iconst 1, 1) := by decide +kernel
theorem dX5_close_149 : decode cX5_close 149 = .ok (.iand, 1) := by decide +kernel
theorem dX5_close_150 : decode cX5_close 150 = .ok (.ifCond .ne 7, 3) := by decide +kernel
theorem dX5_close_153 : decode cX5_close 153 = .ok (.lconst 0, 1) := by decide +kernel
theorem dX5_close_154 : decode cX5_close 154 = .ok (.goto 34, 3) := by decide +kernel
theorem dX5_close_157 : decode cX5_close 157 = .ok (.iload 5, 2) := by decide +kernel
theorem dX5_close_159 : decode cX5_close 159 = .ok (.ifCond .ne 16, 3) := by decide +kernel
theorem dX5_close_162 : decode cX5_close 162 = .ok (.aload_n 0, 1) := by decide +kernel
theorem dX5_close_163 : decode cX5_close 163 = .ok (.getfield 16, 3) := by decide +kernel
theorem dX5_close_166 : decode cX5_close 166 = .ok (.bipush 17, 2) := by decide +kernel
theorem dX5_close_168 : decode cX5_close 168 = .ok (.iload 8, 2) := by decide +kernel
theorem dX5_close_170 : decode cX5_close 170 = .ok (.imul, 1) := by decide +kernel
theorem dX5_close_171 : decode cX5_close 171 = .ok (.laload, 1) := by decide +kernel
theorem dX5_close_172 : decode cX5_close 172 = .ok (.goto 16, 3) := by decide +kernel
theorem dX5_close_175 : decode cX5_close 175 = .ok (.aload_n 0, 1) := by decide +kernel
theorem dX5_close_176 : decode cX5_close 176 = .ok (.getfield 23, 3) := by decide +kernel
theorem dX5_close_179 : decode cX5_close 179 = .ok (.bipush 17, 2) := by decide +kernel
theorem dX5_close_181 : decode cX5_close 181 = .ok (.iload 8, 2) := by decide +kernel
theorem dX5_close_183 : decode cX5_close 183 = .ok (.imul, 1) := by decide +kernel
theorem dX5_close_184 : decode cX5_close 184 = .ok (.iload 5, 2) := by decide +kernel
theorem dX5_close_186 : decode cX5_close 186 = .ok (.iadd, 1) := by decide +kernel
theorem dX5_close_187 : decode cX5_close 187 = .ok (.laload, 1) := by decide +kernel
theorem dX5_close_188 : decode cX5_close 188 = .ok (.ladd, 1) := by decide +kernel
theorem dX5_close_189 : decode cX5_close 189 = .ok (.lstore 6, 2) := by decide +kernel
theorem dX5_close_191 : decode cX5_close 191 = .ok (.iinc 8 1, 3) := by decide +kernel
theorem dX5_close_194 : decode cX5_close 194 = .ok (.goto (-61), 3) := by decide +kernel
theorem dX5_close_197 : decode cX5_close 197 = .ok (.aload_n 0, 1) := by decide +kernel
theorem dX5_close_198 : decode cX5_close 198 = .ok (.getfield 29, 3) := by decide +kernel
theorem dX5_close_201 : decode cX5_close 201 = .ok (.iload 5, 2) := by decide +kernel
theorem dX5_close_203 : decode cX5_close 203 = .ok (.lload 6, 2) := by decide +kernel
theorem dX5_close_205 : decode cX5_close 205 = .ok (.ldc2_w 62, 3) := by decide +kernel
theorem dX5_close_208 : decode cX5_close 208 = .ok (.lrem, 1) := by decide +kernel
theorem dX5_close_209 : decode cX5_close 209 = .ok (.lastore, 1) := by decide +kernel
theorem dX5_close_210 : decode cX5_close 210 = .ok (.aload_n 0, 1) := by decide +kernel
theorem dX5_close_211 : decode cX5_close 211 = .ok (.getfield 32, 3) := by decide +kernel
theorem dX5_close_214 : decode cX5_close 214 = .ok (.iload 5, 2) := by decide +kernel
theorem dX5_close_216 : decode cX5_close 216 = .ok (.ldc2_w 91, 3) := by decide +kernel
theorem dX5_close_219 : decode cX5_close 219 = .ok (.aload_n 0, 1) := by decide +kernel
theorem dX5_close_220 : decode cX5_close 220 = .ok (.getfield 29, 3) := by decide +kernel
theorem dX5_close_223 : decode cX5_close 223 = .ok (.iload 5, 2) := by decide +kernel
theorem dX5_close_225 : decode cX5_close 225 = .ok (.laload, 1) := by decide +kernel
theorem dX5_close_226 : decode cX5_close 226 = .ok (.ldc2_w 93, 3) := by decide +kernel
theorem dX5_close_229 : decode cX5_close 229 = .ok (.invokestatic 95, 3) := by decide +kernel
theorem dX5_close_232 : decode cX5_close 232 = .ok (.lastore, 1) := by decide +kernel
theorem dX5_close_233 : decode cX5_close 233 = .ok (.iinc 5 1, 3) := by decide +kernel
theorem dX5_close_236 : decode cX5_close 236 = .ok (.goto (-118), 3) := by decide +kernel
theorem dX5_close_239 : decode cX5_close 239 = .ok (.iload 4, 2) := by decide +kernel
theorem dX5_close_241 : decode cX5_close 241 = .ok (.ireturn, 1) := by decide +kernel
theorem dX5_key_0 : decode cX5_key 0 = .ok (.aload_n 0, 1) := by decide +kernel
theorem dX5_key_1 : decode cX5_key 1 = .ok (.iload_n 1, 1) := by decide +kernel
theorem dX5_key_2 : decode cX5_key 2 = .ok (.invokevirtual 84, 3) := by decide +kernel
theorem dX5_key_5 : decode cX5_key 5 = .ok (.ifCond .ne 12, 3) := by decide +kernel
theorem dX5_key_8 : decode cX5_key 8 = .ok (.iload_n 1, 1) := by decide +kernel
theorem dX5_key_9 : decode cX5_key 9 = .ok (.ifCond .ne 21, 3) := by decide +kernel
theorem dX5_key_12 : decode cX5_key 12 = .ok (.iload_n 2, 1) := by decide +kernel
theorem dX5_key_13 : decode cX5_key 13 = .ok (.iconst 1, 1) := by decide +kernel
theorem dX5_key_14 : decode cX5_key 14 = .ok (.if_icmp .ne 16, 3) := by decide +kernel
theorem dX5_key_17 : decode cX5_key 17 = .ok (.iload_n 2, 1) := by decide +kernel
theorem dX5_key_18 : decode cX5_key 18 = .ok (.ifCond .lt 12, 3) := by decide +kernel
theorem dX5_key_21 : decode cX5_key 21 = .ok (.iload_n 2, 1) := by decide +kernel
theorem dX5_key_22 : decode cX5_key 22 = .ok (.iconst 1, 1) := by decide +kernel
theorem dX5_key_23 : decode cX5_key 23 = .ok (.if_icmp .gt 7, 3) := by decide +kernel
theorem dX5_key_26 : decode cX5_key 26 = .ok (.iconst 1, 1) := by decide +kernel
theorem dX5_key_27 : decode cX5_key 27 = .ok (.goto 4, 3) := by decide +kernel
theorem dX5_key_30 : decode cX5_key 30 = .ok (.iconst 0, 1) := by decide +kernel
theorem dX5_key_31 : decode cX5_key 31 = .ok (.istore_n 3, 1) := by decide +kernel
theorem dX5_key_32 : decode cX5_key 32 = .ok (.aload_n 0, 1) := by decide +kernel
theorem dX5_key_33 : decode cX5_key 33 = .ok (.iload_n 3, 1) := by decide +kernel
theorem dX5_key_34 : decode cX5_key 34 = .ok (.ifCond .ne 7, 3) := by decide +kernel
theorem dX5_key_37 : decode cX5_key 37 = .ok (.iconst 1, 1) := by decide +kernel
theorem dX5_key_38 : decode cX5_key 38 = .ok (.goto 15, 3) := by decide +kernel
theorem dX5_key_41 : decode cX5_key 41 = .ok (.aload_n 0, 1) := by decide +kernel
theorem dX5_key_42 : decode cX5_key 42 = .ok (.getfield 71, 3) := by decide +kernel
theorem dX5_key_45 : decode cX5_key 45 = .ok (.ifCond .ne 7, 3) := by decide +kernel
theorem dX5_key_48 : decode cX5_key 48 = .ok (.iconst 2, 1) := by decide +kernel
theorem dX5_key_49 : decode cX5_key 49 = .ok (.goto 4, 3) := by decide +kernel
theorem dX5_key_52 : decode cX5_key 52 = .ok (.iconst 0, 1) := by decide +kernel
theorem dX5_key_53 : decode cX5_key 53 = .ok (.invokevirtual 64, 3) := by decide +kernel
theorem dX5_key_56 : decode cX5_key 56 = .ok (.ifCond .eq 5, 3) := by decide +kernel
theorem dX5_key_59 : decode cX5_key 59 = .ok (.iconst 0, 1) := by decide +kernel
theorem dX5_key_60 : decode cX5_key 60 = .ok (.ireturn, 1) := by decide +kernel
theorem dX5_key_61 : decode cX5_key 61 = .ok (.iload_n 2, 1) := by decide +kernel
theorem dX5_key_62 : decode cX5_key 62 = .ok (.ifCond .ne 12, 3) := by decide +kernel
theorem dX5_key_65 : decode cX5_key 65 = .ok (.aload_n 0, 1) := by decide +kernel
theorem dX5_key_66 : decode cX5_key 66 = .ok (.getfield 29, 3) := by decide +kernel
theorem dX5_key_69 : decode cX5_key 69 = .ok (.iload_n 1, 1) := by decide +kernel
theorem dX5_key_70 : decode cX5_key 70 = .ok (.laload, 1) := by decide +kernel
theorem dX5_key_71 : decode cX5_key 71 = .ok (.goto 9, 3) := by decide +kernel
theorem dX5_key_74 : decode cX5_key 74 = .ok (.aload_n 0, 1) := by decide +kernel
theorem dX5_key_75 : decode cX5_key 75 = .ok (.getfield 32, 3) := by decide +kernel
theorem dX5_key_78 : decode cX5_key 78 = .ok (.iload_n 1, 1) := by decide +kernel
theorem dX5_key_79 : decode cX5_key 79 = .ok (.laload, 1) := by decide +kernel
theorem dX5_key_80 : decode cX5_key 80 = .ok (.l2i, 1) := by decide +kernel
theorem dX5_key_81 : decode cX5_key 81 = .ok (.ireturn, 1) := by decide +kernel
theorem dX5_message_0 : decode cX5_message 0 = .ok (.aload_n 0, 1) := by decide +kernel
theorem dX5_message_1 : decode cX5_message 1 = .ok (.lconst 0, 1) := by decide +kernel
theorem dX5_message_2 : decode cX5_message 2 = .ok (.putfield 45, 3) := by decide +kernel
theorem dX5_message_5 : decode cX5_message 5 = .ok (.aload_n 0, 1) := by decide +kernel
theorem dX5_message_6 : decode cX5_message 6 = .ok (.aload_n 0, 1) := by decide +kernel
theorem dX5_message_7 : decode cX5_message 7 = .ok (.getfield 35, 3) := by decide +kernel
theorem dX5_message_10 : decode cX5_message 10 = .ok (.aload_n 0, 1) := by decide +kernel
theorem dX5_message_11 : decode cX5_message 11 = .ok (.getfield 78, 3) := by decide +kernel
theorem dX5_message_14 : decode cX5_message 14 = .ok (.laload, 1) := by decide +kernel
theorem dX5_message_15 : decode cX5_message 15 = .ok (.invokevirtual 87, 3) := by decide +kernel
theorem dX5_message_18 : decode cX5_message 18 = .ok (.aload_n 0, 1) := by decide +kernel
theorem dX5_message_19 : decode cX5_message 19 = .ok (.aload_n 0, 1) := by decide +kernel
theorem dX5_message_20 : decode cX5_message 20 = .ok (.getfield 78, 3) := by decide +kernel
theorem dX5_message_23 : decode cX5_message 23 = .ok (.i2l, 1) := by decide +kernel
theorem dX5_message_24 : decode cX5_message 24 = .ok (.lconst 1, 1) := by decide +kernel
theorem dX5_message_25 : decode cX5_message 25 = .ok (.ladd, 1) := by decide +kernel
theorem dX5_message_26 : decode cX5_message 26 = .ok (.invokevirtual 87, 3) := by decide +kernel
theorem dX5_message_29 : decode cX5_message 29 = .ok (.aload_n 0, 1) := by decide +kernel
theorem dX5_message_30 : decode cX5_message 30 = .ok (.getfield 45, 3) := by decide +kernel
theorem dX5_message_33 : decode cX5_message 33 = .ok (.lreturn, 1) := by decide +kernel
theorem dX5_base_0 : decode cX5_base 0 = .ok (.aload_n 0, 1) := by decide +kernel
theorem dX5_base_1 : decode cX5_base 1 = .ok (.invokevirtual 113, 3) := by decide +kernel
theorem dX5_base_4 : decode cX5_base 4 = .ok (.ldc2_w 117, 3) := by decide +kernel
theorem dX5_base_7 : decode cX5_base 7 = .ok (.invokestatic 55, 3) := by decide +kernel
theorem dX5_base_10 : decode cX5_base 10 = .ok (.lconst 1, 1) := by decide +kernel
theorem dX5_base_11 : decode cX5_base 11 = .ok (.ladd, 1) := by decide +kernel
theorem dX5_base_12 : decode cX5_base 12 = .ok (.lstore_n 1, 1) := by decide +kernel
theorem dX5_base_13 : decode cX5_base 13 = .ok (.lload_n 1, 1) := by decide +kernel
theorem dX5_base_14 : decode cX5_base 14 = .ok (.lload_n 1, 1) := by decide +kernel
theorem dX5_base_15 : decode cX5_base 15 = .ok (.lmul, 1) := by decide +kernel
theorem dX5_base_16 : decode cX5_base 16 = .ok (.ldc2_w 93, 3) := by decide +kernel
theorem dX5_base_19 : decode cX5_base 19 = .ok (.lrem, 1) := by decide +kernel
theorem dX5_base_20 : decode cX5_base 20 = .ok (.lreturn, 1) := by decide +kernel
theorem dX5_round_0 : decode cX5_round 0 = .ok (.aload_n 0, 1) := by decide +kernel
theorem dX5_round_1 : decode cX5_round 1 = .ok (.aload_n 0, 1) := by decide +kernel
theorem dX5_round_2 : decode cX5_round 2 = .ok (.getfield 71, 3) := by decide +kernel
theorem dX5_round_5 : decode cX5_round 5 = .ok (.ifCond .ne 7, 3) := by decide +kernel
theorem dX5_round_8 : decode cX5_round 8 = .ok (.iconst 1, 1) := by decide +kernel
theorem dX5_round_9 : decode cX5_round 9 = .ok (.goto 17, 3) := by decide +kernel
theorem dX5_round_12 : decode cX5_round 12 = .ok (.iload_n 1, 1) := by decide +kernel
theorem dX5_round_13 : decode cX5_round 13 = .ok (.ifCond .lt 8, 3) := by decide +kernel
theorem dX5_round_16 : decode cX5_round 16 = .ok (.iload_n 1, 1) := by decide +kernel
theorem dX5_round_17 : decode cX5_round 17 = .ok (.iconst 3, 1) := by decide +kernel
theorem dX5_round_18 : decode cX5_round 18 = .ok (.if_icmp .le 7, 3) := by decide +kernel
theorem dX5_round_21 : decode cX5_round 21 = .ok (.iconst 2, 1) := by decide +kernel
theorem dX5_round_22 : decode cX5_round 22 = .ok (.goto 4, 3) := by decide +kernel
theorem dX5_round_25 : decode cX5_round 25 = .ok (.iconst 0, 1) := by decide +kernel
theorem dX5_round_26 : decode cX5_round 26 = .ok (.invokevirtual 64, 3) := by decide +kernel
theorem dX5_round_29 : decode cX5_round 29 = .ok (.ifCond .eq 5, 3) := by decide +kernel
theorem dX5_round_32 : decode cX5_round 32 = .ok (.iconst 0, 1) := by decide +kernel
theorem dX5_round_33 : decode cX5_round 33 = .ok (.ireturn, 1) := by decide +kernel
theorem dX5_round_34 : decode cX5_round 34 = .ok (.iconst 0, 1) := by decide +kernel
theorem dX5_round_35 : decode cX5_round 35 = .ok (.istore_n 2, 1) := by decide +kernel
theorem dX5_round_36 : decode cX5_round 36 = .ok (.iconst 1, 1) := by decide +kernel
theorem dX5_round_37 : decode cX5_round 37 = .ok (.istore_n 3, 1) := by decide +kernel
theorem dX5_round_38 : decode cX5_round 38 = .ok (.iload_n 3, 1) := by decide +kernel
theorem dX5_round_39 : decode cX5_round 39 = .ok (.aload_n 0, 1) := by decide +kernel
theorem dX5_round_40 : decode cX5_round 40 = .ok (.getfield 59, 3) := by decide +kernel
theorem dX5_round_43 : decode cX5_round 43 = .ok (.if_icmp .gt 20, 3) := by decide +kernel
theorem dX5_round_46 : decode cX5_round 46 = .ok (.iload_n 2, 1) := by decide +kernel
theorem dX5_round_47 : decode cX5_round 47 = .ok (.aload_n 0, 1) := by decide +kernel
theorem dX5_round_48 : decode cX5_round 48 = .ok (.getfield 81, 3) := by decide +kernel
theorem dX5_round_51 : decode cX5_round 51 = .ok (.iload_n 3, 1) := by decide +kernel
theorem dX5_round_52 : decode cX5_round 52 = .ok (.ishr, 1) := by decide +kernel
theorem dX5_round_53 : decode cX5_round 53 = .ok (.iconst 1, 1) := by decide +kernel
theorem dX5_round_54 : decode cX5_round 54 = .ok (.iand, 1) := by decide +kernel
theorem dX5_round_55 : decode cX5_round 55 = .ok (.iadd, 1) := by decide +kernel
theorem dX5_round_56 : decode cX5_round 56 = .ok (.istore_n 2, 1) := by decide +kernel
theorem dX5_round_57 : decode cX5_round 57 = .ok (.iinc 3 1, 3) := by decide +kernel
theorem dX5_round_60 : decode cX5_round 60 = .ok (.goto (-22), 3) := by decide +kernel
theorem dX5_round_63 : decode cX5_round 63 = .ok (.iload_n 1, 1) := by decide +kernel
theorem dX5_round_64 : decode cX5_round 64 = .ok (.ifCond .ne 12, 3) := by decide +kernel
theorem dX5_round_67 : decode cX5_round 67 = .ok (.aload_n 0, 1) := by decide +kernel
theorem dX5_round_68 : decode cX5_round 68 = .ok (.getfield 78, 3) := by decide +kernel
theorem dX5_round_71 : decode cX5_round 71 = .ok (.iconst 1, 1) := by decide +kernel
theorem dX5_round_72 : decode cX5_round 72 = .ok (.iadd, 1) := by decide +kernel
theorem dX5_round_73 : decode cX5_round 73 = .ok (.goto 29, 3) := by decide +kernel
theorem dX5_round_76 : decode cX5_round 76 = .ok (.iload_n 1, 1) := by decide +kernel
theorem dX5_round_77 : decode cX5_round 77 = .ok (.iconst 1, 1) := by decide +kernel
theorem dX5_round_78 : decode cX5_round 78 = .ok (.if_icmp .ne 11, 3) := by decide +kernel
theorem dX5_round_81 : decode cX5_round 81 = .ok (.aload_n 0, 1) := by decide +kernel
theorem dX5_round_82 : decode cX5_round 82 = .ok (.invokevirtual 119, 3) := by decide +kernel
theorem dX5_round_85 : decode cX5_round 85 = .ok (.l2i, 1) := by decide +kernel
end
section
theorem dX5_round_86 : decode cX5_round 86 = .ok (.goto 16, 3) := by decide +kernel
theorem dX5_round_89 : decode cX5_round 89 = .ok (.iload_n 1, 1) := by decide +kernel
theorem dX5_round_90 : decode cX5_round 90 = .ok (.iconst 2, 1) := by decide +kernel
theorem dX5_round_91 : decode cX5_round 91 = .ok (.if_icmp .ne 7, 3) := by decide +kernel
theorem dX5_round_94 : decode cX5_round 94 = .ok (.iload_n 2, 1) := by decide +kernel
theorem dX5_round_95 : decode cX5_round 95 = .ok (.goto 7, 3) := by decide +kernel
theorem dX5_round_98 : decode cX5_round 98 = .ok (.aload_n 0, 1) := by decide +kernel
theorem dX5_round_99 : decode cX5_round 99 = .ok (.getfield 81, 3) := by decide +kernel
theorem dX5_round_102 : decode cX5_round 102 = .ok (.ireturn, 1) := by decide +kernel
theorem dX5_challenge_0 : decode cX5_challenge 0 = .ok (.aload_n 0, 1) := by decide +kernel
theorem dX5_challenge_1 : decode cX5_challenge 1 = .ok (.lconst 0, 1) := by decide +kernel
theorem dX5_challenge_2 : decode cX5_challenge 2 = .ok (.putfield 45, 3) := by decide +kernel
theorem dX5_challenge_5 : decode cX5_challenge 5 = .ok (.aload_n 0, 1) := by decide +kernel
theorem dX5_challenge_6 : decode cX5_challenge 6 = .ok (.lload_n 1, 1) := by decide +kernel
theorem dX5_challenge_7 : decode cX5_challenge 7 = .ok (.invokevirtual 87, 3) := by decide +kernel
theorem dX5_challenge_10 : decode cX5_challenge 10 = .ok (.aload_n 0, 1) := by decide +kernel
theorem dX5_challenge_11 : decode cX5_challenge 11 = .ok (.lload_n 3, 1) := by decide +kernel
theorem dX5_challenge_12 : decode cX5_challenge 12 = .ok (.invokevirtual 87, 3) := by decide +kernel
theorem dX5_challenge_15 : decode cX5_challenge 15 = .ok (.aload_n 0, 1) := by decide +kernel
theorem dX5_challenge_16 : decode cX5_challenge 16 = .ok (.lload 5, 2) := by decide +kernel
theorem dX5_challenge_18 : decode cX5_challenge 18 = .ok (.invokevirtual 87, 3) := by decide +kernel
theorem dX5_challenge_21 : decode cX5_challenge 21 = .ok (.aload_n 0, 1) := by decide +kernel
theorem dX5_challenge_22 : decode cX5_challenge 22 = .ok (.lload 7, 2) := by decide +kernel
theorem dX5_challenge_24 : decode cX5_challenge 24 = .ok (.invokevirtual 87, 3) := by decide +kernel
theorem dX5_challenge_27 : decode cX5_challenge 27 = .ok (.aload_n 0, 1) := by decide +kernel
theorem dX5_challenge_28 : decode cX5_challenge 28 = .ok (.lload 9, 2) := by decide +kernel
theorem dX5_challenge_30 : decode cX5_challenge 30 = .ok (.invokevirtual 87, 3) := by decide +kernel
theorem dX5_challenge_33 : decode cX5_challenge 33 = .ok (.aload_n 0, 1) := by decide +kernel
theorem dX5_challenge_34 : decode cX5_challenge 34 = .ok (.getfield 45, 3) := by decide +kernel
theorem dX5_challenge_37 : decode cX5_challenge 37 = .ok (.ldc2_w 62, 3) := by decide +kernel
theorem dX5_challenge_40 : decode cX5_challenge 40 = .ok (.invokestatic 55, 3) := by decide +kernel
theorem dX5_challenge_43 : decode cX5_challenge 43 = .ok (.lreturn, 1) := by decide +kernel
theorem dX5_said_0 : decode cX5_said 0 = .ok (.aload_n 0, 1) := by decide +kernel
theorem dX5_said_1 : decode cX5_said 1 = .ok (.invokevirtual 119, 3) := by decide +kernel
theorem dX5_said_4 : decode cX5_said 4 = .ok (.lstore_n 3, 1) := by decide +kernel
theorem dX5_said_5 : decode cX5_said 5 = .ok (.lload_n 3, 1) := by decide +kernel
theorem dX5_said_6 : decode cX5_said 6 = .ok (.aload_n 0, 1) := by decide +kernel
theorem dX5_said_7 : decode cX5_said 7 = .ok (.getfield 29, 3) := by decide +kernel
theorem dX5_said_10 : decode cX5_said 10 = .ok (.iload_n 1, 1) := by decide +kernel
theorem dX5_said_11 : decode cX5_said 11 = .ok (.laload, 1) := by decide +kernel
theorem dX5_said_12 : decode cX5_said 12 = .ok (.ldc2_w 93, 3) := by decide +kernel
theorem dX5_said_15 : decode cX5_said 15 = .ok (.invokestatic 95, 3) := by decide +kernel
theorem dX5_said_18 : decode cX5_said 18 = .ok (.lstore 5, 2) := by decide +kernel
theorem dX5_said_20 : decode cX5_said 20 = .ok (.iload_n 2, 1) := by decide +kernel
theorem dX5_said_21 : decode cX5_said 21 = .ok (.ifCond .ne 6, 3) := by decide +kernel
theorem dX5_said_24 : decode cX5_said 24 = .ok (.lload 5, 2) := by decide +kernel
theorem dX5_said_26 : decode cX5_said 26 = .ok (.lreturn, 1) := by decide +kernel
theorem dX5_said_27 : decode cX5_said 27 = .ok (.aload_n 0, 1) := by decide +kernel
theorem dX5_said_28 : decode cX5_said 28 = .ok (.invokevirtual 113, 3) := by decide +kernel
theorem dX5_said_31 : decode cX5_said 31 = .ok (.lstore 7, 2) := by decide +kernel
theorem dX5_said_33 : decode cX5_said 33 = .ok (.aload_n 0, 1) := by decide +kernel
theorem dX5_said_34 : decode cX5_said 34 = .ok (.lconst 0, 1) := by decide +kernel
theorem dX5_said_35 : decode cX5_said 35 = .ok (.putfield 45, 3) := by decide +kernel
theorem dX5_said_38 : decode cX5_said 38 = .ok (.aload_n 0, 1) := by decide +kernel
theorem dX5_said_39 : decode cX5_said 39 = .ok (.aload_n 0, 1) := by decide +kernel
theorem dX5_said_40 : decode cX5_said 40 = .ok (.getfield 29, 3) := by decide +kernel
theorem dX5_said_43 : decode cX5_said 43 = .ok (.iload_n 1, 1) := by decide +kernel
theorem dX5_said_44 : decode cX5_said 44 = .ok (.laload, 1) := by decide +kernel
theorem dX5_said_45 : decode cX5_said 45 = .ok (.invokevirtual 87, 3) := by decide +kernel
theorem dX5_said_48 : decode cX5_said 48 = .ok (.aload_n 0, 1) := by decide +kernel
theorem dX5_said_49 : decode cX5_said 49 = .ok (.lload 7, 2) := by decide +kernel
theorem dX5_said_51 : decode cX5_said 51 = .ok (.invokevirtual 87, 3) := by decide +kernel
theorem dX5_said_54 : decode cX5_said 54 = .ok (.aload_n 0, 1) := by decide +kernel
theorem dX5_said_55 : decode cX5_said 55 = .ok (.getfield 45, 3) := by decide +kernel
theorem dX5_said_58 : decode cX5_said 58 = .ok (.ldc2_w 62, 3) := by decide +kernel
theorem dX5_said_61 : decode cX5_said 61 = .ok (.invokestatic 55, 3) := by decide +kernel
theorem dX5_said_64 : decode cX5_said 64 = .ok (.lstore 9, 2) := by decide +kernel
theorem dX5_said_66 : decode cX5_said 66 = .ok (.aload_n 0, 1) := by decide +kernel
theorem dX5_said_67 : decode cX5_said 67 = .ok (.lload_n 3, 1) := by decide +kernel
theorem dX5_said_68 : decode cX5_said 68 = .ok (.aload_n 0, 1) := by decide +kernel
theorem dX5_said_69 : decode cX5_said 69 = .ok (.getfield 32, 3) := by decide +kernel
theorem dX5_said_72 : decode cX5_said 72 = .ok (.iload_n 1, 1) := by decide +kernel
theorem dX5_said_73 : decode cX5_said 73 = .ok (.laload, 1) := by decide +kernel
theorem dX5_said_74 : decode cX5_said 74 = .ok (.lload 5, 2) := by decide +kernel
theorem dX5_said_76 : decode cX5_said 76 = .ok (.ldc2_w 91, 3) := by decide +kernel
theorem dX5_said_79 : decode cX5_said 79 = .ok (.lload 9, 2) := by decide +kernel
theorem dX5_said_81 : decode cX5_said 81 = .ok (.ldc2_w 93, 3) := by decide +kernel
theorem dX5_said_84 : decode cX5_said 84 = .ok (.invokestatic 95, 3) := by decide +kernel
theorem dX5_said_87 : decode cX5_said 87 = .ok (.lload_n 3, 1) := by decide +kernel
theorem dX5_said_88 : decode cX5_said 88 = .ok (.lload 9, 2) := by decide +kernel
theorem dX5_said_90 : decode cX5_said 90 = .ok (.ldc2_w 93, 3) := by decide +kernel
theorem dX5_said_93 : decode cX5_said 93 = .ok (.invokestatic 95, 3) := by decide +kernel
theorem dX5_said_96 : decode cX5_said 96 = .ok (.invokevirtual 122, 3) := by decide +kernel
theorem dX5_said_99 : decode cX5_said 99 = .ok (.lstore 11, 2) := by decide +kernel
theorem dX5_said_101 : decode cX5_said 101 = .ok (.iload_n 2, 1) := by decide +kernel
theorem dX5_said_102 : decode cX5_said 102 = .ok (.iconst 1, 1) := by decide +kernel
theorem dX5_said_103 : decode cX5_said 103 = .ok (.if_icmp .ne 8, 3) := by decide +kernel
theorem dX5_said_106 : decode cX5_said 106 = .ok (.lload 11, 2) := by decide +kernel
theorem dX5_said_108 : decode cX5_said 108 = .ok (.goto 19, 3) := by decide +kernel
theorem dX5_said_111 : decode cX5_said 111 = .ok (.lload 9, 2) := by decide +kernel
theorem dX5_said_113 : decode cX5_said 113 = .ok (.lload 11, 2) := by decide +kernel
theorem dX5_said_115 : decode cX5_said 115 = .ok (.aload_n 0, 1) := by decide +kernel
theorem dX5_said_116 : decode cX5_said 116 = .ok (.getfield 29, 3) := by decide +kernel
theorem dX5_said_119 : decode cX5_said 119 = .ok (.iload_n 1, 1) := by decide +kernel
theorem dX5_said_120 : decode cX5_said 120 = .ok (.laload, 1) := by decide +kernel
theorem dX5_said_121 : decode cX5_said 121 = .ok (.lmul, 1) := by decide +kernel
theorem dX5_said_122 : decode cX5_said 122 = .ok (.ladd, 1) := by decide +kernel
theorem dX5_said_123 : decode cX5_said 123 = .ok (.ldc2_w 62, 3) := by decide +kernel
theorem dX5_said_126 : decode cX5_said 126 = .ok (.lrem, 1) := by decide +kernel
theorem dX5_said_127 : decode cX5_said 127 = .ok (.lreturn, 1) := by decide +kernel
theorem dX5_says_0 : decode cX5_says 0 = .ok (.aload_n 0, 1) := by decide +kernel
theorem dX5_says_1 : decode cX5_says 1 = .ok (.aload_n 0, 1) := by decide +kernel
theorem dX5_says_2 : decode cX5_says 2 = .ok (.getfield 71, 3) := by decide +kernel
theorem dX5_says_5 : decode cX5_says 5 = .ok (.ifCond .ne 7, 3) := by decide +kernel
theorem dX5_says_8 : decode cX5_says 8 = .ok (.iconst 1, 1) := by decide +kernel
theorem dX5_says_9 : decode cX5_says 9 = .ok (.goto 25, 3) := by decide +kernel
theorem dX5_says_12 : decode cX5_says 12 = .ok (.aload_n 0, 1) := by decide +kernel
theorem dX5_says_13 : decode cX5_says 13 = .ok (.iload_n 1, 1) := by decide +kernel
theorem dX5_says_14 : decode cX5_says 14 = .ok (.invokevirtual 84, 3) := by decide +kernel
theorem dX5_says_17 : decode cX5_says 17 = .ok (.ifCond .eq 12, 3) := by decide +kernel
theorem dX5_says_20 : decode cX5_says 20 = .ok (.iload_n 2, 1) := by decide +kernel
theorem dX5_says_21 : decode cX5_says 21 = .ok (.ifCond .lt 8, 3) := by decide +kernel
theorem dX5_says_24 : decode cX5_says 24 = .ok (.iload_n 2, 1) := by decide +kernel
theorem dX5_says_25 : decode cX5_says 25 = .ok (.iconst 2, 1) := by decide +kernel
theorem dX5_says_26 : decode cX5_says 26 = .ok (.if_icmp .le 7, 3) := by decide +kernel
theorem dX5_says_29 : decode cX5_says 29 = .ok (.iconst 2, 1) := by decide +kernel
theorem dX5_says_30 : decode cX5_says 30 = .ok (.goto 4, 3) := by decide +kernel
theorem dX5_says_33 : decode cX5_says 33 = .ok (.iconst 0, 1) := by decide +kernel
theorem dX5_says_34 : decode cX5_says 34 = .ok (.invokevirtual 64, 3) := by decide +kernel
theorem dX5_says_37 : decode cX5_says 37 = .ok (.ifCond .eq 5, 3) := by decide +kernel
theorem dX5_says_40 : decode cX5_says 40 = .ok (.iconst 0, 1) := by decide +kernel
theorem dX5_says_41 : decode cX5_says 41 = .ok (.ireturn, 1) := by decide +kernel
theorem dX5_says_42 : decode cX5_says 42 = .ok (.aload_n 0, 1) := by decide +kernel
theorem dX5_says_43 : decode cX5_says 43 = .ok (.iload_n 1, 1) := by decide +kernel
theorem dX5_says_44 : decode cX5_says 44 = .ok (.iload_n 2, 1) := by decide +kernel
theorem dX5_says_45 : decode cX5_says 45 = .ok (.invokevirtual 126, 3) := by decide +kernel
theorem dX5_says_48 : decode cX5_says 48 = .ok (.l2i, 1) := by decide +kernel
theorem dX5_says_49 : decode cX5_says 49 = .ok (.ireturn, 1) := by decide +kernel
theorem dX5_quotient_0 : decode cX5_quotient 0 = .ok (.lload_n 0, 1) := by decide +kernel
theorem dX5_quotient_1 : decode cX5_quotient 1 = .ok (.lload_n 2, 1) := by decide +kernel
theorem dX5_quotient_2 : decode cX5_quotient 2 = .ok (.ldc2_w 93, 3) := by decide +kernel
theorem dX5_quotient_5 : decode cX5_quotient 5 = .ok (.invokestatic 95, 3) := by decide +kernel
theorem dX5_quotient_8 : decode cX5_quotient 8 = .ok (.lload 4, 2) := by decide +kernel
theorem dX5_quotient_10 : decode cX5_quotient 10 = .ok (.ldc2_w 117, 3) := by decide +kernel
theorem dX5_quotient_13 : decode cX5_quotient 13 = .ok (.lload 6, 2) := by decide +kernel
theorem dX5_quotient_15 : decode cX5_quotient 15 = .ok (.lsub, 1) := by decide +kernel
theorem dX5_quotient_16 : decode cX5_quotient 16 = .ok (.ldc2_w 93, 3) := by decide +kernel
theorem dX5_quotient_19 : decode cX5_quotient 19 = .ok (.invokestatic 95, 3) := by decide +kernel
theorem dX5_quotient_22 : decode cX5_quotient 22 = .ok (.lmul, 1) := by decide +kernel
theorem dX5_quotient_23 : decode cX5_quotient 23 = .ok (.ldc2_w 93, 3) := by decide +kernel
theorem dX5_quotient_26 : decode cX5_quotient 26 = .ok (.lrem, 1) := by decide +kernel
theorem dX5_quotient_27 : decode cX5_quotient 27 = .ok (.lreturn, 1) := by decide +kernel
theorem dX5_holds_0 : decode cX5_holds 0 = .ok (.lload_n 2, 1) := by decide +kernel
theorem dX5_holds_1 : decode cX5_holds 1 = .ok (.lconst 1, 1) := by decide +kernel
theorem dX5_holds_2 : decode cX5_holds 2 = .ok (.lcmp, 1) := by decide +kernel
theorem dX5_holds_3 : decode cX5_holds 3 = .ok (.ifCond .lt 58, 3) := by decide +kernel
theorem dX5_holds_6 : decode cX5_holds 6 = .ok (.lload_n 2, 1) := by decide +kernel
theorem dX5_holds_7 : decode cX5_holds 7 = .ok (.ldc2_w 93, 3) := by decide +kernel
theorem dX5_holds_10 : decode cX5_holds 10 = .ok (.lcmp, 1) := by decide +kernel
theorem dX5_holds_11 : decode cX5_holds 11 = .ok (.ifCond .ge 50, 3) := by decide +kernel
theorem dX5_holds_14 : decode cX5_holds 14 = .ok (.lload_n 2, 1) := by decide +kernel
theorem dX5_holds_15 : decode cX5_holds 15 = .ok (.ldc2_w 62, 3) := by decide +kernel
theorem dX5_holds_18 : decode cX5_holds 18 = .ok (.ldc2_w 93, 3) := by decide +kernel
theorem dX5_holds_21 : decode cX5_holds 21 = .ok (.invokestatic 95, 3) := by decide +kernel
theorem dX5_holds_24 : decode cX5_holds 24 = .ok (.lconst 1, 1) := by decide +kernel
theorem dX5_holds_25 : decode cX5_holds 25 = .ok (.lcmp, 1) := by decide +kernel
theorem dX5_holds_26 : decode cX5_holds 26 = .ok (.ifCond .ne 35, 3) := by decide +kernel
theorem dX5_holds_29 : decode cX5_holds 29 = .ok (.lload 4, 2) := by decide +kernel
theorem dX5_holds_31 : decode cX5_holds 31 = .ok (.lconst 0, 1) := by decide +kernel
theorem dX5_holds_32 : decode cX5_holds 32 = .ok (.lcmp, 1) := by decide +kernel
theorem dX5_holds_33 : decode cX5_holds 33 = .ok (.ifCond .lt 28, 3) := by decide +kernel
theorem dX5_holds_36 : decode cX5_holds 36 = .ok (.lload 4, 2) := by decide +kernel
theorem dX5_holds_38 : decode cX5_holds 38 = .ok (.ldc2_w 62, 3) := by decide +kernel
theorem dX5_holds_41 : decode cX5_holds 41 = .ok (.lcmp, 1) := by decide +kernel
theorem dX5_holds_42 : decode cX5_holds 42 = .ok (.ifCond .ge 19, 3) := by decide +kernel
theorem dX5_holds_45 : decode cX5_holds 45 = .ok (.lload 6, 2) := by decide +kernel
theorem dX5_holds_47 : decode cX5_holds 47 = .ok (.lconst 0, 1) := by decide +kernel
theorem dX5_holds_48 : decode cX5_holds 48 = .ok (.lcmp, 1) := by decide +kernel
theorem dX5_holds_49 : decode cX5_holds 49 = .ok (.ifCond .lt 12, 3) := by decide +kernel
theorem dX5_holds_52 : decode cX5_holds 52 = .ok (.lload 6, 2) := by decide +kernel
theorem dX5_holds_54 : decode cX5_holds 54 = .ok (.ldc2_w 62, 3) := by decide +kernel
theorem dX5_holds_57 : decode cX5_holds 57 = .ok (.lcmp, 1) := by decide +kernel
theorem dX5_holds_58 : decode cX5_holds 58 = .ok (.ifCond .lt 5, 3) := by decide +kernel
theorem dX5_holds_61 : decode cX5_holds 61 = .ok (.iconst 0, 1) := by decide +kernel
theorem dX5_holds_62 : decode cX5_holds 62 = .ok (.ireturn, 1) := by decide +kernel
theorem dX5_holds_63 : decode cX5_holds 63 = .ok (.aload_n 0, 1) := by decide +kernel
theorem dX5_holds_64 : decode cX5_holds 64 = .ok (.invokevirtual 119, 3) := by decide +kernel
theorem dX5_holds_67 : decode cX5_holds 67 = .ok (.lstore 8, 2) := by decide +kernel
theorem dX5_holds_69 : decode cX5_holds 69 = .ok (.lload 4, 2) := by decide +kernel
theorem dX5_holds_71 : decode cX5_holds 71 = .ok (.aload_n 0, 1) := by decide +kernel
theorem dX5_holds_72 : decode cX5_holds 72 = .ok (.lload 8, 2) := by decide +kernel
theorem dX5_holds_74 : decode cX5_holds 74 = .ok (.aload_n 0, 1) := by decide +kernel
theorem dX5_holds_75 : decode cX5_holds 75 = .ok (.getfield 32, 3) := by decide +kernel
theorem dX5_holds_78 : decode cX5_holds 78 = .ok (.iload_n 1, 1) := by decide +kernel
theorem dX5_holds_79 : decode cX5_holds 79 = .ok (.laload, 1) := by decide +kernel
theorem dX5_holds_80 : decode cX5_holds 80 = .ok (.lload_n 2, 1) := by decide +kernel
theorem dX5_holds_81 : decode cX5_holds 81 = .ok (.ldc2_w 91, 3) := by decide +kernel
theorem dX5_holds_84 : decode cX5_holds 84 = .ok (.lload 6, 2) := by decide +kernel
theorem dX5_holds_86 : decode cX5_holds 86 = .ok (.aload_n 0, 1) := by decide +kernel
theorem dX5_holds_87 : decode cX5_holds 87 = .ok (.getfield 32, 3) := by decide +kernel
theorem dX5_holds_90 : decode cX5_holds 90 = .ok (.iload_n 1, 1) := by decide +kernel
theorem dX5_holds_91 : decode cX5_holds 91 = .ok (.laload, 1) := by decide +kernel
theorem dX5_holds_92 : decode cX5_holds 92 = .ok (.lload 4, 2) := by decide +kernel
theorem dX5_holds_94 : decode cX5_holds 94 = .ok (.invokestatic 129, 3) := by decide +kernel
theorem dX5_holds_97 : decode cX5_holds 97 = .ok (.lload 8, 2) := by decide +kernel
theorem dX5_holds_99 : decode cX5_holds 99 = .ok (.lload 6, 2) := by decide +kernel
theorem dX5_holds_101 : decode cX5_holds 101 = .ok (.lload_n 2, 1) := by decide +kernel
theorem dX5_holds_102 : decode cX5_holds 102 = .ok (.lload 4, 2) := by decide +kernel
theorem dX5_holds_104 : decode cX5_holds 104 = .ok (.invokestatic 129, 3) := by decide +kernel
theorem dX5_holds_107 : decode cX5_holds 107 = .ok (.invokevirtual 122, 3) := by decide +kernel
theorem dX5_holds_110 : decode cX5_holds 110 = .ok (.lcmp, 1) := by decide +kernel
theorem dX5_holds_111 : decode cX5_holds 111 = .ok (.ifCond .ne 7, 3) := by decide +kernel
theorem dX5_holds_114 : decode cX5_holds 114 = .ok (.iconst 1, 1) := by decide +kernel
theorem dX5_holds_115 : decode cX5_holds 115 = .ok (.goto 4, 3) := by decide +kernel
theorem dX5_holds_118 : decode cX5_holds 118 = .ok (.iconst 0, 1) := by decide +kernel
theorem dX5_holds_119 : decode cX5_holds 119 = .ok (.ireturn, 1) := by decide +kernel
theorem dX5_offer_0 : decode cX5_offer 0 = .ok (.aload_n 0, 1) := by decide +kernel
theorem dX5_offer_1 : decode cX5_offer 1 = .ok (.aload_n 0, 1) := by decide +kernel
theorem dX5_offer_2 : decode cX5_offer 2 = .ok (.getfield 71, 3) := by decide +kernel
theorem dX5_offer_5 : decode cX5_offer 5 = .ok (.ifCond .ne 7, 3) := by decide +kernel
theorem dX5_offer_8 : decode cX5_offer 8 = .ok (.iconst 1, 1) := by decide +kernel
theorem dX5_offer_9 : decode cX5_offer 9 = .ok (.goto 24, 3) := by decide +kernel
theorem dX5_offer_12 : decode cX5_offer 12 = .ok (.aload_n 0, 1) := by decide +kernel
theorem dX5_offer_13 : decode cX5_offer 13 = .ok (.iload_n 1, 1) := by decide +kernel
theorem dX5_offer_14 : decode cX5_offer 14 = .ok (.invokevirtual 84, 3) := by decide +kernel
theorem dX5_offer_17 : decode cX5_offer 17 = .ok (.ifCond .eq 11, 3) := by decide +kernel
theorem dX5_offer_20 : decode cX5_offer 20 = .ok (.aload_n 0, 1) := by decide +kernel
theorem dX5_offer_21 : decode cX5_offer 21 = .ok (.iload_n 2, 1) := by decide +kernel
theorem dX5_offer_22 : decode cX5_offer 22 = .ok (.invokevirtual 84, 3) := by decide +kernel
theorem dX5_offer_25 : decode cX5_offer 25 = .ok (.ifCond .ne 7, 3) := by decide +kernel
theorem dX5_offer_28 : decode cX5_offer 28 = .ok (.iconst 2, 1) := by decide +kernel
theorem dX5_offer_29 : decode cX5_offer 29 = .ok (.goto 4, 3) := by decide +kernel
theorem dX5_offer_32 : decode cX5_offer 32 = .ok (.iconst 0, 1) := by decide +kernel
theorem dX5_offer_33 : decode cX5_offer 33 = .ok (.invokevirtual 64, 3) := by decide +kernel
theorem dX5_offer_36 : decode cX5_offer 36 = .ok (.ifCond .eq 5, 3) := by decide +kernel
theorem dX5_offer_39 : decode cX5_offer 39 = .ok (.iconst 0, 1) := by decide +kernel
theorem dX5_offer_40 : decode cX5_offer 40 = .ok (.ireturn, 1) := by decide +kernel
theorem dX5_offer_41 : decode cX5_offer 41 = .ok (.aload_n 0, 1) := by decide +kernel
theorem dX5_offer_42 : decode cX5_offer 42 = .ok (.iload_n 2, 1) := by decide +kernel
theorem dX5_offer_43 : decode cX5_offer 43 = .ok (.iconst 0, 1) := by decide +kernel
theorem dX5_offer_44 : decode cX5_offer 44 = .ok (.invokevirtual 126, 3) := by decide +kernel
theorem dX5_offer_47 : decode cX5_offer 47 = .ok (.iload_n 3, 1) := by decide +kernel
theorem dX5_offer_48 : decode cX5_offer 48 = .ok (.i2l, 1) := by decide +kernel
theorem dX5_offer_49 : decode cX5_offer 49 = .ok (.ladd, 1) := by decide +kernel
theorem dX5_offer_50 : decode cX5_offer 50 = .ok (.lstore 6, 2) := by decide +kernel
theorem dX5_offer_52 : decode cX5_offer 52 = .ok (.aload_n 0, 1) := by decide +kernel
theorem dX5_offer_53 : decode cX5_offer 53 = .ok (.iload_n 2, 1) := by decide +kernel
theorem dX5_offer_54 : decode cX5_offer 54 = .ok (.iconst 1, 1) := by decide +kernel
theorem dX5_offer_55 : decode cX5_offer 55 = .ok (.invokevirtual 126, 3) := by decide +kernel
theorem dX5_offer_58 : decode cX5_offer 58 = .ok (.iload 4, 2) := by decide +kernel
theorem dX5_offer_60 : decode cX5_offer 60 = .ok (.i2l, 1) := by decide +kernel
theorem dX5_offer_61 : decode cX5_offer 61 = .ok (.ladd, 1) := by decide +kernel
theorem dX5_offer_62 : decode cX5_offer 62 = .ok (.lstore 8, 2) := by decide +kernel
theorem dX5_offer_64 : decode cX5_offer 64 = .ok (.aload_n 0, 1) := by decide +kernel
theorem dX5_offer_65 : decode cX5_offer 65 = .ok (.iload_n 2, 1) := by decide +kernel
theorem dX5_offer_66 : decode cX5_offer 66 = .ok (.iconst 2, 1) := by decide +kernel
theorem dX5_offer_67 : decode cX5_offer 67 = .ok (.invokevirtual 126, 3) := by decide +kernel
theorem dX5_offer_70 : decode cX5_offer 70 = .ok (.iload 5, 2) := by decide +kernel
theorem dX5_offer_72 : decode cX5_offer 72 = .ok (.i2l, 1) := by decide +kernel
theorem dX5_offer_73 : decode cX5_offer 73 = .ok (.ladd, 1) := by decide +kernel
theorem dX5_offer_74 : decode cX5_offer 74 = .ok (.lstore 10, 2) := by decide +kernel
theorem dX5_offer_76 : decode cX5_offer 76 = .ok (.aload_n 0, 1) := by decide +kernel
theorem dX5_offer_77 : decode cX5_offer 77 = .ok (.iload_n 1, 1) := by decide +kernel
theorem dX5_offer_78 : decode cX5_offer 78 = .ok (.lload 6, 2) := by decide +kernel
theorem dX5_offer_80 : decode cX5_offer 80 = .ok (.lload 8, 2) := by decide +kernel
theorem dX5_offer_82 : decode cX5_offer 82 = .ok (.lload 10, 2) := by decide +kernel
theorem dX5_offer_84 : decode cX5_offer 84 = .ok (.invokevirtual 133, 3) := by decide +kernel
theorem dX5_offer_87 : decode cX5_offer 87 = .ok (.ifCond .eq 15, 3) := by decide +kernel
theorem dX5_offer_90 : decode cX5_offer 90 = .ok (.aload_n 0, 1) := by decide +kernel
theorem dX5_offer_91 : decode cX5_offer 91 = .ok (.getfield 81, 3) := by decide +kernel
theorem dX5_offer_94 : decode cX5_offer 94 = .ok (.iload_n 1, 1) := by decide +kernel
theorem dX5_offer_95 : decode cX5_offer 95 = .ok (.ishr, 1) := by decide +kernel
theorem dX5_offer_96 : decode cX5_offer 96 = .ok (.iconst 1, 1) := by decide +kernel
theorem dX5_offer_97 : decode cX5_offer 97 = .ok (.iand, 1) := by decide +kernel
theorem dX5_offer_98 : decode cX5_offer 98 = .ok (.iconst 1, 1) := by decide +kernel
theorem dX5_offer_99 : decode cX5_offer 99 = .ok (.if_icmp .ne 5, 3) := by decide +kernel
theorem dX5_offer_102 : decode cX5_offer 102 = .ok (.iconst 0, 1) := by decide +kernel
theorem dX5_offer_103 : decode cX5_offer 103 = .ok (.ireturn, 1) := by decide +kernel
theorem dX5_offer_104 : decode cX5_offer 104 = .ok (.aload_n 0, 1) := by decide +kernel
theorem dX5_offer_105 : decode cX5_offer 105 = .ok (.dup, 1) := by decide +kernel
theorem dX5_offer_106 : decode cX5_offer 106 = .ok (.getfield 81, 3) := by decide +kernel
theorem dX5_offer_109 : decode cX5_offer 109 = .ok (.iconst 1, 1) := by decide +kernel
theorem dX5_offer_110 : decode cX5_offer 110 = .ok (.iload_n 1, 1) := by decide +kernel
theorem dX5_offer_111 : decode cX5_offer 111 = .ok (.ishl, 1) := by decide +kernel
theorem dX5_offer_112 : decode cX5_offer 112 = .ok (.ior, 1) := by decide +kernel
theorem dX5_offer_113 : decode cX5_offer 113 = .ok (.putfield 81, 3) := by decide +kernel
theorem dX5_offer_116 : decode cX5_offer 116 = .ok (.aload_n 0, 1) := by decide +kernel
theorem dX5_offer_117 : decode cX5_offer 117 = .ok (.getfield 38, 3) := by decide +kernel
theorem dX5_offer_120 : decode cX5_offer 120 = .ok (.iload_n 1, 1) := by decide +kernel
theorem dX5_offer_121 : decode cX5_offer 121 = .ok (.lload 6, 2) := by decide +kernel
theorem dX5_offer_123 : decode cX5_offer 123 = .ok (.lastore, 1) := by decide +kernel
theorem dX5_offer_124 : decode cX5_offer 124 = .ok (.iconst 1, 1) := by decide +kernel
theorem dX5_offer_125 : decode cX5_offer 125 = .ok (.ireturn, 1) := by decide +kernel
theorem dX5_combined_0 : decode cX5_combined 0 = .ok (.lconst 1, 1) := by decide +kernel
theorem dX5_combined_1 : decode cX5_combined 1 = .ok (.lstore_n 2, 1) := by decide +kernel
theorem dX5_combined_2 : decode cX5_combined 2 = .ok (.iconst 1, 1) := by decide +kernel
theorem dX5_combined_3 : decode cX5_combined 3 = .ok (.istore 4, 2) := by decide +kernel
theorem dX5_combined_5 : decode cX5_combined 5 = .ok (.iload 4, 2) := by decide +kernel
theorem dX5_combined_7 : decode cX5_combined 7 = .ok (.aload_n 0, 1) := by decide +kernel
theorem dX5_combined_8 : decode cX5_combined 8 = .ok (.getfield 59, 3) := by decide +kernel
theorem dX5_combined_11 : decode cX5_combined 11 = .ok (.if_icmp .gt 133, 3) := by decide +kernel
theorem dX5_combined_14 : decode cX5_combined 14 = .ok (.iload_n 1, 1) := by decide +kernel
theorem dX5_combined_15 : decode cX5_combined 15 = .ok (.iload 4, 2) := by decide +kernel
theorem dX5_combined_17 : decode cX5_combined 17 = .ok (.ishr, 1) := by decide +kernel
theorem dX5_combined_18 : decode cX5_combined 18 = .ok (.iconst 1, 1) := by decide +kernel
theorem dX5_combined_19 : decode cX5_combined 19 = .ok (.iand, 1) := by decide +kernel
theorem dX5_combined_20 : decode cX5_combined 20 = .ok (.ifCond .ne 6, 3) := by decide +kernel
theorem dX5_combined_23 : decode cX5_combined 23 = .ok (.goto 115, 3) := by decide +kernel
theorem dX5_combined_26 : decode cX5_combined 26 = .ok (.lconst 1, 1) := by decide +kernel
theorem dX5_combined_27 : decode cX5_combined 27 = .ok (.lstore 5, 2) := by decide +kernel
theorem dX5_combined_29 : decode cX5_combined 29 = .ok (.lconst 1, 1) := by decide +kernel
theorem dX5_combined_30 : decode cX5_combined 30 = .ok (.lstore 7, 2) := by decide +kernel
theorem dX5_combined_32 : decode cX5_combined 32 = .ok (.iconst 1, 1) := by decide +kernel
theorem dX5_combined_33 : decode cX5_combined 33 = .ok (.istore 9, 2) := by decide +kernel
theorem dX5_combined_35 : decode cX5_combined 35 = .ok (.iload 9, 2) := by decide +kernel
theorem dX5_combined_37 : decode cX5_combined 37 = .ok (.aload_n 0, 1) := by decide +kernel
theorem dX5_combined_38 : decode cX5_combined 38 = .ok (.getfield 59, 3) := by decide +kernel
theorem dX5_combined_41 : decode cX5_combined 41 = .ok (.if_icmp .gt 59, 3) := by decide +kernel
theorem dX5_combined_44 : decode cX5_combined 44 = .ok (.iload 9, 2) := by decide +kernel
theorem dX5_combined_46 : decode cX5_combined 46 = .ok (.iload 4, 2) := by decide +kernel
theorem dX5_combined_48 : decode cX5_combined 48 = .ok (.if_icmp .eq 46, 3) := by decide +kernel
theorem dX5_combined_51 : decode cX5_combined 51 = .ok (.iload_n 1, 1) := by decide +kernel
theorem dX5_combined_52 : decode cX5_combined 52 = .ok (.iload 9, 2) := by decide +kernel
theorem dX5_combined_54 : decode cX5_combined 54 = .ok (.ishr, 1) := by decide +kernel
theorem dX5_combined_55 : decode cX5_combined 55 = .ok (.iconst 1, 1) := by decide +kernel
theorem dX5_combined_56 : decode cX5_combined 56 = .ok (.iand, 1) := by decide +kernel
theorem dX5_combined_57 : decode cX5_combined 57 = .ok (.iconst 1, 1) := by decide +kernel
theorem dX5_combined_58 : decode cX5_combined 58 = .ok (.if_icmp .ne 36, 3) := by decide +kernel
theorem dX5_combined_61 : decode cX5_combined 61 = .ok (.lload 5, 2) := by decide +kernel
theorem dX5_combined_63 : decode cX5_combined 63 = .ok (.iload 9, 2) := by decide +kernel
theorem dX5_combined_65 : decode cX5_combined 65 = .ok (.i2l, 1) := by decide +kernel
theorem dX5_combined_66 : decode cX5_combined 66 = .ok (.lmul, 1) := by decide +kernel
theorem dX5_combined_67 : decode cX5_combined 67 = .ok (.ldc2_w 62, 3) := by decide +kernel
theorem dX5_combined_70 : decode cX5_combined 70 = .ok (.lrem, 1) := by decide +kernel
theorem dX5_combined_71 : decode cX5_combined 71 = .ok (.lstore 5, 2) := by decide +kernel
theorem dX5_combined_73 : decode cX5_combined 73 = .ok (.lload 7, 2) := by decide +kernel
theorem dX5_combined_75 : decode cX5_combined 75 = .ok (.iload 9, 2) := by decide +kernel
theorem dX5_combined_77 : decode cX5_combined 77 = .ok (.iload 4, 2) := by decide +kernel
theorem dX5_combined_79 : decode cX5_combined 79 = .ok (.isub, 1) := by decide +kernel
theorem dX5_combined_80 : decode cX5_combined 80 = .ok (.i2l, 1) := by decide +kernel
theorem dX5_combined_81 : decode cX5_combined 81 = .ok (.ldc2_w 62, 3) := by decide +kernel
theorem dX5_combined_84 : decode cX5_combined 84 = .ok (.invokestatic 55, 3) := by decide +kernel
theorem dX5_combined_87 : decode cX5_combined 87 = .ok (.lmul, 1) := by decide +kernel
theorem dX5_combined_88 : decode cX5_combined 88 = .ok (.ldc2_w 62, 3) := by decide +kernel
theorem dX5_combined_91 : decode cX5_combined 91 = .ok (.lrem, 1) := by decide +kernel
theorem dX5_combined_92 : decode cX5_combined 92 = .ok (.lstore 7, 2) := by decide +kernel
theorem dX5_combined_94 : decode cX5_combined 94 = .ok (.iinc 9 1, 3) := by decide +kernel
theorem dX5_combined_97 : decode cX5_combined 97 = .ok (.goto (-62), 3) := by decide +kernel
theorem dX5_combined_100 : decode cX5_combined 100 = .ok (.lload_n 2, 1) := by decide +kernel
theorem dX5_combined_101 : decode cX5_combined 101 = .ok (.aload_n 0, 1) := by decide +kernel
theorem dX5_combined_102 : decode cX5_combined 102 = .ok (.getfield 38, 3) := by decide +kernel
theorem dX5_combined_105 : decode cX5_combined 105 = .ok (.iload 4, 2) := by decide +kernel
theorem dX5_combined_107 : decode cX5_combined 107 = .ok (.laload, 1) := by decide +kernel
theorem dX5_combined_108 : decode cX5_combined 108 = .ok (.lload 5, 2) := by decide +kernel
theorem dX5_combined_110 : decode cX5_combined 110 = .ok (.lload 7, 2) := by decide +kernel
theorem dX5_combined_112 : decode cX5_combined 112 = .ok (.ldc2_w 137, 3) := by decide +kernel
theorem dX5_combined_115 : decode cX5_combined 115 = .ok (.ldc2_w 62, 3) := by decide +kernel
theorem dX5_combined_118 : decode cX5_combined 118 = .ok (.invokestatic 95, 3) := by decide +kernel
theorem dX5_combined_121 : decode cX5_combined 121 = .ok (.lmul, 1) := by decide +kernel
theorem dX5_combined_122 : decode cX5_combined 122 = .ok (.ldc2_w 62, 3) := by decide +kernel
theorem dX5_combined_125 : decode cX5_combined 125 = .ok (.lrem, 1) := by decide +kernel
theorem dX5_combined_126 : decode cX5_combined 126 = .ok (.ldc2_w 93, 3) := by decide +kernel
theorem dX5_combined_129 : decode cX5_combined 129 = .ok (.invokestatic 95, 3) := by decide +kernel
theorem dX5_combined_132 : decode cX5_combined 132 = .ok (.lmul, 1) := by decide +kernel
theorem dX5_combined_133 : decode cX5_combined 133 = .ok (.ldc2_w 93, 3) := by decide +kernel
theorem dX5_combined_136 : decode cX5_combined 136 = .ok (.lrem, 1) := by decide +kernel
theorem dX5_combined_137 : decode cX5_combined 137 = .ok (.lstore_n 2, 1) := by decide +kernel
theorem dX5_combined_138 : decode cX5_combined 138 = .ok (.iinc 4 1, 3) := by decide +kernel
theorem dX5_combined_141 : decode cX5_combined 141 = .ok (.goto (-136), 3) := by decide +kernel
theorem dX5_combined_144 : decode cX5_combined 144 = .ok (.lload_n 2, 1) := by decide +kernel
theorem dX5_combined_145 : decode cX5_combined 145 = .ok (.lreturn, 1) := by decide +kernel
theorem dX5_value_0 : decode cX5_value 0 = .ok (.iconst 0, 1) := by decide +kernel
theorem dX5_value_1 : decode cX5_value 1 = .ok (.istore_n 2, 1) := by decide +kernel
theorem dX5_value_2 : decode cX5_value 2 = .ok (.iconst 1, 1) := by decide +kernel
theorem dX5_value_3 : decode cX5_value 3 = .ok (.istore_n 3, 1) := by decide +kernel
theorem dX5_value_4 : decode cX5_value 4 = .ok (.iload_n 3, 1) := by decide +kernel
theorem dX5_value_5 : decode cX5_value 5 = .ok (.aload_n 0, 1) := by decide +kernel
theorem dX5_value_6 : decode cX5_value 6 = .ok (.getfield 59, 3) := by decide +kernel
theorem dX5_value_9 : decode cX5_value 9 = .ok (.if_icmp .gt 17, 3) := by decide +kernel
theorem dX5_value_12 : decode cX5_value 12 = .ok (.iload_n 2, 1) := by decide +kernel
theorem dX5_value_13 : decode cX5_value 13 = .ok (.iload_n 1, 1) := by decide +kernel
theorem dX5_value_14 : decode cX5_value 14 = .ok (.iload_n 3, 1) := by decide +kernel
theorem dX5_value_15 : decode cX5_value 15 = .ok (.ishr, 1) := by decide +kernel
theorem dX5_value_16 : decode cX5_value 16 = .ok (.iconst 1, 1) := by decide +kernel
theorem dX5_value_17 : decode cX5_value 17 = .ok (.iand, 1) := by decide +kernel
theorem dX5_value_18 : decode cX5_value 18 = .ok (.iadd, 1) := by decide +kernel
theorem dX5_value_19 : decode cX5_value 19 = .ok (.istore_n 2, 1) := by decide +kernel
theorem dX5_value_20 : decode cX5_value 20 = .ok (.iinc 3 1, 3) := by decide +kernel
theorem dX5_value_23 : decode cX5_value 23 = .ok (.goto (-19), 3) := by decide +kernel
theorem dX5_value_26 : decode cX5_value 26 = .ok (.aload_n 0, 1) := by decide +kernel
theorem dX5_value_27 : decode cX5_value 27 = .ok (.aload_n 0, 1) := by decide +kernel
theorem dX5_value_28 : decode cX5_value 28 = .ok (.getfield 71, 3) := by decide +kernel
theorem dX5_value_31 : decode cX5_value 31 = .ok (.ifCond .ne 7, 3) := by decide +kernel
theorem dX5_value_34 : decode cX5_value 34 = .ok (.iconst 1, 1) := by decide +kernel
theorem dX5_value_35 : decode cX5_value 35 = .ok (.goto 27, 3) := by decide +kernel
theorem dX5_value_38 : decode cX5_value 38 = .ok (.iload_n 1, 1) := by decide +kernel
theorem dX5_value_39 : decode cX5_value 39 = .ok (.aload_n 0, 1) := by decide +kernel
theorem dX5_value_40 : decode cX5_value 40 = .ok (.getfield 81, 3) := by decide +kernel
theorem dX5_value_43 : decode cX5_value 43 = .ok (.iconst (-1), 1) := by decide +kernel
theorem dX5_value_44 : decode cX5_value 44 = .ok (.ixor, 1) := by decide +kernel
theorem dX5_value_45 : decode cX5_value 45 = .ok (.iand, 1) := by decide +kernel
theorem dX5_value_46 : decode cX5_value 46 = .ok (.ifCond .ne 11, 3) := by decide +kernel
theorem dX5_value_49 : decode cX5_value 49 = .ok (.iload_n 2, 1) := by decide +kernel
theorem dX5_value_50 : decode cX5_value 50 = .ok (.aload_n 0, 1) := by decide +kernel
theorem dX5_value_51 : decode cX5_value 51 = .ok (.getfield 68, 3) := by decide +kernel
theorem dX5_value_54 : decode cX5_value 54 = .ok (.if_icmp .eq 7, 3) := by decide +kernel
theorem dX5_value_57 : decode cX5_value 57 = .ok (.iconst 2, 1) := by decide +kernel
theorem dX5_value_58 : decode cX5_value 58 = .ok (.goto 4, 3) := by decide +kernel
theorem dX5_value_61 : decode cX5_value 61 = .ok (.iconst 0, 1) := by decide +kernel
theorem dX5_value_62 : decode cX5_value 62 = .ok (.invokevirtual 64, 3) := by decide +kernel
theorem dX5_value_65 : decode cX5_value 65 = .ok (.ifCond .eq 5, 3) := by decide +kernel
theorem dX5_value_68 : decode cX5_value 68 = .ok (.iconst 0, 1) := by decide +kernel
theorem dX5_value_69 : decode cX5_value 69 = .ok (.ireturn, 1) := by decide +kernel
theorem dX5_value_70 : decode cX5_value 70 = .ok (.aload_n 0, 1) := by decide +kernel
theorem dX5_value_71 : decode cX5_value 71 = .ok (.iload_n 1, 1) := by decide +kernel
theorem dX5_value_72 : decode cX5_value 72 = .ok (.invokevirtual 139, 3) := by decide +kernel
theorem dX5_value_75 : decode cX5_value 75 = .ok (.l2i, 1) := by decide +kernel
theorem dX5_value_76 : decode cX5_value 76 = .ok (.ireturn, 1) := by decide +kernel
theorem dX5_publish_0 : decode cX5_publish 0 = .ok (.iconst 0, 1) := by decide +kernel
theorem dX5_publish_1 : decode cX5_publish 1 = .ok (.istore_n 1, 1) := by decide +kernel
theorem dX5_publish_2 : decode cX5_publish 2 = .ok (.iconst 0, 1) := by decide +kernel
theorem dX5_publish_3 : decode cX5_publish 3 = .ok (.istore_n 2, 1) := by decide +kernel
theorem dX5_publish_4 : decode cX5_publish 4 = .ok (.iconst 1, 1) := by decide +kernel
theorem dX5_publish_5 : decode cX5_publish 5 = .ok (.istore_n 3, 1) := by decide +kernel
theorem dX5_publish_6 : decode cX5_publish 6 = .ok (.iload_n 3, 1) := by decide +kernel
theorem dX5_publish_7 : decode cX5_publish 7 = .ok (.aload_n 0, 1) := by decide +kernel
theorem dX5_publish_8 : decode cX5_publish 8 = .ok (.getfield 59, 3) := by decide +kernel
theorem dX5_publish_11 : decode cX5_publish 11 = .ok (.if_icmp .gt 64, 3) := by decide +kernel
theorem dX5_publish_14 : decode cX5_publish 14 = .ok (.iload_n 2, 1) := by decide +kernel
theorem dX5_publish_15 : decode cX5_publish 15 = .ok (.aload_n 0, 1) := by decide +kernel
theorem dX5_publish_16 : decode cX5_publish 16 = .ok (.getfield 68, 3) := by decide +kernel
theorem dX5_publish_19 : decode cX5_publish 19 = .ok (.if_icmp .ge 19, 3) := by decide +kernel
theorem dX5_publish_22 : decode cX5_publish 22 = .ok (.aload_n 0, 1) := by decide +kernel
theorem dX5_publish_23 : decode cX5_publish 23 = .ok (.getfield 81, 3) := by decide +kernel
theorem dX5_publish_26 : decode cX5_publish 26 = .ok (.iload_n 3, 1) := by decide +kernel
theorem dX5_publish_27 : decode cX5_publish 27 = .ok (.ishr, 1) := by decide +kernel
theorem dX5_publish_28 : decode cX5_publish 28 = .ok (.iconst 1, 1) := by decide +kernel
theorem dX5_publish_29 : decode cX5_publish 29 = .ok (.iand, 1) := by decide +kernel
theorem dX5_publish_30 : decode cX5_publish 30 = .ok (.iconst 1, 1) := by decide +kernel
theorem dX5_publish_31 : decode cX5_publish 31 = .ok (.if_icmp .ne 7, 3) := by decide +kernel
theorem dX5_publish_34 : decode cX5_publish 34 = .ok (.iconst 1, 1) := by decide +kernel
theorem dX5_publish_35 : decode cX5_publish 35 = .ok (.goto 4, 3) := by decide +kernel
theorem dX5_publish_38 : decode cX5_publish 38 = .ok (.iconst 0, 1) := by decide +kernel
theorem dX5_publish_39 : decode cX5_publish 39 = .ok (.istore 4, 2) := by decide +kernel
theorem dX5_publish_41 : decode cX5_publish 41 = .ok (.iload_n 1, 1) := by decide +kernel
theorem dX5_publish_42 : decode cX5_publish 42 = .ok (.iload 4, 2) := by decide +kernel
theorem dX5_publish_44 : decode cX5_publish 44 = .ok (.ifCond .eq 9, 3) := by decide +kernel
theorem dX5_publish_47 : decode cX5_publish 47 = .ok (.iconst 1, 1) := by decide +kernel
theorem dX5_publish_48 : decode cX5_publish 48 = .ok (.iload_n 3, 1) := by decide +kernel
theorem dX5_publish_49 : decode cX5_publish 49 = .ok (.ishl, 1) := by decide +kernel
theorem dX5_publish_50 : decode cX5_publish 50 = .ok (.goto 4, 3) := by decide +kernel
theorem dX5_publish_53 : decode cX5_publish 53 = .ok (.iconst 0, 1) := by decide +kernel
theorem dX5_publish_54 : decode cX5_publish 54 = .ok (.ior, 1) := by decide +kernel
theorem dX5_publish_55 : decode cX5_publish 55 = .ok (.istore_n 1, 1) := by decide +kernel
theorem dX5_publish_56 : decode cX5_publish 56 = .ok (.iload_n 2, 1) := by decide +kernel
theorem dX5_publish_57 : decode cX5_publish 57 = .ok (.iload 4, 2) := by decide +kernel
theorem dX5_publish_59 : decode cX5_publish 59 = .ok (.ifCond .eq 7, 3) := by decide +kernel
theorem dX5_publish_62 : decode cX5_publish 62 = .ok (.iconst 1, 1) := by decide +kernel
theorem dX5_publish_63 : decode cX5_publish 63 = .ok (.goto 4, 3) := by decide +kernel
theorem dX5_publish_66 : decode cX5_publish 66 = .ok (.iconst 0, 1) := by decide +kernel
theorem dX5_publish_67 : decode cX5_publish 67 = .ok (.iadd, 1) := by decide +kernel
theorem dX5_publish_68 : decode cX5_publish 68 = .ok (.istore_n 2, 1) := by decide +kernel
theorem dX5_publish_69 : decode cX5_publish 69 = .ok (.iinc 3 1, 3) := by decide +kernel
theorem dX5_publish_72 : decode cX5_publish 72 = .ok (.goto (-66), 3) := by decide +kernel
theorem dX5_publish_75 : decode cX5_publish 75 = .ok (.aload_n 0, 1) := by decide +kernel
theorem dX5_publish_76 : decode cX5_publish 76 = .ok (.aload_n 0, 1) := by decide +kernel
theorem dX5_publish_77 : decode cX5_publish 77 = .ok (.getfield 71, 3) := by decide +kernel
theorem dX5_publish_80 : decode cX5_publish 80 = .ok (.ifCond .eq 11, 3) := by decide +kernel
theorem dX5_publish_83 : decode cX5_publish 83 = .ok (.iload_n 2, 1) := by decide +kernel
theorem dX5_publish_84 : decode cX5_publish 84 = .ok (.aload_n 0, 1) := by decide +kernel
theorem dX5_publish_85 : decode cX5_publish 85 = .ok (.getfield 68, 3) := by decide +kernel
theorem dX5_publish_88 : decode cX5_publish 88 = .ok (.if_icmp .ge 7, 3) := by decide +kernel
theorem dX5_publish_91 : decode cX5_publish 91 = .ok (.iconst 1, 1) := by decide +kernel
theorem dX5_publish_92 : decode cX5_publish 92 = .ok (.goto 18, 3) := by decide +kernel
theorem dX5_publish_95 : decode cX5_publish 95 = .ok (.aload_n 0, 1) := by decide +kernel
theorem dX5_publish_96 : decode cX5_publish 96 = .ok (.getfield 78, 3) := by decide +kernel
theorem dX5_publish_99 : decode cX5_publish 99 = .ok (.sipush 300, 3) := by decide +kernel
theorem dX5_publish_102 : decode cX5_publish 102 = .ok (.if_icmp .ne 7, 3) := by decide +kernel
theorem dX5_publish_105 : decode cX5_publish 105 = .ok (.iconst 2, 1) := by decide +kernel
theorem dX5_publish_106 : decode cX5_publish 106 = .ok (.goto 4, 3) := by decide +kernel
theorem dX5_publish_109 : decode cX5_publish 109 = .ok (.iconst 0, 1) := by decide +kernel
theorem dX5_publish_110 : decode cX5_publish 110 = .ok (.invokevirtual 64, 3) := by decide +kernel
theorem dX5_publish_113 : decode cX5_publish 113 = .ok (.ifCond .eq 5, 3) := by decide +kernel
theorem dX5_publish_116 : decode cX5_publish 116 = .ok (.iconst 0, 1) := by decide +kernel
theorem dX5_publish_117 : decode cX5_publish 117 = .ok (.ireturn, 1) := by decide +kernel
theorem dX5_publish_118 : decode cX5_publish 118 = .ok (.aload_n 0, 1) := by decide +kernel
theorem dX5_publish_119 : decode cX5_publish 119 = .ok (.iload_n 1, 1) := by decide +kernel
theorem dX5_publish_120 : decode cX5_publish 120 = .ok (.invokevirtual 139, 3) := by decide +kernel
theorem dX5_publish_123 : decode cX5_publish 123 = .ok (.lstore_n 3, 1) := by decide +kernel
theorem dX5_publish_124 : decode cX5_publish 124 = .ok (.aload_n 0, 1) := by decide +kernel
theorem dX5_publish_125 : decode cX5_publish 125 = .ok (.dup, 1) := by decide +kernel
theorem dX5_publish_126 : decode cX5_publish 126 = .ok (.getfield 78, 3) := by decide +kernel
theorem dX5_publish_129 : decode cX5_publish 129 = .ok (.iconst 1, 1) := by decide +kernel
theorem dX5_publish_130 : decode cX5_publish 130 = .ok (.iadd, 1) := by decide +kernel
theorem dX5_publish_131 : decode cX5_publish 131 = .ok (.putfield 78, 3) := by decide +kernel
theorem dX5_publish_134 : decode cX5_publish 134 = .ok (.aload_n 0, 1) := by decide +kernel
theorem dX5_publish_135 : decode cX5_publish 135 = .ok (.getfield 35, 3) := by decide +kernel
theorem dX5_publish_138 : decode cX5_publish 138 = .ok (.aload_n 0, 1) := by decide +kernel
theorem dX5_publish_139 : decode cX5_publish 139 = .ok (.getfield 78, 3) := by decide +kernel
theorem dX5_publish_142 : decode cX5_publish 142 = .ok (.lload_n 3, 1) := by decide +kernel
theorem dX5_publish_143 : decode cX5_publish 143 = .ok (.lastore, 1) := by decide +kernel
theorem dX5_publish_144 : decode cX5_publish 144 = .ok (.aload_n 0, 1) := by decide +kernel
theorem dX5_publish_145 : decode cX5_publish 145 = .ok (.iconst 0, 1) := by decide +kernel
theorem dX5_publish_146 : decode cX5_publish 146 = .ok (.putfield 81, 3) := by decide +kernel
theorem dX5_publish_149 : decode cX5_publish 149 = .ok (.lload_n 3, 1) := by decide +kernel
theorem dX5_publish_150 : decode cX5_publish 150 = .ok (.l2i, 1) := by decide +kernel
theorem dX5_publish_151 : decode cX5_publish 151 = .ok (.ireturn, 1) := by decide +kernel
theorem dX5_ended_0 : decode cX5_ended 0 = .ok (.iload_n 1, 1) := by decide +kernel
theorem dX5_ended_1 : decode cX5_ended 1 = .ok (.ifCond .lt 22, 3) := by decide +kernel
theorem dX5_ended_4 : decode cX5_ended 4 = .ok (.aload_n 0, 1) := by decide +kernel
end
section
theorem dX5_ended_5 : decode cX5_ended 5 = .ok (.getfield 71, 3) := by decide +kernel
theorem dX5_ended_8 : decode cX5_ended 8 = .ok (.ifCond .eq 11, 3) := by decide +kernel
theorem dX5_ended_11 : decode cX5_ended 11 = .ok (.iload_n 1, 1) := by decide +kernel
theorem dX5_ended_12 : decode cX5_ended 12 = .ok (.aload_n 0, 1) := by decide +kernel
theorem dX5_ended_13 : decode cX5_ended 13 = .ok (.getfield 78, 3) := by decide +kernel
theorem dX5_ended_16 : decode cX5_ended 16 = .ok (.if_icmp .gt 7, 3) := by decide +kernel
theorem dX5_ended_19 : decode cX5_ended 19 = .ok (.iconst 1, 1) := by decide +kernel
theorem dX5_ended_20 : decode cX5_ended 20 = .ok (.goto 4, 3) := by decide +kernel
theorem dX5_ended_23 : decode cX5_ended 23 = .ok (.iconst 0, 1) := by decide +kernel
theorem dX5_ended_24 : decode cX5_ended 24 = .ok (.istore_n 2, 1) := by decide +kernel
theorem dX5_ended_25 : decode cX5_ended 25 = .ok (.aload_n 0, 1) := by decide +kernel
theorem dX5_ended_26 : decode cX5_ended 26 = .ok (.iload_n 2, 1) := by decide +kernel
theorem dX5_ended_27 : decode cX5_ended 27 = .ok (.ifCond .ne 7, 3) := by decide +kernel
theorem dX5_ended_30 : decode cX5_ended 30 = .ok (.iconst 1, 1) := by decide +kernel
theorem dX5_ended_31 : decode cX5_ended 31 = .ok (.goto 15, 3) := by decide +kernel
theorem dX5_ended_34 : decode cX5_ended 34 = .ok (.aload_n 0, 1) := by decide +kernel
theorem dX5_ended_35 : decode cX5_ended 35 = .ok (.getfield 71, 3) := by decide +kernel
theorem dX5_ended_38 : decode cX5_ended 38 = .ok (.ifCond .ne 7, 3) := by decide +kernel
theorem dX5_ended_41 : decode cX5_ended 41 = .ok (.iconst 2, 1) := by decide +kernel
theorem dX5_ended_42 : decode cX5_ended 42 = .ok (.goto 4, 3) := by decide +kernel
theorem dX5_ended_45 : decode cX5_ended 45 = .ok (.iconst 0, 1) := by decide +kernel
theorem dX5_ended_46 : decode cX5_ended 46 = .ok (.invokevirtual 64, 3) := by decide +kernel
theorem dX5_ended_49 : decode cX5_ended 49 = .ok (.ifCond .eq 7, 3) := by decide +kernel
theorem dX5_ended_52 : decode cX5_ended 52 = .ok (.lconst 0, 1) := by decide +kernel
theorem dX5_ended_53 : decode cX5_ended 53 = .ok (.goto 9, 3) := by decide +kernel
theorem dX5_ended_56 : decode cX5_ended 56 = .ok (.aload_n 0, 1) := by decide +kernel
theorem dX5_ended_57 : decode cX5_ended 57 = .ok (.getfield 35, 3) := by decide +kernel
theorem dX5_ended_60 : decode cX5_ended 60 = .ok (.iload_n 1, 1) := by decide +kernel
theorem dX5_ended_61 : decode cX5_ended 61 = .ok (.laload, 1) := by decide +kernel
theorem dX5_ended_62 : decode cX5_ended 62 = .ok (.lreturn, 1) := by decide +kernel
theorem dX5_random_0 : decode cX5_random 0 = .ok (.iload_n 1, 1) := by decide +kernel
theorem dX5_random_1 : decode cX5_random 1 = .ok (.ifCond .lt 22, 3) := by decide +kernel
theorem dX5_random_4 : decode cX5_random 4 = .ok (.aload_n 0, 1) := by decide +kernel
theorem dX5_random_5 : decode cX5_random 5 = .ok (.getfield 71, 3) := by decide +kernel
theorem dX5_random_8 : decode cX5_random 8 = .ok (.ifCond .eq 11, 3) := by decide +kernel
theorem dX5_random_11 : decode cX5_random 11 = .ok (.iload_n 1, 1) := by decide +kernel
theorem dX5_random_12 : decode cX5_random 12 = .ok (.aload_n 0, 1) := by decide +kernel
theorem dX5_random_13 : decode cX5_random 13 = .ok (.getfield 78, 3) := by decide +kernel
theorem dX5_random_16 : decode cX5_random 16 = .ok (.if_icmp .gt 7, 3) := by decide +kernel
theorem dX5_random_19 : decode cX5_random 19 = .ok (.iconst 1, 1) := by decide +kernel
theorem dX5_random_20 : decode cX5_random 20 = .ok (.goto 4, 3) := by decide +kernel
theorem dX5_random_23 : decode cX5_random 23 = .ok (.iconst 0, 1) := by decide +kernel
theorem dX5_random_24 : decode cX5_random 24 = .ok (.istore_n 2, 1) := by decide +kernel
theorem dX5_random_25 : decode cX5_random 25 = .ok (.aload_n 0, 1) := by decide +kernel
theorem dX5_random_26 : decode cX5_random 26 = .ok (.iload_n 2, 1) := by decide +kernel
theorem dX5_random_27 : decode cX5_random 27 = .ok (.ifCond .ne 7, 3) := by decide +kernel
theorem dX5_random_30 : decode cX5_random 30 = .ok (.iconst 1, 1) := by decide +kernel
theorem dX5_random_31 : decode cX5_random 31 = .ok (.goto 15, 3) := by decide +kernel
theorem dX5_random_34 : decode cX5_random 34 = .ok (.aload_n 0, 1) := by decide +kernel
theorem dX5_random_35 : decode cX5_random 35 = .ok (.getfield 71, 3) := by decide +kernel
theorem dX5_random_38 : decode cX5_random 38 = .ok (.ifCond .ne 7, 3) := by decide +kernel
theorem dX5_random_41 : decode cX5_random 41 = .ok (.iconst 2, 1) := by decide +kernel
theorem dX5_random_42 : decode cX5_random 42 = .ok (.goto 4, 3) := by decide +kernel
theorem dX5_random_45 : decode cX5_random 45 = .ok (.iconst 0, 1) := by decide +kernel
theorem dX5_random_46 : decode cX5_random 46 = .ok (.invokevirtual 64, 3) := by decide +kernel
theorem dX5_random_49 : decode cX5_random 49 = .ok (.ifCond .eq 5, 3) := by decide +kernel
theorem dX5_random_52 : decode cX5_random 52 = .ok (.lconst 0, 1) := by decide +kernel
theorem dX5_random_53 : decode cX5_random 53 = .ok (.lreturn, 1) := by decide +kernel
theorem dX5_random_54 : decode cX5_random 54 = .ok (.aload_n 0, 1) := by decide +kernel
theorem dX5_random_55 : decode cX5_random 55 = .ok (.lconst 0, 1) := by decide +kernel
theorem dX5_random_56 : decode cX5_random 56 = .ok (.putfield 45, 3) := by decide +kernel
theorem dX5_random_59 : decode cX5_random 59 = .ok (.aload_n 0, 1) := by decide +kernel
theorem dX5_random_60 : decode cX5_random 60 = .ok (.aload_n 0, 1) := by decide +kernel
theorem dX5_random_61 : decode cX5_random 61 = .ok (.getfield 35, 3) := by decide +kernel
theorem dX5_random_64 : decode cX5_random 64 = .ok (.iload_n 1, 1) := by decide +kernel
theorem dX5_random_65 : decode cX5_random 65 = .ok (.laload, 1) := by decide +kernel
theorem dX5_random_66 : decode cX5_random 66 = .ok (.invokevirtual 87, 3) := by decide +kernel
theorem dX5_random_69 : decode cX5_random 69 = .ok (.aload_n 0, 1) := by decide +kernel
theorem dX5_random_70 : decode cX5_random 70 = .ok (.iload_n 1, 1) := by decide +kernel
theorem dX5_random_71 : decode cX5_random 71 = .ok (.i2l, 1) := by decide +kernel
theorem dX5_random_72 : decode cX5_random 72 = .ok (.invokevirtual 87, 3) := by decide +kernel
theorem dX5_random_75 : decode cX5_random 75 = .ok (.aload_n 0, 1) := by decide +kernel
theorem dX5_random_76 : decode cX5_random 76 = .ok (.getfield 45, 3) := by decide +kernel
theorem dX5_random_79 : decode cX5_random 79 = .ok (.lreturn, 1) := by decide +kernel
theorem dX5_about_0 : decode cX5_about 0 = .ok (.aload_n 0, 1) := by decide +kernel
theorem dX5_about_1 : decode cX5_about 1 = .ok (.iload_n 1, 1) := by decide +kernel
theorem dX5_about_2 : decode cX5_about 2 = .ok (.ifCond .lt 9, 3) := by decide +kernel
theorem dX5_about_5 : decode cX5_about 5 = .ok (.iload_n 1, 1) := by decide +kernel
theorem dX5_about_6 : decode cX5_about 6 = .ok (.bipush 7, 2) := by decide +kernel
theorem dX5_about_8 : decode cX5_about 8 = .ok (.if_icmp .le 7, 3) := by decide +kernel
theorem dX5_about_11 : decode cX5_about 11 = .ok (.iconst 1, 1) := by decide +kernel
theorem dX5_about_12 : decode cX5_about 12 = .ok (.goto 4, 3) := by decide +kernel
theorem dX5_about_15 : decode cX5_about 15 = .ok (.iconst 0, 1) := by decide +kernel
theorem dX5_about_16 : decode cX5_about 16 = .ok (.invokevirtual 64, 3) := by decide +kernel
theorem dX5_about_19 : decode cX5_about 19 = .ok (.ifCond .eq 5, 3) := by decide +kernel
theorem dX5_about_22 : decode cX5_about 22 = .ok (.iconst 0, 1) := by decide +kernel
theorem dX5_about_23 : decode cX5_about 23 = .ok (.ireturn, 1) := by decide +kernel
theorem dX5_about_24 : decode cX5_about 24 = .ok (.iconst 0, 1) := by decide +kernel
theorem dX5_about_25 : decode cX5_about 25 = .ok (.istore_n 2, 1) := by decide +kernel
theorem dX5_about_26 : decode cX5_about 26 = .ok (.iconst 1, 1) := by decide +kernel
theorem dX5_about_27 : decode cX5_about 27 = .ok (.istore_n 3, 1) := by decide +kernel
theorem dX5_about_28 : decode cX5_about 28 = .ok (.iload_n 3, 1) := by decide +kernel
theorem dX5_about_29 : decode cX5_about 29 = .ok (.aload_n 0, 1) := by decide +kernel
theorem dX5_about_30 : decode cX5_about 30 = .ok (.getfield 59, 3) := by decide +kernel
theorem dX5_about_33 : decode cX5_about 33 = .ok (.if_icmp .gt 62, 3) := by decide +kernel
theorem dX5_about_36 : decode cX5_about 36 = .ok (.iload_n 2, 1) := by decide +kernel
theorem dX5_about_37 : decode cX5_about 37 = .ok (.iload_n 1, 1) := by decide +kernel
theorem dX5_about_38 : decode cX5_about 38 = .ok (.iconst 2, 1) := by decide +kernel
theorem dX5_about_39 : decode cX5_about 39 = .ok (.if_icmp .ne 12, 3) := by decide +kernel
theorem dX5_about_42 : decode cX5_about 42 = .ok (.aload_n 0, 1) := by decide +kernel
theorem dX5_about_43 : decode cX5_about 43 = .ok (.getfield 7, 3) := by decide +kernel
theorem dX5_about_46 : decode cX5_about 46 = .ok (.iload_n 3, 1) := by decide +kernel
theorem dX5_about_47 : decode cX5_about 47 = .ok (.baload, 1) := by decide +kernel
theorem dX5_about_48 : decode cX5_about 48 = .ok (.ifCond .ne 34, 3) := by decide +kernel
theorem dX5_about_51 : decode cX5_about 51 = .ok (.iload_n 1, 1) := by decide +kernel
theorem dX5_about_52 : decode cX5_about 52 = .ok (.iconst 4, 1) := by decide +kernel
theorem dX5_about_53 : decode cX5_about 53 = .ok (.if_icmp .ne 12, 3) := by decide +kernel
theorem dX5_about_56 : decode cX5_about 56 = .ok (.aload_n 0, 1) := by decide +kernel
theorem dX5_about_57 : decode cX5_about 57 = .ok (.getfield 13, 3) := by decide +kernel
theorem dX5_about_60 : decode cX5_about 60 = .ok (.iload_n 3, 1) := by decide +kernel
theorem dX5_about_61 : decode cX5_about 61 = .ok (.baload, 1) := by decide +kernel
theorem dX5_about_62 : decode cX5_about 62 = .ok (.ifCond .ne 20, 3) := by decide +kernel
theorem dX5_about_65 : decode cX5_about 65 = .ok (.iload_n 1, 1) := by decide +kernel
theorem dX5_about_66 : decode cX5_about 66 = .ok (.iconst 5, 1) := by decide +kernel
theorem dX5_about_67 : decode cX5_about 67 = .ok (.if_icmp .ne 19, 3) := by decide +kernel
theorem dX5_about_70 : decode cX5_about 70 = .ok (.aload_n 0, 1) := by decide +kernel
theorem dX5_about_71 : decode cX5_about 71 = .ok (.getfield 75, 3) := by decide +kernel
theorem dX5_about_74 : decode cX5_about 74 = .ok (.iload_n 3, 1) := by decide +kernel
theorem dX5_about_75 : decode cX5_about 75 = .ok (.ishr, 1) := by decide +kernel
theorem dX5_about_76 : decode cX5_about 76 = .ok (.iconst 1, 1) := by decide +kernel
theorem dX5_about_77 : decode cX5_about 77 = .ok (.iand, 1) := by decide +kernel
theorem dX5_about_78 : decode cX5_about 78 = .ok (.iconst 1, 1) := by decide +kernel
theorem dX5_about_79 : decode cX5_about 79 = .ok (.if_icmp .ne 7, 3) := by decide +kernel
theorem dX5_about_82 : decode cX5_about 82 = .ok (.iconst 1, 1) := by decide +kernel
theorem dX5_about_83 : decode cX5_about 83 = .ok (.goto 4, 3) := by decide +kernel
theorem dX5_about_86 : decode cX5_about 86 = .ok (.iconst 0, 1) := by decide +kernel
theorem dX5_about_87 : decode cX5_about 87 = .ok (.iadd, 1) := by decide +kernel
theorem dX5_about_88 : decode cX5_about 88 = .ok (.istore_n 2, 1) := by decide +kernel
theorem dX5_about_89 : decode cX5_about 89 = .ok (.iinc 3 1, 3) := by decide +kernel
theorem dX5_about_92 : decode cX5_about 92 = .ok (.goto (-64), 3) := by decide +kernel
theorem dX5_about_95 : decode cX5_about 95 = .ok (.iload_n 1, 1) := by decide +kernel
theorem dX5_about_96 : decode cX5_about 96 = .ok (.tableswitch 74 0 7 #[48, 53, 74, 58, 74, 74, 64, 69], 48) := by decide +kernel
theorem dX5_about_144 : decode cX5_about 144 = .ok (.aload_n 0, 1) := by decide +kernel
theorem dX5_about_145 : decode cX5_about 145 = .ok (.getfield 59, 3) := by decide +kernel
theorem dX5_about_148 : decode cX5_about 148 = .ok (.ireturn, 1) := by decide +kernel
theorem dX5_about_149 : decode cX5_about 149 = .ok (.aload_n 0, 1) := by decide +kernel
theorem dX5_about_150 : decode cX5_about 150 = .ok (.getfield 68, 3) := by decide +kernel
theorem dX5_about_153 : decode cX5_about 153 = .ok (.ireturn, 1) := by decide +kernel
theorem dX5_about_154 : decode cX5_about 154 = .ok (.aload_n 0, 1) := by decide +kernel
theorem dX5_about_155 : decode cX5_about 155 = .ok (.iconst 0, 1) := by decide +kernel
theorem dX5_about_156 : decode cX5_about 156 = .ok (.invokevirtual 106, 3) := by decide +kernel
theorem dX5_about_159 : decode cX5_about 159 = .ok (.ireturn, 1) := by decide +kernel
theorem dX5_about_160 : decode cX5_about 160 = .ok (.aload_n 0, 1) := by decide +kernel
theorem dX5_about_161 : decode cX5_about 161 = .ok (.getfield 75, 3) := by decide +kernel
theorem dX5_about_164 : decode cX5_about 164 = .ok (.ireturn, 1) := by decide +kernel
theorem dX5_about_165 : decode cX5_about 165 = .ok (.aload_n 0, 1) := by decide +kernel
theorem dX5_about_166 : decode cX5_about 166 = .ok (.getfield 78, 3) := by decide +kernel
theorem dX5_about_169 : decode cX5_about 169 = .ok (.ireturn, 1) := by decide +kernel
theorem dX5_about_170 : decode cX5_about 170 = .ok (.iload_n 2, 1) := by decide +kernel
theorem dX5_about_171 : decode cX5_about 171 = .ok (.ireturn, 1) := by decide +kernel
end
section
theorem dL_begin_0 : decode cL_begin 0 = .ok (.aload_n 0, 1) := by decide +kernel
theorem dL_begin_1 : decode cL_begin 1 = .ok (.iload_n 1, 1) := by decide +kernel
theorem dL_begin_2 : decode cL_begin 2 = .ok (.iload_n 2, 1) := by decide +kernel
theorem dL_begin_3 : decode cL_begin 3 = .ok (.invokevirtual 7, 3) := by decide +kernel
theorem dL_begin_6 : decode cL_begin 6 = .ok (.goto 6, 3) := by decide +kernel
theorem dL_begin_9 : decode cL_begin 9 = .ok (.astore_n 3, 1) := by decide +kernel
theorem dL_begin_10 : decode cL_begin 10 = .ok (.iconst 1, 1) := by decide +kernel
theorem dL_begin_11 : decode cL_begin 11 = .ok (.ireturn, 1) := by decide +kernel
theorem dL_begin_12 : decode cL_begin 12 = .ok (.iconst 0, 1) := by decide +kernel
theorem dL_begin_13 : decode cL_begin 13 = .ok (.ireturn, 1) := by decide +kernel
theorem dL_deal_0 : decode cL_deal 0 = .ok (.aload_n 0, 1) := by decide +kernel
theorem dL_deal_1 : decode cL_deal 1 = .ok (.iload_n 1, 1) := by decide +kernel
theorem dL_deal_2 : decode cL_deal 2 = .ok (.lload_n 2, 1) := by decide +kernel
theorem dL_deal_3 : decode cL_deal 3 = .ok (.invokevirtual 15, 3) := by decide +kernel
theorem dL_deal_6 : decode cL_deal 6 = .ok (.goto 11, 3) := by decide +kernel
theorem dL_deal_9 : decode cL_deal 9 = .ok (.astore 4, 2) := by decide +kernel
theorem dL_deal_11 : decode cL_deal 11 = .ok (.iconst 1, 1) := by decide +kernel
theorem dL_deal_12 : decode cL_deal 12 = .ok (.ireturn, 1) := by decide +kernel
theorem dL_deal_13 : decode cL_deal 13 = .ok (.astore 4, 2) := by decide +kernel
theorem dL_deal_15 : decode cL_deal 15 = .ok (.iconst 2, 1) := by decide +kernel
theorem dL_deal_16 : decode cL_deal 16 = .ok (.ireturn, 1) := by decide +kernel
theorem dL_deal_17 : decode cL_deal 17 = .ok (.iconst 0, 1) := by decide +kernel
theorem dL_deal_18 : decode cL_deal 18 = .ok (.ireturn, 1) := by decide +kernel
theorem dL_spoil_0 : decode cL_spoil 0 = .ok (.aload 4, 2) := by decide +kernel
theorem dL_spoil_2 : decode cL_spoil 2 = .ok (.iconst 0, 1) := by decide +kernel
theorem dL_spoil_3 : decode cL_spoil 3 = .ok (.aload_n 0, 1) := by decide +kernel
theorem dL_spoil_4 : decode cL_spoil 4 = .ok (.iload_n 1, 1) := by decide +kernel
theorem dL_spoil_5 : decode cL_spoil 5 = .ok (.iload_n 2, 1) := by decide +kernel
theorem dL_spoil_6 : decode cL_spoil 6 = .ok (.iload_n 3, 1) := by decide +kernel
theorem dL_spoil_7 : decode cL_spoil 7 = .ok (.invokevirtual 21, 3) := by decide +kernel
theorem dL_spoil_10 : decode cL_spoil 10 = .ok (.i2l, 1) := by decide +kernel
theorem dL_spoil_11 : decode cL_spoil 11 = .ok (.lastore, 1) := by decide +kernel
theorem dL_spoil_12 : decode cL_spoil 12 = .ok (.goto 11, 3) := by decide +kernel
theorem dL_spoil_15 : decode cL_spoil 15 = .ok (.astore 5, 2) := by decide +kernel
theorem dL_spoil_17 : decode cL_spoil 17 = .ok (.iconst 1, 1) := by decide +kernel
theorem dL_spoil_18 : decode cL_spoil 18 = .ok (.ireturn, 1) := by decide +kernel
theorem dL_spoil_19 : decode cL_spoil 19 = .ok (.astore 5, 2) := by decide +kernel
theorem dL_spoil_21 : decode cL_spoil 21 = .ok (.iconst 2, 1) := by decide +kernel
theorem dL_spoil_22 : decode cL_spoil 22 = .ok (.ireturn, 1) := by decide +kernel
theorem dL_spoil_23 : decode cL_spoil 23 = .ok (.iconst 0, 1) := by decide +kernel
theorem dL_spoil_24 : decode cL_spoil 24 = .ok (.ireturn, 1) := by decide +kernel
theorem dL_commitment_0 : decode cL_commitment 0 = .ok (.aload_n 3, 1) := by decide +kernel
theorem dL_commitment_1 : decode cL_commitment 1 = .ok (.iconst 0, 1) := by decide +kernel
theorem dL_commitment_2 : decode cL_commitment 2 = .ok (.aload_n 0, 1) := by decide +kernel
theorem dL_commitment_3 : decode cL_commitment 3 = .ok (.iload_n 1, 1) := by decide +kernel
theorem dL_commitment_4 : decode cL_commitment 4 = .ok (.iload_n 2, 1) := by decide +kernel
theorem dL_commitment_5 : decode cL_commitment 5 = .ok (.invokevirtual 25, 3) := by decide +kernel
theorem dL_commitment_8 : decode cL_commitment 8 = .ok (.i2l, 1) := by decide +kernel
theorem dL_commitment_9 : decode cL_commitment 9 = .ok (.lastore, 1) := by decide +kernel
theorem dL_commitment_10 : decode cL_commitment 10 = .ok (.goto 11, 3) := by decide +kernel
theorem dL_commitment_13 : decode cL_commitment 13 = .ok (.astore 4, 2) := by decide +kernel
theorem dL_commitment_15 : decode cL_commitment 15 = .ok (.iconst 1, 1) := by decide +kernel
theorem dL_commitment_16 : decode cL_commitment 16 = .ok (.ireturn, 1) := by decide +kernel
theorem dL_commitment_17 : decode cL_commitment 17 = .ok (.astore 4, 2) := by decide +kernel
theorem dL_commitment_19 : decode cL_commitment 19 = .ok (.iconst 2, 1) := by decide +kernel
theorem dL_commitment_20 : decode cL_commitment 20 = .ok (.ireturn, 1) := by decide +kernel
theorem dL_commitment_21 : decode cL_commitment 21 = .ok (.iconst 0, 1) := by decide +kernel
theorem dL_commitment_22 : decode cL_commitment 22 = .ok (.ireturn, 1) := by decide +kernel
theorem dL_share_0 : decode cL_share 0 = .ok (.aload_n 3, 1) := by decide +kernel
theorem dL_share_1 : decode cL_share 1 = .ok (.iconst 0, 1) := by decide +kernel
theorem dL_share_2 : decode cL_share 2 = .ok (.aload_n 0, 1) := by decide +kernel
theorem dL_share_3 : decode cL_share 3 = .ok (.iload_n 1, 1) := by decide +kernel
theorem dL_share_4 : decode cL_share 4 = .ok (.iload_n 2, 1) := by decide +kernel
theorem dL_share_5 : decode cL_share 5 = .ok (.invokevirtual 29, 3) := by decide +kernel
theorem dL_share_8 : decode cL_share 8 = .ok (.i2l, 1) := by decide +kernel
theorem dL_share_9 : decode cL_share 9 = .ok (.lastore, 1) := by decide +kernel
theorem dL_share_10 : decode cL_share 10 = .ok (.goto 11, 3) := by decide +kernel
theorem dL_share_13 : decode cL_share 13 = .ok (.astore 4, 2) := by decide +kernel
theorem dL_share_15 : decode cL_share 15 = .ok (.iconst 1, 1) := by decide +kernel
theorem dL_share_16 : decode cL_share 16 = .ok (.ireturn, 1) := by decide +kernel
theorem dL_share_17 : decode cL_share 17 = .ok (.astore 4, 2) := by decide +kernel
theorem dL_share_19 : decode cL_share 19 = .ok (.iconst 2, 1) := by decide +kernel
theorem dL_share_20 : decode cL_share 20 = .ok (.ireturn, 1) := by decide +kernel
theorem dL_share_21 : decode cL_share 21 = .ok (.iconst 0, 1) := by decide +kernel
theorem dL_share_22 : decode cL_share 22 = .ok (.ireturn, 1) := by decide +kernel
theorem dL_isRight_0 : decode cL_isRight 0 = .ok (.aload 4, 2) := by decide +kernel
theorem dL_isRight_2 : decode cL_isRight 2 = .ok (.iconst 0, 1) := by decide +kernel
theorem dL_isRight_3 : decode cL_isRight 3 = .ok (.aload_n 0, 1) := by decide +kernel
theorem dL_isRight_4 : decode cL_isRight 4 = .ok (.iload_n 1, 1) := by decide +kernel
theorem dL_isRight_5 : decode cL_isRight 5 = .ok (.iload_n 2, 1) := by decide +kernel
theorem dL_isRight_6 : decode cL_isRight 6 = .ok (.iload_n 3, 1) := by decide +kernel
theorem dL_isRight_7 : decode cL_isRight 7 = .ok (.invokevirtual 32, 3) := by decide +kernel
theorem dL_isRight_10 : decode cL_isRight 10 = .ok (.ifCond .eq 7, 3) := by decide +kernel
theorem dL_isRight_13 : decode cL_isRight 13 = .ok (.lconst 1, 1) := by decide +kernel
theorem dL_isRight_14 : decode cL_isRight 14 = .ok (.goto 4, 3) := by decide +kernel
theorem dL_isRight_17 : decode cL_isRight 17 = .ok (.lconst 0, 1) := by decide +kernel
theorem dL_isRight_18 : decode cL_isRight 18 = .ok (.lastore, 1) := by decide +kernel
theorem dL_isRight_19 : decode cL_isRight 19 = .ok (.goto 11, 3) := by decide +kernel
theorem dL_isRight_22 : decode cL_isRight 22 = .ok (.astore 5, 2) := by decide +kernel
theorem dL_isRight_24 : decode cL_isRight 24 = .ok (.iconst 1, 1) := by decide +kernel
theorem dL_isRight_25 : decode cL_isRight 25 = .ok (.ireturn, 1) := by decide +kernel
theorem dL_isRight_26 : decode cL_isRight 26 = .ok (.astore 5, 2) := by decide +kernel
theorem dL_isRight_28 : decode cL_isRight 28 = .ok (.iconst 2, 1) := by decide +kernel
theorem dL_isRight_29 : decode cL_isRight 29 = .ok (.ireturn, 1) := by decide +kernel
theorem dL_isRight_30 : decode cL_isRight 30 = .ok (.iconst 0, 1) := by decide +kernel
theorem dL_isRight_31 : decode cL_isRight 31 = .ok (.ireturn, 1) := by decide +kernel
theorem dL_complain_0 : decode cL_complain 0 = .ok (.aload_n 1, 1) := by decide +kernel
theorem dL_complain_1 : decode cL_complain 1 = .ok (.iconst 0, 1) := by decide +kernel
theorem dL_complain_2 : decode cL_complain 2 = .ok (.aload_n 0, 1) := by decide +kernel
theorem dL_complain_3 : decode cL_complain 3 = .ok (.invokevirtual 36, 3) := by decide +kernel
theorem dL_complain_6 : decode cL_complain 6 = .ok (.i2l, 1) := by decide +kernel
theorem dL_complain_7 : decode cL_complain 7 = .ok (.lastore, 1) := by decide +kernel
theorem dL_complain_8 : decode cL_complain 8 = .ok (.goto 6, 3) := by decide +kernel
theorem dL_complain_11 : decode cL_complain 11 = .ok (.astore_n 2, 1) := by decide +kernel
theorem dL_complain_12 : decode cL_complain 12 = .ok (.iconst 1, 1) := by decide +kernel
theorem dL_complain_13 : decode cL_complain 13 = .ok (.ireturn, 1) := by decide +kernel
theorem dL_complain_14 : decode cL_complain 14 = .ok (.iconst 0, 1) := by decide +kernel
theorem dL_complain_15 : decode cL_complain 15 = .ok (.ireturn, 1) := by decide +kernel
theorem dL_answer_0 : decode cL_answer 0 = .ok (.aload 4, 2) := by decide +kernel
theorem dL_answer_2 : decode cL_answer 2 = .ok (.iconst 0, 1) := by decide +kernel
theorem dL_answer_3 : decode cL_answer 3 = .ok (.aload_n 0, 1) := by decide +kernel
theorem dL_answer_4 : decode cL_answer 4 = .ok (.iload_n 1, 1) := by decide +kernel
theorem dL_answer_5 : decode cL_answer 5 = .ok (.iload_n 2, 1) := by decide +kernel
theorem dL_answer_6 : decode cL_answer 6 = .ok (.iload_n 3, 1) := by decide +kernel
theorem dL_answer_7 : decode cL_answer 7 = .ok (.invokevirtual 40, 3) := by decide +kernel
theorem dL_answer_10 : decode cL_answer 10 = .ok (.ifCond .eq 7, 3) := by decide +kernel
theorem dL_answer_13 : decode cL_answer 13 = .ok (.lconst 1, 1) := by decide +kernel
theorem dL_answer_14 : decode cL_answer 14 = .ok (.goto 4, 3) := by decide +kernel
theorem dL_answer_17 : decode cL_answer 17 = .ok (.lconst 0, 1) := by decide +kernel
theorem dL_answer_18 : decode cL_answer 18 = .ok (.lastore, 1) := by decide +kernel
theorem dL_answer_19 : decode cL_answer 19 = .ok (.goto 11, 3) := by decide +kernel
theorem dL_answer_22 : decode cL_answer 22 = .ok (.astore 5, 2) := by decide +kernel
theorem dL_answer_24 : decode cL_answer 24 = .ok (.iconst 1, 1) := by decide +kernel
theorem dL_answer_25 : decode cL_answer 25 = .ok (.ireturn, 1) := by decide +kernel
theorem dL_answer_26 : decode cL_answer 26 = .ok (.astore 5, 2) := by decide +kernel
theorem dL_answer_28 : decode cL_answer 28 = .ok (.iconst 2, 1) := by decide +kernel
theorem dL_answer_29 : decode cL_answer 29 = .ok (.ireturn, 1) := by decide +kernel
theorem dL_answer_30 : decode cL_answer 30 = .ok (.iconst 0, 1) := by decide +kernel
theorem dL_answer_31 : decode cL_answer 31 = .ok (.ireturn, 1) := by decide +kernel
theorem dL_close_0 : decode cL_close 0 = .ok (.aload_n 3, 1) := by decide +kernel
theorem dL_close_1 : decode cL_close 1 = .ok (.iconst 0, 1) := by decide +kernel
theorem dL_close_2 : decode cL_close 2 = .ok (.aload_n 0, 1) := by decide +kernel
theorem dL_close_3 : decode cL_close 3 = .ok (.lload_n 1, 1) := by decide +kernel
theorem dL_close_4 : decode cL_close 4 = .ok (.invokevirtual 43, 3) := by decide +kernel
theorem dL_close_7 : decode cL_close 7 = .ok (.i2l, 1) := by decide +kernel
theorem dL_close_8 : decode cL_close 8 = .ok (.lastore, 1) := by decide +kernel
theorem dL_close_9 : decode cL_close 9 = .ok (.goto 7, 3) := by decide +kernel
theorem dL_close_12 : decode cL_close 12 = .ok (.astore 4, 2) := by decide +kernel
theorem dL_close_14 : decode cL_close 14 = .ok (.iconst 1, 1) := by decide +kernel
theorem dL_close_15 : decode cL_close 15 = .ok (.ireturn, 1) := by decide +kernel
theorem dL_close_16 : decode cL_close 16 = .ok (.iconst 0, 1) := by decide +kernel
theorem dL_close_17 : decode cL_close 17 = .ok (.ireturn, 1) := by decide +kernel
theorem dL_key_0 : decode cL_key 0 = .ok (.aload_n 3, 1) := by decide +kernel
theorem dL_key_1 : decode cL_key 1 = .ok (.iconst 0, 1) := by decide +kernel
theorem dL_key_2 : decode cL_key 2 = .ok (.aload_n 0, 1) := by decide +kernel
theorem dL_key_3 : decode cL_key 3 = .ok (.iload_n 1, 1) := by decide +kernel
theorem dL_key_4 : decode cL_key 4 = .ok (.iload_n 2, 1) := by decide +kernel
theorem dL_key_5 : decode cL_key 5 = .ok (.invokevirtual 47, 3) := by decide +kernel
theorem dL_key_8 : decode cL_key 8 = .ok (.i2l, 1) := by decide +kernel
theorem dL_key_9 : decode cL_key 9 = .ok (.lastore, 1) := by decide +kernel
theorem dL_key_10 : decode cL_key 10 = .ok (.goto 11, 3) := by decide +kernel
theorem dL_key_13 : decode cL_key 13 = .ok (.astore 4, 2) := by decide +kernel
theorem dL_key_15 : decode cL_key 15 = .ok (.iconst 1, 1) := by decide +kernel
theorem dL_key_16 : decode cL_key 16 = .ok (.ireturn, 1) := by decide +kernel
theorem dL_key_17 : decode cL_key 17 = .ok (.astore 4, 2) := by decide +kernel
theorem dL_key_19 : decode cL_key 19 = .ok (.iconst 2, 1) := by decide +kernel
theorem dL_key_20 : decode cL_key 20 = .ok (.ireturn, 1) := by decide +kernel
theorem dL_key_21 : decode cL_key 21 = .ok (.iconst 0, 1) := by decide +kernel
theorem dL_key_22 : decode cL_key 22 = .ok (.ireturn, 1) := by decide +kernel
theorem dL_round_0 : decode cL_round 0 = .ok (.aload_n 2, 1) := by decide +kernel
theorem dL_round_1 : decode cL_round 1 = .ok (.iconst 0, 1) := by decide +kernel
theorem dL_round_2 : decode cL_round 2 = .ok (.aload_n 0, 1) := by decide +kernel
theorem dL_round_3 : decode cL_round 3 = .ok (.iload_n 1, 1) := by decide +kernel
theorem dL_round_4 : decode cL_round 4 = .ok (.invokevirtual 50, 3) := by decide +kernel
theorem dL_round_7 : decode cL_round 7 = .ok (.i2l, 1) := by decide +kernel
theorem dL_round_8 : decode cL_round 8 = .ok (.lastore, 1) := by decide +kernel
theorem dL_round_9 : decode cL_round 9 = .ok (.goto 9, 3) := by decide +kernel
theorem dL_round_12 : decode cL_round 12 = .ok (.astore_n 3, 1) := by decide +kernel
theorem dL_round_13 : decode cL_round 13 = .ok (.iconst 1, 1) := by decide +kernel
theorem dL_round_14 : decode cL_round 14 = .ok (.ireturn, 1) := by decide +kernel
theorem dL_round_15 : decode cL_round 15 = .ok (.astore_n 3, 1) := by decide +kernel
theorem dL_round_16 : decode cL_round 16 = .ok (.iconst 2, 1) := by decide +kernel
theorem dL_round_17 : decode cL_round 17 = .ok (.ireturn, 1) := by decide +kernel
theorem dL_round_18 : decode cL_round 18 = .ok (.iconst 0, 1) := by decide +kernel
theorem dL_round_19 : decode cL_round 19 = .ok (.ireturn, 1) := by decide +kernel
theorem dL_says_0 : decode cL_says 0 = .ok (.aload_n 3, 1) := by decide +kernel
theorem dL_says_1 : decode cL_says 1 = .ok (.iconst 0, 1) := by decide +kernel
theorem dL_says_2 : decode cL_says 2 = .ok (.aload_n 0, 1) := by decide +kernel
theorem dL_says_3 : decode cL_says 3 = .ok (.iload_n 1, 1) := by decide +kernel
theorem dL_says_4 : decode cL_says 4 = .ok (.iload_n 2, 1) := by decide +kernel
theorem dL_says_5 : decode cL_says 5 = .ok (.invokevirtual 54, 3) := by decide +kernel
theorem dL_says_8 : decode cL_says 8 = .ok (.i2l, 1) := by decide +kernel
theorem dL_says_9 : decode cL_says 9 = .ok (.lastore, 1) := by decide +kernel
theorem dL_says_10 : decode cL_says 10 = .ok (.goto 11, 3) := by decide +kernel
theorem dL_says_13 : decode cL_says 13 = .ok (.astore 4, 2) := by decide +kernel
theorem dL_says_15 : decode cL_says 15 = .ok (.iconst 1, 1) := by decide +kernel
theorem dL_says_16 : decode cL_says 16 = .ok (.ireturn, 1) := by decide +kernel
theorem dL_says_17 : decode cL_says 17 = .ok (.astore 4, 2) := by decide +kernel
theorem dL_says_19 : decode cL_says 19 = .ok (.iconst 2, 1) := by decide +kernel
theorem dL_says_20 : decode cL_says 20 = .ok (.ireturn, 1) := by decide +kernel
theorem dL_says_21 : decode cL_says 21 = .ok (.iconst 0, 1) := by decide +kernel
theorem dL_says_22 : decode cL_says 22 = .ok (.ireturn, 1) := by decide +kernel
theorem dL_offer_0 : decode cL_offer 0 = .ok (.aload 6, 2) := by decide +kernel
theorem dL_offer_2 : decode cL_offer 2 = .ok (.iconst 0, 1) := by decide +kernel
theorem dL_offer_3 : decode cL_offer 3 = .ok (.aload_n 0, 1) := by decide +kernel
theorem dL_offer_4 : decode cL_offer 4 = .ok (.iload_n 1, 1) := by decide +kernel
theorem dL_offer_5 : decode cL_offer 5 = .ok (.iload_n 2, 1) := by decide +kernel
theorem dL_offer_6 : decode cL_offer 6 = .ok (.iload_n 3, 1) := by decide +kernel
theorem dL_offer_7 : decode cL_offer 7 = .ok (.iload 4, 2) := by decide +kernel
theorem dL_offer_9 : decode cL_offer 9 = .ok (.iload 5, 2) := by decide +kernel
theorem dL_offer_11 : decode cL_offer 11 = .ok (.invokevirtual 57, 3) := by decide +kernel
theorem dL_offer_14 : decode cL_offer 14 = .ok (.ifCond .eq 7, 3) := by decide +kernel
theorem dL_offer_17 : decode cL_offer 17 = .ok (.lconst 1, 1) := by decide +kernel
theorem dL_offer_18 : decode cL_offer 18 = .ok (.goto 4, 3) := by decide +kernel
theorem dL_offer_21 : decode cL_offer 21 = .ok (.lconst 0, 1) := by decide +kernel
theorem dL_offer_22 : decode cL_offer 22 = .ok (.lastore, 1) := by decide +kernel
theorem dL_offer_23 : decode cL_offer 23 = .ok (.goto 11, 3) := by decide +kernel
theorem dL_offer_26 : decode cL_offer 26 = .ok (.astore 7, 2) := by decide +kernel
theorem dL_offer_28 : decode cL_offer 28 = .ok (.iconst 1, 1) := by decide +kernel
theorem dL_offer_29 : decode cL_offer 29 = .ok (.ireturn, 1) := by decide +kernel
theorem dL_offer_30 : decode cL_offer 30 = .ok (.astore 7, 2) := by decide +kernel
theorem dL_offer_32 : decode cL_offer 32 = .ok (.iconst 2, 1) := by decide +kernel
theorem dL_offer_33 : decode cL_offer 33 = .ok (.ireturn, 1) := by decide +kernel
theorem dL_offer_34 : decode cL_offer 34 = .ok (.iconst 0, 1) := by decide +kernel
theorem dL_offer_35 : decode cL_offer 35 = .ok (.ireturn, 1) := by decide +kernel
theorem dL_value_0 : decode cL_value 0 = .ok (.aload_n 2, 1) := by decide +kernel
theorem dL_value_1 : decode cL_value 1 = .ok (.iconst 0, 1) := by decide +kernel
theorem dL_value_2 : decode cL_value 2 = .ok (.aload_n 0, 1) := by decide +kernel
theorem dL_value_3 : decode cL_value 3 = .ok (.iload_n 1, 1) := by decide +kernel
theorem dL_value_4 : decode cL_value 4 = .ok (.invokevirtual 61, 3) := by decide +kernel
theorem dL_value_7 : decode cL_value 7 = .ok (.i2l, 1) := by decide +kernel
theorem dL_value_8 : decode cL_value 8 = .ok (.lastore, 1) := by decide +kernel
theorem dL_value_9 : decode cL_value 9 = .ok (.goto 9, 3) := by decide +kernel
theorem dL_value_12 : decode cL_value 12 = .ok (.astore_n 3, 1) := by decide +kernel
theorem dL_value_13 : decode cL_value 13 = .ok (.iconst 1, 1) := by decide +kernel
theorem dL_value_14 : decode cL_value 14 = .ok (.ireturn, 1) := by decide +kernel
theorem dL_value_15 : decode cL_value 15 = .ok (.astore_n 3, 1) := by decide +kernel
theorem dL_value_16 : decode cL_value 16 = .ok (.iconst 2, 1) := by decide +kernel
theorem dL_value_17 : decode cL_value 17 = .ok (.ireturn, 1) := by decide +kernel
theorem dL_value_18 : decode cL_value 18 = .ok (.iconst 0, 1) := by decide +kernel
theorem dL_value_19 : decode cL_value 19 = .ok (.ireturn, 1) := by decide +kernel
theorem dL_publish_0 : decode cL_publish 0 = .ok (.aload_n 1, 1) := by decide +kernel
theorem dL_publish_1 : decode cL_publish 1 = .ok (.iconst 0, 1) := by decide +kernel
theorem dL_publish_2 : decode cL_publish 2 = .ok (.aload_n 0, 1) := by decide +kernel
theorem dL_publish_3 : decode cL_publish 3 = .ok (.invokevirtual 64, 3) := by decide +kernel
theorem dL_publish_6 : decode cL_publish 6 = .ok (.i2l, 1) := by decide +kernel
theorem dL_publish_7 : decode cL_publish 7 = .ok (.lastore, 1) := by decide +kernel
theorem dL_publish_8 : decode cL_publish 8 = .ok (.goto 9, 3) := by decide +kernel
theorem dL_publish_11 : decode cL_publish 11 = .ok (.astore_n 2, 1) := by decide +kernel
theorem dL_publish_12 : decode cL_publish 12 = .ok (.iconst 1, 1) := by decide +kernel
theorem dL_publish_13 : decode cL_publish 13 = .ok (.ireturn, 1) := by decide +kernel
theorem dL_publish_14 : decode cL_publish 14 = .ok (.astore_n 2, 1) := by decide +kernel
theorem dL_publish_15 : decode cL_publish 15 = .ok (.iconst 2, 1) := by decide +kernel
theorem dL_publish_16 : decode cL_publish 16 = .ok (.ireturn, 1) := by decide +kernel
theorem dL_publish_17 : decode cL_publish 17 = .ok (.iconst 0, 1) := by decide +kernel
theorem dL_publish_18 : decode cL_publish 18 = .ok (.ireturn, 1) := by decide +kernel
theorem dL_ended_0 : decode cL_ended 0 = .ok (.aload_n 2, 1) := by decide +kernel
theorem dL_ended_1 : decode cL_ended 1 = .ok (.iconst 0, 1) := by decide +kernel
theorem dL_ended_2 : decode cL_ended 2 = .ok (.aload_n 0, 1) := by decide +kernel
theorem dL_ended_3 : decode cL_ended 3 = .ok (.iload_n 1, 1) := by decide +kernel
theorem dL_ended_4 : decode cL_ended 4 = .ok (.invokevirtual 69, 3) := by decide +kernel
theorem dL_ended_7 : decode cL_ended 7 = .ok (.lastore, 1) := by decide +kernel
theorem dL_ended_8 : decode cL_ended 8 = .ok (.goto 9, 3) := by decide +kernel
theorem dL_ended_11 : decode cL_ended 11 = .ok (.astore_n 3, 1) := by decide +kernel
theorem dL_ended_12 : decode cL_ended 12 = .ok (.iconst 1, 1) := by decide +kernel
theorem dL_ended_13 : decode cL_ended 13 = .ok (.ireturn, 1) := by decide +kernel
theorem dL_ended_14 : decode cL_ended 14 = .ok (.astore_n 3, 1) := by decide +kernel
theorem dL_ended_15 : decode cL_ended 15 = .ok (.iconst 2, 1) := by decide +kernel
theorem dL_ended_16 : decode cL_ended 16 = .ok (.ireturn, 1) := by decide +kernel
theorem dL_ended_17 : decode cL_ended 17 = .ok (.iconst 0, 1) := by decide +kernel
theorem dL_ended_18 : decode cL_ended 18 = .ok (.ireturn, 1) := by decide +kernel
theorem dL_random_0 : decode cL_random 0 = .ok (.aload_n 2, 1) := by decide +kernel
theorem dL_random_1 : decode cL_random 1 = .ok (.iconst 0, 1) := by decide +kernel
theorem dL_random_2 : decode cL_random 2 = .ok (.aload_n 0, 1) := by decide +kernel
theorem dL_random_3 : decode cL_random 3 = .ok (.iload_n 1, 1) := by decide +kernel
theorem dL_random_4 : decode cL_random 4 = .ok (.invokevirtual 73, 3) := by decide +kernel
theorem dL_random_7 : decode cL_random 7 = .ok (.lastore, 1) := by decide +kernel
theorem dL_random_8 : decode cL_random 8 = .ok (.goto 9, 3) := by decide +kernel
theorem dL_random_11 : decode cL_random 11 = .ok (.astore_n 3, 1) := by decide +kernel
theorem dL_random_12 : decode cL_random 12 = .ok (.iconst 1, 1) := by decide +kernel
theorem dL_random_13 : decode cL_random 13 = .ok (.ireturn, 1) := by decide +kernel
theorem dL_random_14 : decode cL_random 14 = .ok (.astore_n 3, 1) := by decide +kernel
theorem dL_random_15 : decode cL_random 15 = .ok (.iconst 2, 1) := by decide +kernel
theorem dL_random_16 : decode cL_random 16 = .ok (.ireturn, 1) := by decide +kernel
theorem dL_random_17 : decode cL_random 17 = .ok (.iconst 0, 1) := by decide +kernel
theorem dL_random_18 : decode cL_random 18 = .ok (.ireturn, 1) := by decide +kernel
theorem dL_about_0 : decode cL_about 0 = .ok (.aload_n 2, 1) := by decide +kernel
theorem dL_about_1 : decode cL_about 1 = .ok (.iconst 0, 1) := by decide +kernel
theorem dL_about_2 : decode cL_about 2 = .ok (.aload_n 0, 1) := by decide +kernel
theorem dL_about_3 : decode cL_about 3 = .ok (.iload_n 1, 1) := by decide +kernel
theorem dL_about_4 : decode cL_about 4 = .ok (.invokevirtual 76, 3) := by decide +kernel
theorem dL_about_7 : decode cL_about 7 = .ok (.i2l, 1) := by decide +kernel
theorem dL_about_8 : decode cL_about 8 = .ok (.lastore, 1) := by decide +kernel
theorem dL_about_9 : decode cL_about 9 = .ok (.goto 6, 3) := by decide +kernel
theorem dL_about_12 : decode cL_about 12 = .ok (.astore_n 3, 1) := by decide +kernel
theorem dL_about_13 : decode cL_about 13 = .ok (.iconst 1, 1) := by decide +kernel
theorem dL_about_14 : decode cL_about 14 = .ok (.ireturn, 1) := by decide +kernel
theorem dL_about_15 : decode cL_about 15 = .ok (.iconst 0, 1) := by decide +kernel
theorem dL_about_16 : decode cL_about 16 = .ok (.ireturn, 1) := by decide +kernel
theorem dL_law_0 : decode cL_law 0 = .ok (.new 8, 3) := by decide +kernel
theorem dL_law_3 : decode cL_law 3 = .ok (.dup, 1) := by decide +kernel
theorem dL_law_4 : decode cL_law 4 = .ok (.invokespecial 79, 3) := by decide +kernel
theorem dL_law_7 : decode cL_law 7 = .ok (.astore_n 1, 1) := by decide +kernel
theorem dL_law_8 : decode cL_law 8 = .ok (.new 80, 3) := by decide +kernel
theorem dL_law_11 : decode cL_law 11 = .ok (.dup, 1) := by decide +kernel
theorem dL_law_12 : decode cL_law 12 = .ok (.invokespecial 82, 3) := by decide +kernel
theorem dL_law_15 : decode cL_law 15 = .ok (.astore_n 2, 1) := by decide +kernel
theorem dL_law_16 : decode cL_law 16 = .ok (.iconst 1, 1) := by decide +kernel
theorem dL_law_17 : decode cL_law 17 = .ok (.newarray .long, 2) := by decide +kernel
theorem dL_law_19 : decode cL_law 19 = .ok (.astore_n 3, 1) := by decide +kernel
theorem dL_law_20 : decode cL_law 20 = .ok (.iconst 0, 1) := by decide +kernel
theorem dL_law_21 : decode cL_law 21 = .ok (.istore 4, 2) := by decide +kernel
theorem dL_law_23 : decode cL_law 23 = .ok (.iload 4, 2) := by decide +kernel
theorem dL_law_25 : decode cL_law 25 = .ok (.aload_n 0, 1) := by decide +kernel
theorem dL_law_26 : decode cL_law 26 = .ok (.arraylength, 1) := by decide +kernel
theorem dL_law_27 : decode cL_law 27 = .ok (.bipush 6, 2) := by decide +kernel
theorem dL_law_29 : decode cL_law 29 = .ok (.isub, 1) := by decide +kernel
theorem dL_law_30 : decode cL_law 30 = .ok (.if_icmp .gt 1323, 3) := by decide +kernel
theorem dL_law_33 : decode cL_law 33 = .ok (.aload_n 0, 1) := by decide +kernel
theorem dL_law_34 : decode cL_law 34 = .ok (.iload 4, 2) := by decide +kernel
theorem dL_law_36 : decode cL_law 36 = .ok (.iaload, 1) := by decide +kernel
theorem dL_law_37 : decode cL_law 37 = .ok (.bipush 31, 2) := by decide +kernel
theorem dL_law_39 : decode cL_law 39 = .ok (.iand, 1) := by decide +kernel
theorem dL_law_40 : decode cL_law 40 = .ok (.tableswitch 1307 0 17 #[88, 136, 216, 296, 364, 432, 519, 563, 650, 738, 806, 862, 930, 1041, 1097, 1141, 1196, 1251], 88) := by decide +kernel
theorem dL_law_128 : decode cL_law 128 = .ok (.aload_n 1, 1) := by decide +kernel
theorem dL_law_129 : decode cL_law 129 = .ok (.aload_n 0, 1) := by decide +kernel
theorem dL_law_130 : decode cL_law 130 = .ok (.iload 4, 2) := by decide +kernel
theorem dL_law_132 : decode cL_law 132 = .ok (.iconst 1, 1) := by decide +kernel
theorem dL_law_133 : decode cL_law 133 = .ok (.iadd, 1) := by decide +kernel
theorem dL_law_134 : decode cL_law 134 = .ok (.iaload, 1) := by decide +kernel
theorem dL_law_135 : decode cL_law 135 = .ok (.aload_n 0, 1) := by decide +kernel
theorem dL_law_136 : decode cL_law 136 = .ok (.iload 4, 2) := by decide +kernel
theorem dL_law_138 : decode cL_law 138 = .ok (.iconst 2, 1) := by decide +kernel
theorem dL_law_139 : decode cL_law 139 = .ok (.iadd, 1) := by decide +kernel
theorem dL_law_140 : decode cL_law 140 = .ok (.iaload, 1) := by decide +kernel
theorem dL_law_141 : decode cL_law 141 = .ok (.invokestatic 83, 3) := by decide +kernel
theorem dL_law_144 : decode cL_law 144 = .ok (.istore 5, 2) := by decide +kernel
theorem dL_law_146 : decode cL_law 146 = .ok (.aload_n 2, 1) := by decide +kernel
theorem dL_law_147 : decode cL_law 147 = .ok (.aload_n 0, 1) := by decide +kernel
theorem dL_law_148 : decode cL_law 148 = .ok (.iload 4, 2) := by decide +kernel
theorem dL_law_150 : decode cL_law 150 = .ok (.iconst 1, 1) := by decide +kernel
theorem dL_law_151 : decode cL_law 151 = .ok (.iadd, 1) := by decide +kernel
theorem dL_law_152 : decode cL_law 152 = .ok (.iaload, 1) := by decide +kernel
theorem dL_law_153 : decode cL_law 153 = .ok (.aload_n 0, 1) := by decide +kernel
theorem dL_law_154 : decode cL_law 154 = .ok (.iload 4, 2) := by decide +kernel
theorem dL_law_156 : decode cL_law 156 = .ok (.iconst 2, 1) := by decide +kernel
theorem dL_law_157 : decode cL_law 157 = .ok (.iadd, 1) := by decide +kernel
theorem dL_law_158 : decode cL_law 158 = .ok (.iaload, 1) := by decide +kernel
theorem dL_law_159 : decode cL_law 159 = .ok (.invokevirtual 88, 3) := by decide +kernel
theorem dL_law_162 : decode cL_law 162 = .ok (.aload_n 2, 1) := by decide +kernel
theorem dL_law_163 : decode cL_law 163 = .ok (.invokevirtual 89, 3) := by decide +kernel
theorem dL_law_166 : decode cL_law 166 = .ok (.iload 5, 2) := by decide +kernel
theorem dL_law_168 : decode cL_law 168 = .ok (.if_icmp .eq 5, 3) := by decide +kernel
theorem dL_law_171 : decode cL_law 171 = .ok (.iconst 0, 1) := by decide +kernel
theorem dL_law_172 : decode cL_law 172 = .ok (.ireturn, 1) := by decide +kernel
theorem dL_law_173 : decode cL_law 173 = .ok (.goto 1174, 3) := by decide +kernel
theorem dL_law_176 : decode cL_law 176 = .ok (.aload_n 1, 1) := by decide +kernel
theorem dL_law_177 : decode cL_law 177 = .ok (.aload_n 0, 1) := by decide +kernel
theorem dL_law_178 : decode cL_law 178 = .ok (.iload 4, 2) := by decide +kernel
theorem dL_law_180 : decode cL_law 180 = .ok (.iconst 1, 1) := by decide +kernel
theorem dL_law_181 : decode cL_law 181 = .ok (.iadd, 1) := by decide +kernel
theorem dL_law_182 : decode cL_law 182 = .ok (.iaload, 1) := by decide +kernel
theorem dL_law_183 : decode cL_law 183 = .ok (.aload_n 0, 1) := by decide +kernel
theorem dL_law_184 : decode cL_law 184 = .ok (.iload 4, 2) := by decide +kernel
theorem dL_law_186 : decode cL_law 186 = .ok (.iconst 2, 1) := by decide +kernel
theorem dL_law_187 : decode cL_law 187 = .ok (.iadd, 1) := by decide +kernel
theorem dL_law_188 : decode cL_law 188 = .ok (.iaload, 1) := by decide +kernel
theorem dL_law_189 : decode cL_law 189 = .ok (.i2l, 1) := by decide +kernel
theorem dL_law_190 : decode cL_law 190 = .ok (.bipush 32, 2) := by decide +kernel
theorem dL_law_192 : decode cL_law 192 = .ok (.lshl, 1) := by decide +kernel
theorem dL_law_193 : decode cL_law 193 = .ok (.aload_n 0, 1) := by decide +kernel
theorem dL_law_194 : decode cL_law 194 = .ok (.iload 4, 2) := by decide +kernel
theorem dL_law_196 : decode cL_law 196 = .ok (.iconst 3, 1) := by decide +kernel
theorem dL_law_197 : decode cL_law 197 = .ok (.iadd, 1) := by decide +kernel
theorem dL_law_198 : decode cL_law 198 = .ok (.iaload, 1) := by decide +kernel
theorem dL_law_199 : decode cL_law 199 = .ok (.i2l, 1) := by decide +kernel
theorem dL_law_200 : decode cL_law 200 = .ok (.ldc2_w 92, 3) := by decide +kernel
theorem dL_law_203 : decode cL_law 203 = .ok (.land, 1) := by decide +kernel
theorem dL_law_204 : decode cL_law 204 = .ok (.lor, 1) := by decide +kernel
theorem dL_law_205 : decode cL_law 205 = .ok (.invokestatic 94, 3) := by decide +kernel
theorem dL_law_208 : decode cL_law 208 = .ok (.istore 5, 2) := by decide +kernel
theorem dL_law_210 : decode cL_law 210 = .ok (.aload_n 2, 1) := by decide +kernel
theorem dL_law_211 : decode cL_law 211 = .ok (.aload_n 0, 1) := by decide +kernel
theorem dL_law_212 : decode cL_law 212 = .ok (.iload 4, 2) := by decide +kernel
theorem dL_law_214 : decode cL_law 214 = .ok (.iconst 1, 1) := by decide +kernel
theorem dL_law_215 : decode cL_law 215 = .ok (.iadd, 1) := by decide +kernel
theorem dL_law_216 : decode cL_law 216 = .ok (.iaload, 1) := by decide +kernel
theorem dL_law_217 : decode cL_law 217 = .ok (.aload_n 0, 1) := by decide +kernel
theorem dL_law_218 : decode cL_law 218 = .ok (.iload 4, 2) := by decide +kernel
theorem dL_law_220 : decode cL_law 220 = .ok (.iconst 2, 1) := by decide +kernel
theorem dL_law_221 : decode cL_law 221 = .ok (.iadd, 1) := by decide +kernel
theorem dL_law_222 : decode cL_law 222 = .ok (.iaload, 1) := by decide +kernel
theorem dL_law_223 : decode cL_law 223 = .ok (.i2l, 1) := by decide +kernel
theorem dL_law_224 : decode cL_law 224 = .ok (.bipush 32, 2) := by decide +kernel
theorem dL_law_226 : decode cL_law 226 = .ok (.lshl, 1) := by decide +kernel
theorem dL_law_227 : decode cL_law 227 = .ok (.aload_n 0, 1) := by decide +kernel
theorem dL_law_228 : decode cL_law 228 = .ok (.iload 4, 2) := by decide +kernel
theorem dL_law_230 : decode cL_law 230 = .ok (.iconst 3, 1) := by decide +kernel
theorem dL_law_231 : decode cL_law 231 = .ok (.iadd, 1) := by decide +kernel
theorem dL_law_232 : decode cL_law 232 = .ok (.iaload, 1) := by decide +kernel
theorem dL_law_233 : decode cL_law 233 = .ok (.i2l, 1) := by decide +kernel
theorem dL_law_234 : decode cL_law 234 = .ok (.ldc2_w 92, 3) := by decide +kernel
theorem dL_law_237 : decode cL_law 237 = .ok (.land, 1) := by decide +kernel
theorem dL_law_238 : decode cL_law 238 = .ok (.lor, 1) := by decide +kernel
theorem dL_law_239 : decode cL_law 239 = .ok (.invokevirtual 97, 3) := by decide +kernel
theorem dL_law_242 : decode cL_law 242 = .ok (.aload_n 2, 1) := by decide +kernel
theorem dL_law_243 : decode cL_law 243 = .ok (.invokevirtual 89, 3) := by decide +kernel
theorem dL_law_246 : decode cL_law 246 = .ok (.iload 5, 2) := by decide +kernel
theorem dL_law_248 : decode cL_law 248 = .ok (.if_icmp .eq 5, 3) := by decide +kernel
theorem dL_law_251 : decode cL_law 251 = .ok (.iconst 0, 1) := by decide +kernel
theorem dL_law_252 : decode cL_law 252 = .ok (.ireturn, 1) := by decide +kernel
theorem dL_law_253 : decode cL_law 253 = .ok (.goto 1094, 3) := by decide +kernel
theorem dL_law_256 : decode cL_law 256 = .ok (.aload_n 1, 1) := by decide +kernel
theorem dL_law_257 : decode cL_law 257 = .ok (.aload_n 0, 1) := by decide +kernel
theorem dL_law_258 : decode cL_law 258 = .ok (.iload 4, 2) := by decide +kernel
theorem dL_law_260 : decode cL_law 260 = .ok (.iconst 1, 1) := by decide +kernel
theorem dL_law_261 : decode cL_law 261 = .ok (.iadd, 1) := by decide +kernel
theorem dL_law_262 : decode cL_law 262 = .ok (.iaload, 1) := by decide +kernel
theorem dL_law_263 : decode cL_law 263 = .ok (.aload_n 0, 1) := by decide +kernel
theorem dL_law_264 : decode cL_law 264 = .ok (.iload 4, 2) := by decide +kernel
theorem dL_law_266 : decode cL_law 266 = .ok (.iconst 2, 1) := by decide +kernel
theorem dL_law_267 : decode cL_law 267 = .ok (.iadd, 1) := by decide +kernel
theorem dL_law_268 : decode cL_law 268 = .ok (.iaload, 1) := by decide +kernel
theorem dL_law_269 : decode cL_law 269 = .ok (.aload_n 0, 1) := by decide +kernel
theorem dL_law_270 : decode cL_law 270 = .ok (.iload 4, 2) := by decide +kernel
theorem dL_law_272 : decode cL_law 272 = .ok (.iconst 3, 1) := by decide +kernel
theorem dL_law_273 : decode cL_law 273 = .ok (.iadd, 1) := by decide +kernel
theorem dL_law_274 : decode cL_law 274 = .ok (.iaload, 1) := by decide +kernel
theorem dL_law_275 : decode cL_law 275 = .ok (.aload_n 3, 1) := by decide +kernel
theorem dL_law_276 : decode cL_law 276 = .ok (.invokestatic 98, 3) := by decide +kernel
theorem dL_law_279 : decode cL_law 279 = .ok (.istore 5, 2) := by decide +kernel
theorem dL_law_281 : decode cL_law 281 = .ok (.aload_n 2, 1) := by decide +kernel
theorem dL_law_282 : decode cL_law 282 = .ok (.aload_n 0, 1) := by decide +kernel
theorem dL_law_283 : decode cL_law 283 = .ok (.iload 4, 2) := by decide +kernel
theorem dL_law_285 : decode cL_law 285 = .ok (.iconst 1, 1) := by decide +kernel
theorem dL_law_286 : decode cL_law 286 = .ok (.iadd, 1) := by decide +kernel
theorem dL_law_287 : decode cL_law 287 = .ok (.iaload, 1) := by decide +kernel
theorem dL_law_288 : decode cL_law 288 = .ok (.aload_n 0, 1) := by decide +kernel
theorem dL_law_289 : decode cL_law 289 = .ok (.iload 4, 2) := by decide +kernel
theorem dL_law_291 : decode cL_law 291 = .ok (.iconst 2, 1) := by decide +kernel
theorem dL_law_292 : decode cL_law 292 = .ok (.iadd, 1) := by decide +kernel
theorem dL_law_293 : decode cL_law 293 = .ok (.iaload, 1) := by decide +kernel
theorem dL_law_294 : decode cL_law 294 = .ok (.aload_n 0, 1) := by decide +kernel
theorem dL_law_295 : decode cL_law 295 = .ok (.iload 4, 2) := by decide +kernel
theorem dL_law_297 : decode cL_law 297 = .ok (.iconst 3, 1) := by decide +kernel
theorem dL_law_298 : decode cL_law 298 = .ok (.iadd, 1) := by decide +kernel
theorem dL_law_299 : decode cL_law 299 = .ok (.iaload, 1) := by decide +kernel
theorem dL_law_300 : decode cL_law 300 = .ok (.invokevirtual 101, 3) := by decide +kernel
theorem dL_law_303 : decode cL_law 303 = .ok (.istore 6, 2) := by decide +kernel
theorem dL_law_305 : decode cL_law 305 = .ok (.aload_n 2, 1) := by decide +kernel
theorem dL_law_306 : decode cL_law 306 = .ok (.invokevirtual 89, 3) := by decide +kernel
theorem dL_law_309 : decode cL_law 309 = .ok (.iload 5, 2) := by decide +kernel
theorem dL_law_311 : decode cL_law 311 = .ok (.if_icmp .eq 5, 3) := by decide +kernel
theorem dL_law_314 : decode cL_law 314 = .ok (.iconst 0, 1) := by decide +kernel
theorem dL_law_315 : decode cL_law 315 = .ok (.ireturn, 1) := by decide +kernel
theorem dL_law_316 : decode cL_law 316 = .ok (.iload 5, 2) := by decide +kernel
theorem dL_law_318 : decode cL_law 318 = .ok (.ifCond .ne 15, 3) := by decide +kernel
theorem dL_law_321 : decode cL_law 321 = .ok (.aload_n 3, 1) := by decide +kernel
theorem dL_law_322 : decode cL_law 322 = .ok (.iconst 0, 1) := by decide +kernel
theorem dL_law_323 : decode cL_law 323 = .ok (.laload, 1) := by decide +kernel
theorem dL_law_324 : decode cL_law 324 = .ok (.iload 6, 2) := by decide +kernel
theorem dL_law_326 : decode cL_law 326 = .ok (.i2l, 1) := by decide +kernel
theorem dL_law_327 : decode cL_law 327 = .ok (.lcmp, 1) := by decide +kernel
theorem dL_law_328 : decode cL_law 328 = .ok (.ifCond .eq 5, 3) := by decide +kernel
theorem dL_law_331 : decode cL_law 331 = .ok (.iconst 0, 1) := by decide +kernel
theorem dL_law_332 : decode cL_law 332 = .ok (.ireturn, 1) := by decide +kernel
theorem dL_law_333 : decode cL_law 333 = .ok (.goto 1014, 3) := by decide +kernel
theorem dL_law_336 : decode cL_law 336 = .ok (.aload_n 1, 1) := by decide +kernel
theorem dL_law_337 : decode cL_law 337 = .ok (.aload_n 0, 1) := by decide +kernel
theorem dL_law_338 : decode cL_law 338 = .ok (.iload 4, 2) := by decide +kernel
theorem dL_law_340 : decode cL_law 340 = .ok (.iconst 1, 1) := by decide +kernel
theorem dL_law_341 : decode cL_law 341 = .ok (.iadd, 1) := by decide +kernel
theorem dL_law_342 : decode cL_law 342 = .ok (.iaload, 1) := by decide +kernel
theorem dL_law_343 : decode cL_law 343 = .ok (.aload_n 0, 1) := by decide +kernel
theorem dL_law_344 : decode cL_law 344 = .ok (.iload 4, 2) := by decide +kernel
theorem dL_law_346 : decode cL_law 346 = .ok (.iconst 2, 1) := by decide +kernel
theorem dL_law_347 : decode cL_law 347 = .ok (.iadd, 1) := by decide +kernel
theorem dL_law_348 : decode cL_law 348 = .ok (.iaload, 1) := by decide +kernel
theorem dL_law_349 : decode cL_law 349 = .ok (.aload_n 3, 1) := by decide +kernel
theorem dL_law_350 : decode cL_law 350 = .ok (.invokestatic 102, 3) := by decide +kernel
theorem dL_law_353 : decode cL_law 353 = .ok (.istore 5, 2) := by decide +kernel
theorem dL_law_355 : decode cL_law 355 = .ok (.aload_n 2, 1) := by decide +kernel
theorem dL_law_356 : decode cL_law 356 = .ok (.aload_n 0, 1) := by decide +kernel
theorem dL_law_357 : decode cL_law 357 = .ok (.iload 4, 2) := by decide +kernel
theorem dL_law_359 : decode cL_law 359 = .ok (.iconst 1, 1) := by decide +kernel
theorem dL_law_360 : decode cL_law 360 = .ok (.iadd, 1) := by decide +kernel
theorem dL_law_361 : decode cL_law 361 = .ok (.iaload, 1) := by decide +kernel
theorem dL_law_362 : decode cL_law 362 = .ok (.aload_n 0, 1) := by decide +kernel
theorem dL_law_363 : decode cL_law 363 = .ok (.iload 4, 2) := by decide +kernel
theorem dL_law_365 : decode cL_law 365 = .ok (.iconst 2, 1) := by decide +kernel
theorem dL_law_366 : decode cL_law 366 = .ok (.iadd, 1) := by decide +kernel
theorem dL_law_367 : decode cL_law 367 = .ok (.iaload, 1) := by decide +kernel
theorem dL_law_368 : decode cL_law 368 = .ok (.invokevirtual 105, 3) := by decide +kernel
theorem dL_law_371 : decode cL_law 371 = .ok (.istore 6, 2) := by decide +kernel
theorem dL_law_373 : decode cL_law 373 = .ok (.aload_n 2, 1) := by decide +kernel
theorem dL_law_374 : decode cL_law 374 = .ok (.invokevirtual 89, 3) := by decide +kernel
theorem dL_law_377 : decode cL_law 377 = .ok (.iload 5, 2) := by decide +kernel
theorem dL_law_379 : decode cL_law 379 = .ok (.if_icmp .eq 5, 3) := by decide +kernel
theorem dL_law_382 : decode cL_law 382 = .ok (.iconst 0, 1) := by decide +kernel
theorem dL_law_383 : decode cL_law 383 = .ok (.ireturn, 1) := by decide +kernel
theorem dL_law_384 : decode cL_law 384 = .ok (.iload 5, 2) := by decide +kernel
theorem dL_law_386 : decode cL_law 386 = .ok (.ifCond .ne 15, 3) := by decide +kernel
theorem dL_law_389 : decode cL_law 389 = .ok (.aload_n 3, 1) := by decide +kernel
theorem dL_law_390 : decode cL_law 390 = .ok (.iconst 0, 1) := by decide +kernel
theorem dL_law_391 : decode cL_law 391 = .ok (.laload, 1) := by decide +kernel
theorem dL_law_392 : decode cL_law 392 = .ok (.iload 6, 2) := by decide +kernel
theorem dL_law_394 : decode cL_law 394 = .ok (.i2l, 1) := by decide +kernel
theorem dL_law_395 : decode cL_law 395 = .ok (.lcmp, 1) := by decide +kernel
theorem dL_law_396 : decode cL_law 396 = .ok (.ifCond .eq 5, 3) := by decide +kernel
theorem dL_law_399 : decode cL_law 399 = .ok (.iconst 0, 1) := by decide +kernel
end
section
theorem dL_law_400 : decode cL_law 400 = .ok (.ireturn, 1) := by decide +kernel
theorem dL_law_401 : decode cL_law 401 = .ok (.goto 946, 3) := by decide +kernel
theorem dL_law_404 : decode cL_law 404 = .ok (.aload_n 1, 1) := by decide +kernel
theorem dL_law_405 : decode cL_law 405 = .ok (.aload_n 0, 1) := by decide +kernel
theorem dL_law_406 : decode cL_law 406 = .ok (.iload 4, 2) := by decide +kernel
theorem dL_law_408 : decode cL_law 408 = .ok (.iconst 1, 1) := by decide +kernel
theorem dL_law_409 : decode cL_law 409 = .ok (.iadd, 1) := by decide +kernel
theorem dL_law_410 : decode cL_law 410 = .ok (.iaload, 1) := by decide +kernel
theorem dL_law_411 : decode cL_law 411 = .ok (.aload_n 0, 1) := by decide +kernel
theorem dL_law_412 : decode cL_law 412 = .ok (.iload 4, 2) := by decide +kernel
theorem dL_law_414 : decode cL_law 414 = .ok (.iconst 2, 1) := by decide +kernel
theorem dL_law_415 : decode cL_law 415 = .ok (.iadd, 1) := by decide +kernel
theorem dL_law_416 : decode cL_law 416 = .ok (.iaload, 1) := by decide +kernel
theorem dL_law_417 : decode cL_law 417 = .ok (.aload_n 3, 1) := by decide +kernel
theorem dL_law_418 : decode cL_law 418 = .ok (.invokestatic 106, 3) := by decide +kernel
theorem dL_law_421 : decode cL_law 421 = .ok (.istore 5, 2) := by decide +kernel
theorem dL_law_423 : decode cL_law 423 = .ok (.aload_n 2, 1) := by decide +kernel
theorem dL_law_424 : decode cL_law 424 = .ok (.aload_n 0, 1) := by decide +kernel
theorem dL_law_425 : decode cL_law 425 = .ok (.iload 4, 2) := by decide +kernel
theorem dL_law_427 : decode cL_law 427 = .ok (.iconst 1, 1) := by decide +kernel
theorem dL_law_428 : decode cL_law 428 = .ok (.iadd, 1) := by decide +kernel
theorem dL_law_429 : decode cL_law 429 = .ok (.iaload, 1) := by decide +kernel
theorem dL_law_430 : decode cL_law 430 = .ok (.aload_n 0, 1) := by decide +kernel
theorem dL_law_431 : decode cL_law 431 = .ok (.iload 4, 2) := by decide +kernel
theorem dL_law_433 : decode cL_law 433 = .ok (.iconst 2, 1) := by decide +kernel
theorem dL_law_434 : decode cL_law 434 = .ok (.iadd, 1) := by decide +kernel
theorem dL_law_435 : decode cL_law 435 = .ok (.iaload, 1) := by decide +kernel
theorem dL_law_436 : decode cL_law 436 = .ok (.invokevirtual 108, 3) := by decide +kernel
theorem dL_law_439 : decode cL_law 439 = .ok (.istore 6, 2) := by decide +kernel
theorem dL_law_441 : decode cL_law 441 = .ok (.aload_n 2, 1) := by decide +kernel
theorem dL_law_442 : decode cL_law 442 = .ok (.invokevirtual 89, 3) := by decide +kernel
theorem dL_law_445 : decode cL_law 445 = .ok (.iload 5, 2) := by decide +kernel
theorem dL_law_447 : decode cL_law 447 = .ok (.if_icmp .eq 5, 3) := by decide +kernel
theorem dL_law_450 : decode cL_law 450 = .ok (.iconst 0, 1) := by decide +kernel
theorem dL_law_451 : decode cL_law 451 = .ok (.ireturn, 1) := by decide +kernel
theorem dL_law_452 : decode cL_law 452 = .ok (.iload 5, 2) := by decide +kernel
theorem dL_law_454 : decode cL_law 454 = .ok (.ifCond .ne 15, 3) := by decide +kernel
theorem dL_law_457 : decode cL_law 457 = .ok (.aload_n 3, 1) := by decide +kernel
theorem dL_law_458 : decode cL_law 458 = .ok (.iconst 0, 1) := by decide +kernel
theorem dL_law_459 : decode cL_law 459 = .ok (.laload, 1) := by decide +kernel
theorem dL_law_460 : decode cL_law 460 = .ok (.iload 6, 2) := by decide +kernel
theorem dL_law_462 : decode cL_law 462 = .ok (.i2l, 1) := by decide +kernel
theorem dL_law_463 : decode cL_law 463 = .ok (.lcmp, 1) := by decide +kernel
theorem dL_law_464 : decode cL_law 464 = .ok (.ifCond .eq 5, 3) := by decide +kernel
theorem dL_law_467 : decode cL_law 467 = .ok (.iconst 0, 1) := by decide +kernel
theorem dL_law_468 : decode cL_law 468 = .ok (.ireturn, 1) := by decide +kernel
theorem dL_law_469 : decode cL_law 469 = .ok (.goto 878, 3) := by decide +kernel
theorem dL_law_472 : decode cL_law 472 = .ok (.aload_n 1, 1) := by decide +kernel
theorem dL_law_473 : decode cL_law 473 = .ok (.aload_n 0, 1) := by decide +kernel
theorem dL_law_474 : decode cL_law 474 = .ok (.iload 4, 2) := by decide +kernel
theorem dL_law_476 : decode cL_law 476 = .ok (.iconst 1, 1) := by decide +kernel
theorem dL_law_477 : decode cL_law 477 = .ok (.iadd, 1) := by decide +kernel
theorem dL_law_478 : decode cL_law 478 = .ok (.iaload, 1) := by decide +kernel
theorem dL_law_479 : decode cL_law 479 = .ok (.aload_n 0, 1) := by decide +kernel
theorem dL_law_480 : decode cL_law 480 = .ok (.iload 4, 2) := by decide +kernel
theorem dL_law_482 : decode cL_law 482 = .ok (.iconst 2, 1) := by decide +kernel
theorem dL_law_483 : decode cL_law 483 = .ok (.iadd, 1) := by decide +kernel
theorem dL_law_484 : decode cL_law 484 = .ok (.iaload, 1) := by decide +kernel
theorem dL_law_485 : decode cL_law 485 = .ok (.aload_n 0, 1) := by decide +kernel
theorem dL_law_486 : decode cL_law 486 = .ok (.iload 4, 2) := by decide +kernel
theorem dL_law_488 : decode cL_law 488 = .ok (.iconst 3, 1) := by decide +kernel
theorem dL_law_489 : decode cL_law 489 = .ok (.iadd, 1) := by decide +kernel
theorem dL_law_490 : decode cL_law 490 = .ok (.iaload, 1) := by decide +kernel
theorem dL_law_491 : decode cL_law 491 = .ok (.aload_n 3, 1) := by decide +kernel
theorem dL_law_492 : decode cL_law 492 = .ok (.invokestatic 109, 3) := by decide +kernel
theorem dL_law_495 : decode cL_law 495 = .ok (.istore 5, 2) := by decide +kernel
theorem dL_law_497 : decode cL_law 497 = .ok (.aload_n 2, 1) := by decide +kernel
theorem dL_law_498 : decode cL_law 498 = .ok (.aload_n 0, 1) := by decide +kernel
theorem dL_law_499 : decode cL_law 499 = .ok (.iload 4, 2) := by decide +kernel
theorem dL_law_501 : decode cL_law 501 = .ok (.iconst 1, 1) := by decide +kernel
theorem dL_law_502 : decode cL_law 502 = .ok (.iadd, 1) := by decide +kernel
theorem dL_law_503 : decode cL_law 503 = .ok (.iaload, 1) := by decide +kernel
theorem dL_law_504 : decode cL_law 504 = .ok (.aload_n 0, 1) := by decide +kernel
theorem dL_law_505 : decode cL_law 505 = .ok (.iload 4, 2) := by decide +kernel
theorem dL_law_507 : decode cL_law 507 = .ok (.iconst 2, 1) := by decide +kernel
theorem dL_law_508 : decode cL_law 508 = .ok (.iadd, 1) := by decide +kernel
theorem dL_law_509 : decode cL_law 509 = .ok (.iaload, 1) := by decide +kernel
theorem dL_law_510 : decode cL_law 510 = .ok (.aload_n 0, 1) := by decide +kernel
theorem dL_law_511 : decode cL_law 511 = .ok (.iload 4, 2) := by decide +kernel
theorem dL_law_513 : decode cL_law 513 = .ok (.iconst 3, 1) := by decide +kernel
theorem dL_law_514 : decode cL_law 514 = .ok (.iadd, 1) := by decide +kernel
theorem dL_law_515 : decode cL_law 515 = .ok (.iaload, 1) := by decide +kernel
theorem dL_law_516 : decode cL_law 516 = .ok (.invokevirtual 111, 3) := by decide +kernel
theorem dL_law_519 : decode cL_law 519 = .ok (.istore 6, 2) := by decide +kernel
theorem dL_law_521 : decode cL_law 521 = .ok (.aload_n 2, 1) := by decide +kernel
theorem dL_law_522 : decode cL_law 522 = .ok (.invokevirtual 89, 3) := by decide +kernel
theorem dL_law_525 : decode cL_law 525 = .ok (.iload 5, 2) := by decide +kernel
theorem dL_law_527 : decode cL_law 527 = .ok (.if_icmp .eq 5, 3) := by decide +kernel
theorem dL_law_530 : decode cL_law 530 = .ok (.iconst 0, 1) := by decide +kernel
theorem dL_law_531 : decode cL_law 531 = .ok (.ireturn, 1) := by decide +kernel
theorem dL_law_532 : decode cL_law 532 = .ok (.iload 5, 2) := by decide +kernel
theorem dL_law_534 : decode cL_law 534 = .ok (.ifCond .ne 22, 3) := by decide +kernel
theorem dL_law_537 : decode cL_law 537 = .ok (.aload_n 3, 1) := by decide +kernel
theorem dL_law_538 : decode cL_law 538 = .ok (.iconst 0, 1) := by decide +kernel
theorem dL_law_539 : decode cL_law 539 = .ok (.laload, 1) := by decide +kernel
theorem dL_law_540 : decode cL_law 540 = .ok (.iload 6, 2) := by decide +kernel
theorem dL_law_542 : decode cL_law 542 = .ok (.ifCond .eq 7, 3) := by decide +kernel
theorem dL_law_545 : decode cL_law 545 = .ok (.lconst 1, 1) := by decide +kernel
theorem dL_law_546 : decode cL_law 546 = .ok (.goto 4, 3) := by decide +kernel
theorem dL_law_549 : decode cL_law 549 = .ok (.lconst 0, 1) := by decide +kernel
theorem dL_law_550 : decode cL_law 550 = .ok (.lcmp, 1) := by decide +kernel
theorem dL_law_551 : decode cL_law 551 = .ok (.ifCond .eq 5, 3) := by decide +kernel
theorem dL_law_554 : decode cL_law 554 = .ok (.iconst 0, 1) := by decide +kernel
theorem dL_law_555 : decode cL_law 555 = .ok (.ireturn, 1) := by decide +kernel
theorem dL_law_556 : decode cL_law 556 = .ok (.goto 791, 3) := by decide +kernel
theorem dL_law_559 : decode cL_law 559 = .ok (.aload_n 1, 1) := by decide +kernel
theorem dL_law_560 : decode cL_law 560 = .ok (.aload_n 3, 1) := by decide +kernel
theorem dL_law_561 : decode cL_law 561 = .ok (.invokestatic 112, 3) := by decide +kernel
theorem dL_law_564 : decode cL_law 564 = .ok (.istore 5, 2) := by decide +kernel
theorem dL_law_566 : decode cL_law 566 = .ok (.aload_n 2, 1) := by decide +kernel
theorem dL_law_567 : decode cL_law 567 = .ok (.invokevirtual 115, 3) := by decide +kernel
theorem dL_law_570 : decode cL_law 570 = .ok (.istore 6, 2) := by decide +kernel
theorem dL_law_572 : decode cL_law 572 = .ok (.aload_n 2, 1) := by decide +kernel
theorem dL_law_573 : decode cL_law 573 = .ok (.invokevirtual 89, 3) := by decide +kernel
theorem dL_law_576 : decode cL_law 576 = .ok (.iload 5, 2) := by decide +kernel
theorem dL_law_578 : decode cL_law 578 = .ok (.if_icmp .eq 5, 3) := by decide +kernel
theorem dL_law_581 : decode cL_law 581 = .ok (.iconst 0, 1) := by decide +kernel
theorem dL_law_582 : decode cL_law 582 = .ok (.ireturn, 1) := by decide +kernel
theorem dL_law_583 : decode cL_law 583 = .ok (.iload 5, 2) := by decide +kernel
theorem dL_law_585 : decode cL_law 585 = .ok (.ifCond .ne 15, 3) := by decide +kernel
theorem dL_law_588 : decode cL_law 588 = .ok (.aload_n 3, 1) := by decide +kernel
theorem dL_law_589 : decode cL_law 589 = .ok (.iconst 0, 1) := by decide +kernel
theorem dL_law_590 : decode cL_law 590 = .ok (.laload, 1) := by decide +kernel
theorem dL_law_591 : decode cL_law 591 = .ok (.iload 6, 2) := by decide +kernel
theorem dL_law_593 : decode cL_law 593 = .ok (.i2l, 1) := by decide +kernel
theorem dL_law_594 : decode cL_law 594 = .ok (.lcmp, 1) := by decide +kernel
theorem dL_law_595 : decode cL_law 595 = .ok (.ifCond .eq 5, 3) := by decide +kernel
theorem dL_law_598 : decode cL_law 598 = .ok (.iconst 0, 1) := by decide +kernel
theorem dL_law_599 : decode cL_law 599 = .ok (.ireturn, 1) := by decide +kernel
theorem dL_law_600 : decode cL_law 600 = .ok (.goto 747, 3) := by decide +kernel
theorem dL_law_603 : decode cL_law 603 = .ok (.aload_n 1, 1) := by decide +kernel
theorem dL_law_604 : decode cL_law 604 = .ok (.aload_n 0, 1) := by decide +kernel
theorem dL_law_605 : decode cL_law 605 = .ok (.iload 4, 2) := by decide +kernel
theorem dL_law_607 : decode cL_law 607 = .ok (.iconst 1, 1) := by decide +kernel
theorem dL_law_608 : decode cL_law 608 = .ok (.iadd, 1) := by decide +kernel
theorem dL_law_609 : decode cL_law 609 = .ok (.iaload, 1) := by decide +kernel
theorem dL_law_610 : decode cL_law 610 = .ok (.aload_n 0, 1) := by decide +kernel
theorem dL_law_611 : decode cL_law 611 = .ok (.iload 4, 2) := by decide +kernel
theorem dL_law_613 : decode cL_law 613 = .ok (.iconst 2, 1) := by decide +kernel
theorem dL_law_614 : decode cL_law 614 = .ok (.iadd, 1) := by decide +kernel
theorem dL_law_615 : decode cL_law 615 = .ok (.iaload, 1) := by decide +kernel
theorem dL_law_616 : decode cL_law 616 = .ok (.aload_n 0, 1) := by decide +kernel
theorem dL_law_617 : decode cL_law 617 = .ok (.iload 4, 2) := by decide +kernel
theorem dL_law_619 : decode cL_law 619 = .ok (.iconst 3, 1) := by decide +kernel
theorem dL_law_620 : decode cL_law 620 = .ok (.iadd, 1) := by decide +kernel
theorem dL_law_621 : decode cL_law 621 = .ok (.iaload, 1) := by decide +kernel
theorem dL_law_622 : decode cL_law 622 = .ok (.aload_n 3, 1) := by decide +kernel
theorem dL_law_623 : decode cL_law 623 = .ok (.invokestatic 116, 3) := by decide +kernel
theorem dL_law_626 : decode cL_law 626 = .ok (.istore 5, 2) := by decide +kernel
theorem dL_law_628 : decode cL_law 628 = .ok (.aload_n 2, 1) := by decide +kernel
theorem dL_law_629 : decode cL_law 629 = .ok (.aload_n 0, 1) := by decide +kernel
theorem dL_law_630 : decode cL_law 630 = .ok (.iload 4, 2) := by decide +kernel
theorem dL_law_632 : decode cL_law 632 = .ok (.iconst 1, 1) := by decide +kernel
theorem dL_law_633 : decode cL_law 633 = .ok (.iadd, 1) := by decide +kernel
theorem dL_law_634 : decode cL_law 634 = .ok (.iaload, 1) := by decide +kernel
theorem dL_law_635 : decode cL_law 635 = .ok (.aload_n 0, 1) := by decide +kernel
theorem dL_law_636 : decode cL_law 636 = .ok (.iload 4, 2) := by decide +kernel
theorem dL_law_638 : decode cL_law 638 = .ok (.iconst 2, 1) := by decide +kernel
theorem dL_law_639 : decode cL_law 639 = .ok (.iadd, 1) := by decide +kernel
theorem dL_law_640 : decode cL_law 640 = .ok (.iaload, 1) := by decide +kernel
theorem dL_law_641 : decode cL_law 641 = .ok (.aload_n 0, 1) := by decide +kernel
theorem dL_law_642 : decode cL_law 642 = .ok (.iload 4, 2) := by decide +kernel
theorem dL_law_644 : decode cL_law 644 = .ok (.iconst 3, 1) := by decide +kernel
theorem dL_law_645 : decode cL_law 645 = .ok (.iadd, 1) := by decide +kernel
theorem dL_law_646 : decode cL_law 646 = .ok (.iaload, 1) := by decide +kernel
theorem dL_law_647 : decode cL_law 647 = .ok (.invokevirtual 118, 3) := by decide +kernel
theorem dL_law_650 : decode cL_law 650 = .ok (.istore 6, 2) := by decide +kernel
theorem dL_law_652 : decode cL_law 652 = .ok (.aload_n 2, 1) := by decide +kernel
theorem dL_law_653 : decode cL_law 653 = .ok (.invokevirtual 89, 3) := by decide +kernel
theorem dL_law_656 : decode cL_law 656 = .ok (.iload 5, 2) := by decide +kernel
theorem dL_law_658 : decode cL_law 658 = .ok (.if_icmp .eq 5, 3) := by decide +kernel
theorem dL_law_661 : decode cL_law 661 = .ok (.iconst 0, 1) := by decide +kernel
theorem dL_law_662 : decode cL_law 662 = .ok (.ireturn, 1) := by decide +kernel
theorem dL_law_663 : decode cL_law 663 = .ok (.iload 5, 2) := by decide +kernel
theorem dL_law_665 : decode cL_law 665 = .ok (.ifCond .ne 22, 3) := by decide +kernel
theorem dL_law_668 : decode cL_law 668 = .ok (.aload_n 3, 1) := by decide +kernel
theorem dL_law_669 : decode cL_law 669 = .ok (.iconst 0, 1) := by decide +kernel
theorem dL_law_670 : decode cL_law 670 = .ok (.laload, 1) := by decide +kernel
theorem dL_law_671 : decode cL_law 671 = .ok (.iload 6, 2) := by decide +kernel
theorem dL_law_673 : decode cL_law 673 = .ok (.ifCond .eq 7, 3) := by decide +kernel
theorem dL_law_676 : decode cL_law 676 = .ok (.lconst 1, 1) := by decide +kernel
theorem dL_law_677 : decode cL_law 677 = .ok (.goto 4, 3) := by decide +kernel
theorem dL_law_680 : decode cL_law 680 = .ok (.lconst 0, 1) := by decide +kernel
theorem dL_law_681 : decode cL_law 681 = .ok (.lcmp, 1) := by decide +kernel
theorem dL_law_682 : decode cL_law 682 = .ok (.ifCond .eq 5, 3) := by decide +kernel
theorem dL_law_685 : decode cL_law 685 = .ok (.iconst 0, 1) := by decide +kernel
theorem dL_law_686 : decode cL_law 686 = .ok (.ireturn, 1) := by decide +kernel
theorem dL_law_687 : decode cL_law 687 = .ok (.goto 660, 3) := by decide +kernel
theorem dL_law_690 : decode cL_law 690 = .ok (.aload_n 1, 1) := by decide +kernel
theorem dL_law_691 : decode cL_law 691 = .ok (.aload_n 0, 1) := by decide +kernel
theorem dL_law_692 : decode cL_law 692 = .ok (.iload 4, 2) := by decide +kernel
theorem dL_law_694 : decode cL_law 694 = .ok (.iconst 1, 1) := by decide +kernel
theorem dL_law_695 : decode cL_law 695 = .ok (.iadd, 1) := by decide +kernel
theorem dL_law_696 : decode cL_law 696 = .ok (.iaload, 1) := by decide +kernel
theorem dL_law_697 : decode cL_law 697 = .ok (.i2l, 1) := by decide +kernel
theorem dL_law_698 : decode cL_law 698 = .ok (.bipush 32, 2) := by decide +kernel
theorem dL_law_700 : decode cL_law 700 = .ok (.lshl, 1) := by decide +kernel
theorem dL_law_701 : decode cL_law 701 = .ok (.aload_n 0, 1) := by decide +kernel
theorem dL_law_702 : decode cL_law 702 = .ok (.iload 4, 2) := by decide +kernel
theorem dL_law_704 : decode cL_law 704 = .ok (.iconst 2, 1) := by decide +kernel
theorem dL_law_705 : decode cL_law 705 = .ok (.iadd, 1) := by decide +kernel
theorem dL_law_706 : decode cL_law 706 = .ok (.iaload, 1) := by decide +kernel
theorem dL_law_707 : decode cL_law 707 = .ok (.i2l, 1) := by decide +kernel
theorem dL_law_708 : decode cL_law 708 = .ok (.ldc2_w 92, 3) := by decide +kernel
theorem dL_law_711 : decode cL_law 711 = .ok (.land, 1) := by decide +kernel
theorem dL_law_712 : decode cL_law 712 = .ok (.lor, 1) := by decide +kernel
theorem dL_law_713 : decode cL_law 713 = .ok (.aload_n 3, 1) := by decide +kernel
theorem dL_law_714 : decode cL_law 714 = .ok (.invokestatic 119, 3) := by decide +kernel
theorem dL_law_717 : decode cL_law 717 = .ok (.istore 5, 2) := by decide +kernel
theorem dL_law_719 : decode cL_law 719 = .ok (.aload_n 2, 1) := by decide +kernel
theorem dL_law_720 : decode cL_law 720 = .ok (.aload_n 0, 1) := by decide +kernel
theorem dL_law_721 : decode cL_law 721 = .ok (.iload 4, 2) := by decide +kernel
theorem dL_law_723 : decode cL_law 723 = .ok (.iconst 1, 1) := by decide +kernel
theorem dL_law_724 : decode cL_law 724 = .ok (.iadd, 1) := by decide +kernel
theorem dL_law_725 : decode cL_law 725 = .ok (.iaload, 1) := by decide +kernel
theorem dL_law_726 : decode cL_law 726 = .ok (.i2l, 1) := by decide +kernel
theorem dL_law_727 : decode cL_law 727 = .ok (.bipush 32, 2) := by decide +kernel
theorem dL_law_729 : decode cL_law 729 = .ok (.lshl, 1) := by decide +kernel
theorem dL_law_730 : decode cL_law 730 = .ok (.aload_n 0, 1) := by decide +kernel
theorem dL_law_731 : decode cL_law 731 = .ok (.iload 4, 2) := by decide +kernel
theorem dL_law_733 : decode cL_law 733 = .ok (.iconst 2, 1) := by decide +kernel
theorem dL_law_734 : decode cL_law 734 = .ok (.iadd, 1) := by decide +kernel
theorem dL_law_735 : decode cL_law 735 = .ok (.iaload, 1) := by decide +kernel
theorem dL_law_736 : decode cL_law 736 = .ok (.i2l, 1) := by decide +kernel
theorem dL_law_737 : decode cL_law 737 = .ok (.ldc2_w 92, 3) := by decide +kernel
theorem dL_law_740 : decode cL_law 740 = .ok (.land, 1) := by decide +kernel
theorem dL_law_741 : decode cL_law 741 = .ok (.lor, 1) := by decide +kernel
theorem dL_law_742 : decode cL_law 742 = .ok (.invokevirtual 122, 3) := by decide +kernel
theorem dL_law_745 : decode cL_law 745 = .ok (.istore 6, 2) := by decide +kernel
theorem dL_law_747 : decode cL_law 747 = .ok (.aload_n 2, 1) := by decide +kernel
theorem dL_law_748 : decode cL_law 748 = .ok (.invokevirtual 89, 3) := by decide +kernel
theorem dL_law_751 : decode cL_law 751 = .ok (.iload 5, 2) := by decide +kernel
theorem dL_law_753 : decode cL_law 753 = .ok (.if_icmp .eq 5, 3) := by decide +kernel
theorem dL_law_756 : decode cL_law 756 = .ok (.iconst 0, 1) := by decide +kernel
theorem dL_law_757 : decode cL_law 757 = .ok (.ireturn, 1) := by decide +kernel
theorem dL_law_758 : decode cL_law 758 = .ok (.iload 5, 2) := by decide +kernel
theorem dL_law_760 : decode cL_law 760 = .ok (.ifCond .ne 15, 3) := by decide +kernel
theorem dL_law_763 : decode cL_law 763 = .ok (.aload_n 3, 1) := by decide +kernel
theorem dL_law_764 : decode cL_law 764 = .ok (.iconst 0, 1) := by decide +kernel
theorem dL_law_765 : decode cL_law 765 = .ok (.laload, 1) := by decide +kernel
theorem dL_law_766 : decode cL_law 766 = .ok (.iload 6, 2) := by decide +kernel
theorem dL_law_768 : decode cL_law 768 = .ok (.i2l, 1) := by decide +kernel
theorem dL_law_769 : decode cL_law 769 = .ok (.lcmp, 1) := by decide +kernel
theorem dL_law_770 : decode cL_law 770 = .ok (.ifCond .eq 5, 3) := by decide +kernel
theorem dL_law_773 : decode cL_law 773 = .ok (.iconst 0, 1) := by decide +kernel
theorem dL_law_774 : decode cL_law 774 = .ok (.ireturn, 1) := by decide +kernel
theorem dL_law_775 : decode cL_law 775 = .ok (.goto 572, 3) := by decide +kernel
theorem dL_law_778 : decode cL_law 778 = .ok (.aload_n 1, 1) := by decide +kernel
theorem dL_law_779 : decode cL_law 779 = .ok (.aload_n 0, 1) := by decide +kernel
theorem dL_law_780 : decode cL_law 780 = .ok (.iload 4, 2) := by decide +kernel
theorem dL_law_782 : decode cL_law 782 = .ok (.iconst 1, 1) := by decide +kernel
theorem dL_law_783 : decode cL_law 783 = .ok (.iadd, 1) := by decide +kernel
theorem dL_law_784 : decode cL_law 784 = .ok (.iaload, 1) := by decide +kernel
theorem dL_law_785 : decode cL_law 785 = .ok (.aload_n 0, 1) := by decide +kernel
theorem dL_law_786 : decode cL_law 786 = .ok (.iload 4, 2) := by decide +kernel
theorem dL_law_788 : decode cL_law 788 = .ok (.iconst 2, 1) := by decide +kernel
theorem dL_law_789 : decode cL_law 789 = .ok (.iadd, 1) := by decide +kernel
theorem dL_law_790 : decode cL_law 790 = .ok (.iaload, 1) := by decide +kernel
theorem dL_law_791 : decode cL_law 791 = .ok (.aload_n 3, 1) := by decide +kernel
theorem dL_law_792 : decode cL_law 792 = .ok (.invokestatic 123, 3) := by decide +kernel
theorem dL_law_795 : decode cL_law 795 = .ok (.istore 5, 2) := by decide +kernel
theorem dL_law_797 : decode cL_law 797 = .ok (.aload_n 2, 1) := by decide +kernel
theorem dL_law_798 : decode cL_law 798 = .ok (.aload_n 0, 1) := by decide +kernel
theorem dL_law_799 : decode cL_law 799 = .ok (.iload 4, 2) := by decide +kernel
theorem dL_law_801 : decode cL_law 801 = .ok (.iconst 1, 1) := by decide +kernel
theorem dL_law_802 : decode cL_law 802 = .ok (.iadd, 1) := by decide +kernel
theorem dL_law_803 : decode cL_law 803 = .ok (.iaload, 1) := by decide +kernel
theorem dL_law_804 : decode cL_law 804 = .ok (.aload_n 0, 1) := by decide +kernel
theorem dL_law_805 : decode cL_law 805 = .ok (.iload 4, 2) := by decide +kernel
theorem dL_law_807 : decode cL_law 807 = .ok (.iconst 2, 1) := by decide +kernel
theorem dL_law_808 : decode cL_law 808 = .ok (.iadd, 1) := by decide +kernel
theorem dL_law_809 : decode cL_law 809 = .ok (.iaload, 1) := by decide +kernel
theorem dL_law_810 : decode cL_law 810 = .ok (.invokevirtual 125, 3) := by decide +kernel
theorem dL_law_813 : decode cL_law 813 = .ok (.istore 6, 2) := by decide +kernel
theorem dL_law_815 : decode cL_law 815 = .ok (.aload_n 2, 1) := by decide +kernel
theorem dL_law_816 : decode cL_law 816 = .ok (.invokevirtual 89, 3) := by decide +kernel
theorem dL_law_819 : decode cL_law 819 = .ok (.iload 5, 2) := by decide +kernel
theorem dL_law_821 : decode cL_law 821 = .ok (.if_icmp .eq 5, 3) := by decide +kernel
theorem dL_law_824 : decode cL_law 824 = .ok (.iconst 0, 1) := by decide +kernel
theorem dL_law_825 : decode cL_law 825 = .ok (.ireturn, 1) := by decide +kernel
theorem dL_law_826 : decode cL_law 826 = .ok (.iload 5, 2) := by decide +kernel
theorem dL_law_828 : decode cL_law 828 = .ok (.ifCond .ne 15, 3) := by decide +kernel
theorem dL_law_831 : decode cL_law 831 = .ok (.aload_n 3, 1) := by decide +kernel
theorem dL_law_832 : decode cL_law 832 = .ok (.iconst 0, 1) := by decide +kernel
theorem dL_law_833 : decode cL_law 833 = .ok (.laload, 1) := by decide +kernel
theorem dL_law_834 : decode cL_law 834 = .ok (.iload 6, 2) := by decide +kernel
theorem dL_law_836 : decode cL_law 836 = .ok (.i2l, 1) := by decide +kernel
theorem dL_law_837 : decode cL_law 837 = .ok (.lcmp, 1) := by decide +kernel
theorem dL_law_838 : decode cL_law 838 = .ok (.ifCond .eq 5, 3) := by decide +kernel
theorem dL_law_841 : decode cL_law 841 = .ok (.iconst 0, 1) := by decide +kernel
theorem dL_law_842 : decode cL_law 842 = .ok (.ireturn, 1) := by decide +kernel
theorem dL_law_843 : decode cL_law 843 = .ok (.goto 504, 3) := by decide +kernel
theorem dL_law_846 : decode cL_law 846 = .ok (.aload_n 1, 1) := by decide +kernel
theorem dL_law_847 : decode cL_law 847 = .ok (.aload_n 0, 1) := by decide +kernel
theorem dL_law_848 : decode cL_law 848 = .ok (.iload 4, 2) := by decide +kernel
theorem dL_law_850 : decode cL_law 850 = .ok (.iconst 1, 1) := by decide +kernel
theorem dL_law_851 : decode cL_law 851 = .ok (.iadd, 1) := by decide +kernel
theorem dL_law_852 : decode cL_law 852 = .ok (.iaload, 1) := by decide +kernel
theorem dL_law_853 : decode cL_law 853 = .ok (.aload_n 3, 1) := by decide +kernel
theorem dL_law_854 : decode cL_law 854 = .ok (.invokestatic 126, 3) := by decide +kernel
theorem dL_law_857 : decode cL_law 857 = .ok (.istore 5, 2) := by decide +kernel
theorem dL_law_859 : decode cL_law 859 = .ok (.aload_n 2, 1) := by decide +kernel
theorem dL_law_860 : decode cL_law 860 = .ok (.aload_n 0, 1) := by decide +kernel
theorem dL_law_861 : decode cL_law 861 = .ok (.iload 4, 2) := by decide +kernel
theorem dL_law_863 : decode cL_law 863 = .ok (.iconst 1, 1) := by decide +kernel
theorem dL_law_864 : decode cL_law 864 = .ok (.iadd, 1) := by decide +kernel
theorem dL_law_865 : decode cL_law 865 = .ok (.iaload, 1) := by decide +kernel
theorem dL_law_866 : decode cL_law 866 = .ok (.invokevirtual 129, 3) := by decide +kernel
theorem dL_law_869 : decode cL_law 869 = .ok (.istore 6, 2) := by decide +kernel
theorem dL_law_871 : decode cL_law 871 = .ok (.aload_n 2, 1) := by decide +kernel
theorem dL_law_872 : decode cL_law 872 = .ok (.invokevirtual 89, 3) := by decide +kernel
theorem dL_law_875 : decode cL_law 875 = .ok (.iload 5, 2) := by decide +kernel
theorem dL_law_877 : decode cL_law 877 = .ok (.if_icmp .eq 5, 3) := by decide +kernel
theorem dL_law_880 : decode cL_law 880 = .ok (.iconst 0, 1) := by decide +kernel
theorem dL_law_881 : decode cL_law 881 = .ok (.ireturn, 1) := by decide +kernel
theorem dL_law_882 : decode cL_law 882 = .ok (.iload 5, 2) := by decide +kernel
theorem dL_law_884 : decode cL_law 884 = .ok (.ifCond .ne 15, 3) := by decide +kernel
theorem dL_law_887 : decode cL_law 887 = .ok (.aload_n 3, 1) := by decide +kernel
theorem dL_law_888 : decode cL_law 888 = .ok (.iconst 0, 1) := by decide +kernel
theorem dL_law_889 : decode cL_law 889 = .ok (.laload, 1) := by decide +kernel
theorem dL_law_890 : decode cL_law 890 = .ok (.iload 6, 2) := by decide +kernel
theorem dL_law_892 : decode cL_law 892 = .ok (.i2l, 1) := by decide +kernel
theorem dL_law_893 : decode cL_law 893 = .ok (.lcmp, 1) := by decide +kernel
theorem dL_law_894 : decode cL_law 894 = .ok (.ifCond .eq 5, 3) := by decide +kernel
theorem dL_law_897 : decode cL_law 897 = .ok (.iconst 0, 1) := by decide +kernel
theorem dL_law_898 : decode cL_law 898 = .ok (.ireturn, 1) := by decide +kernel
theorem dL_law_899 : decode cL_law 899 = .ok (.goto 448, 3) := by decide +kernel
theorem dL_law_902 : decode cL_law 902 = .ok (.aload_n 1, 1) := by decide +kernel
theorem dL_law_903 : decode cL_law 903 = .ok (.aload_n 0, 1) := by decide +kernel
theorem dL_law_904 : decode cL_law 904 = .ok (.iload 4, 2) := by decide +kernel
theorem dL_law_906 : decode cL_law 906 = .ok (.iconst 1, 1) := by decide +kernel
theorem dL_law_907 : decode cL_law 907 = .ok (.iadd, 1) := by decide +kernel
theorem dL_law_908 : decode cL_law 908 = .ok (.iaload, 1) := by decide +kernel
theorem dL_law_909 : decode cL_law 909 = .ok (.aload_n 0, 1) := by decide +kernel
theorem dL_law_910 : decode cL_law 910 = .ok (.iload 4, 2) := by decide +kernel
theorem dL_law_912 : decode cL_law 912 = .ok (.iconst 2, 1) := by decide +kernel
theorem dL_law_913 : decode cL_law 913 = .ok (.iadd, 1) := by decide +kernel
theorem dL_law_914 : decode cL_law 914 = .ok (.iaload, 1) := by decide +kernel
theorem dL_law_915 : decode cL_law 915 = .ok (.aload_n 3, 1) := by decide +kernel
theorem dL_law_916 : decode cL_law 916 = .ok (.invokestatic 130, 3) := by decide +kernel
theorem dL_law_919 : decode cL_law 919 = .ok (.istore 5, 2) := by decide +kernel
theorem dL_law_921 : decode cL_law 921 = .ok (.aload_n 2, 1) := by decide +kernel
theorem dL_law_922 : decode cL_law 922 = .ok (.aload_n 0, 1) := by decide +kernel
theorem dL_law_923 : decode cL_law 923 = .ok (.iload 4, 2) := by decide +kernel
theorem dL_law_925 : decode cL_law 925 = .ok (.iconst 1, 1) := by decide +kernel
theorem dL_law_926 : decode cL_law 926 = .ok (.iadd, 1) := by decide +kernel
theorem dL_law_927 : decode cL_law 927 = .ok (.iaload, 1) := by decide +kernel
theorem dL_law_928 : decode cL_law 928 = .ok (.aload_n 0, 1) := by decide +kernel
theorem dL_law_929 : decode cL_law 929 = .ok (.iload 4, 2) := by decide +kernel
theorem dL_law_931 : decode cL_law 931 = .ok (.iconst 2, 1) := by decide +kernel
theorem dL_law_932 : decode cL_law 932 = .ok (.iadd, 1) := by decide +kernel
theorem dL_law_933 : decode cL_law 933 = .ok (.iaload, 1) := by decide +kernel
theorem dL_law_934 : decode cL_law 934 = .ok (.invokevirtual 132, 3) := by decide +kernel
theorem dL_law_937 : decode cL_law 937 = .ok (.istore 6, 2) := by decide +kernel
theorem dL_law_939 : decode cL_law 939 = .ok (.aload_n 2, 1) := by decide +kernel
theorem dL_law_940 : decode cL_law 940 = .ok (.invokevirtual 89, 3) := by decide +kernel
theorem dL_law_943 : decode cL_law 943 = .ok (.iload 5, 2) := by decide +kernel
theorem dL_law_945 : decode cL_law 945 = .ok (.if_icmp .eq 5, 3) := by decide +kernel
theorem dL_law_948 : decode cL_law 948 = .ok (.iconst 0, 1) := by decide +kernel
theorem dL_law_949 : decode cL_law 949 = .ok (.ireturn, 1) := by decide +kernel
theorem dL_law_950 : decode cL_law 950 = .ok (.iload 5, 2) := by decide +kernel
theorem dL_law_952 : decode cL_law 952 = .ok (.ifCond .ne 15, 3) := by decide +kernel
theorem dL_law_955 : decode cL_law 955 = .ok (.aload_n 3, 1) := by decide +kernel
theorem dL_law_956 : decode cL_law 956 = .ok (.iconst 0, 1) := by decide +kernel
theorem dL_law_957 : decode cL_law 957 = .ok (.laload, 1) := by decide +kernel
theorem dL_law_958 : decode cL_law 958 = .ok (.iload 6, 2) := by decide +kernel
theorem dL_law_960 : decode cL_law 960 = .ok (.i2l, 1) := by decide +kernel
theorem dL_law_961 : decode cL_law 961 = .ok (.lcmp, 1) := by decide +kernel
theorem dL_law_962 : decode cL_law 962 = .ok (.ifCond .eq 5, 3) := by decide +kernel
theorem dL_law_965 : decode cL_law 965 = .ok (.iconst 0, 1) := by decide +kernel
theorem dL_law_966 : decode cL_law 966 = .ok (.ireturn, 1) := by decide +kernel
theorem dL_law_967 : decode cL_law 967 = .ok (.goto 380, 3) := by decide +kernel
theorem dL_law_970 : decode cL_law 970 = .ok (.aload_n 1, 1) := by decide +kernel
theorem dL_law_971 : decode cL_law 971 = .ok (.aload_n 0, 1) := by decide +kernel
theorem dL_law_972 : decode cL_law 972 = .ok (.iload 4, 2) := by decide +kernel
theorem dL_law_974 : decode cL_law 974 = .ok (.iconst 1, 1) := by decide +kernel
theorem dL_law_975 : decode cL_law 975 = .ok (.iadd, 1) := by decide +kernel
theorem dL_law_976 : decode cL_law 976 = .ok (.iaload, 1) := by decide +kernel
theorem dL_law_977 : decode cL_law 977 = .ok (.aload_n 0, 1) := by decide +kernel
theorem dL_law_978 : decode cL_law 978 = .ok (.iload 4, 2) := by decide +kernel
theorem dL_law_980 : decode cL_law 980 = .ok (.iconst 2, 1) := by decide +kernel
theorem dL_law_981 : decode cL_law 981 = .ok (.iadd, 1) := by decide +kernel
theorem dL_law_982 : decode cL_law 982 = .ok (.iaload, 1) := by decide +kernel
theorem dL_law_983 : decode cL_law 983 = .ok (.aload_n 0, 1) := by decide +kernel
theorem dL_law_984 : decode cL_law 984 = .ok (.iload 4, 2) := by decide +kernel
theorem dL_law_986 : decode cL_law 986 = .ok (.iconst 3, 1) := by decide +kernel
theorem dL_law_987 : decode cL_law 987 = .ok (.iadd, 1) := by decide +kernel
theorem dL_law_988 : decode cL_law 988 = .ok (.iaload, 1) := by decide +kernel
theorem dL_law_989 : decode cL_law 989 = .ok (.aload_n 0, 1) := by decide +kernel
theorem dL_law_990 : decode cL_law 990 = .ok (.iload 4, 2) := by decide +kernel
theorem dL_law_992 : decode cL_law 992 = .ok (.iconst 4, 1) := by decide +kernel
theorem dL_law_993 : decode cL_law 993 = .ok (.iadd, 1) := by decide +kernel
theorem dL_law_994 : decode cL_law 994 = .ok (.iaload, 1) := by decide +kernel
theorem dL_law_995 : decode cL_law 995 = .ok (.aload_n 0, 1) := by decide +kernel
theorem dL_law_996 : decode cL_law 996 = .ok (.iload 4, 2) := by decide +kernel
theorem dL_law_998 : decode cL_law 998 = .ok (.iconst 5, 1) := by decide +kernel
theorem dL_law_999 : decode cL_law 999 = .ok (.iadd, 1) := by decide +kernel
theorem dL_law_1000 : decode cL_law 1000 = .ok (.iaload, 1) := by decide +kernel
theorem dL_law_1001 : decode cL_law 1001 = .ok (.aload_n 3, 1) := by decide +kernel
theorem dL_law_1002 : decode cL_law 1002 = .ok (.invokestatic 133, 3) := by decide +kernel
theorem dL_law_1005 : decode cL_law 1005 = .ok (.istore 5, 2) := by decide +kernel
theorem dL_law_1007 : decode cL_law 1007 = .ok (.aload_n 2, 1) := by decide +kernel
theorem dL_law_1008 : decode cL_law 1008 = .ok (.aload_n 0, 1) := by decide +kernel
theorem dL_law_1009 : decode cL_law 1009 = .ok (.iload 4, 2) := by decide +kernel
theorem dL_law_1011 : decode cL_law 1011 = .ok (.iconst 1, 1) := by decide +kernel
theorem dL_law_1012 : decode cL_law 1012 = .ok (.iadd, 1) := by decide +kernel
theorem dL_law_1013 : decode cL_law 1013 = .ok (.iaload, 1) := by decide +kernel
theorem dL_law_1014 : decode cL_law 1014 = .ok (.aload_n 0, 1) := by decide +kernel
theorem dL_law_1015 : decode cL_law 1015 = .ok (.iload 4, 2) := by decide +kernel
theorem dL_law_1017 : decode cL_law 1017 = .ok (.iconst 2, 1) := by decide +kernel
theorem dL_law_1018 : decode cL_law 1018 = .ok (.iadd, 1) := by decide +kernel
theorem dL_law_1019 : decode cL_law 1019 = .ok (.iaload, 1) := by decide +kernel
theorem dL_law_1020 : decode cL_law 1020 = .ok (.aload_n 0, 1) := by decide +kernel
theorem dL_law_1021 : decode cL_law 1021 = .ok (.iload 4, 2) := by decide +kernel
theorem dL_law_1023 : decode cL_law 1023 = .ok (.iconst 3, 1) := by decide +kernel
theorem dL_law_1024 : decode cL_law 1024 = .ok (.iadd, 1) := by decide +kernel
theorem dL_law_1025 : decode cL_law 1025 = .ok (.iaload, 1) := by decide +kernel
theorem dL_law_1026 : decode cL_law 1026 = .ok (.aload_n 0, 1) := by decide +kernel
theorem dL_law_1027 : decode cL_law 1027 = .ok (.iload 4, 2) := by decide +kernel
theorem dL_law_1029 : decode cL_law 1029 = .ok (.iconst 4, 1) := by decide +kernel
theorem dL_law_1030 : decode cL_law 1030 = .ok (.iadd, 1) := by decide +kernel
theorem dL_law_1031 : decode cL_law 1031 = .ok (.iaload, 1) := by decide +kernel
theorem dL_law_1032 : decode cL_law 1032 = .ok (.aload_n 0, 1) := by decide +kernel
theorem dL_law_1033 : decode cL_law 1033 = .ok (.iload 4, 2) := by decide +kernel
theorem dL_law_1035 : decode cL_law 1035 = .ok (.iconst 5, 1) := by decide +kernel
theorem dL_law_1036 : decode cL_law 1036 = .ok (.iadd, 1) := by decide +kernel
theorem dL_law_1037 : decode cL_law 1037 = .ok (.iaload, 1) := by decide +kernel
theorem dL_law_1038 : decode cL_law 1038 = .ok (.invokevirtual 136, 3) := by decide +kernel
theorem dL_law_1041 : decode cL_law 1041 = .ok (.istore 6, 2) := by decide +kernel
theorem dL_law_1043 : decode cL_law 1043 = .ok (.aload_n 2, 1) := by decide +kernel
theorem dL_law_1044 : decode cL_law 1044 = .ok (.invokevirtual 89, 3) := by decide +kernel
theorem dL_law_1047 : decode cL_law 1047 = .ok (.iload 5, 2) := by decide +kernel
theorem dL_law_1049 : decode cL_law 1049 = .ok (.if_icmp .eq 5, 3) := by decide +kernel
theorem dL_law_1052 : decode cL_law 1052 = .ok (.iconst 0, 1) := by decide +kernel
theorem dL_law_1053 : decode cL_law 1053 = .ok (.ireturn, 1) := by decide +kernel
theorem dL_law_1054 : decode cL_law 1054 = .ok (.iload 5, 2) := by decide +kernel
theorem dL_law_1056 : decode cL_law 1056 = .ok (.ifCond .ne 22, 3) := by decide +kernel
theorem dL_law_1059 : decode cL_law 1059 = .ok (.aload_n 3, 1) := by decide +kernel
theorem dL_law_1060 : decode cL_law 1060 = .ok (.iconst 0, 1) := by decide +kernel
theorem dL_law_1061 : decode cL_law 1061 = .ok (.laload, 1) := by decide +kernel
theorem dL_law_1062 : decode cL_law 1062 = .ok (.iload 6, 2) := by decide +kernel
theorem dL_law_1064 : decode cL_law 1064 = .ok (.ifCond .eq 7, 3) := by decide +kernel
theorem dL_law_1067 : decode cL_law 1067 = .ok (.lconst 1, 1) := by decide +kernel
theorem dL_law_1068 : decode cL_law 1068 = .ok (.goto 4, 3) := by decide +kernel
theorem dL_law_1071 : decode cL_law 1071 = .ok (.lconst 0, 1) := by decide +kernel
theorem dL_law_1072 : decode cL_law 1072 = .ok (.lcmp, 1) := by decide +kernel
theorem dL_law_1073 : decode cL_law 1073 = .ok (.ifCond .eq 5, 3) := by decide +kernel
theorem dL_law_1076 : decode cL_law 1076 = .ok (.iconst 0, 1) := by decide +kernel
theorem dL_law_1077 : decode cL_law 1077 = .ok (.ireturn, 1) := by decide +kernel
theorem dL_law_1078 : decode cL_law 1078 = .ok (.goto 269, 3) := by decide +kernel
theorem dL_law_1081 : decode cL_law 1081 = .ok (.aload_n 1, 1) := by decide +kernel
theorem dL_law_1082 : decode cL_law 1082 = .ok (.aload_n 0, 1) := by decide +kernel
theorem dL_law_1083 : decode cL_law 1083 = .ok (.iload 4, 2) := by decide +kernel
theorem dL_law_1085 : decode cL_law 1085 = .ok (.iconst 1, 1) := by decide +kernel
theorem dL_law_1086 : decode cL_law 1086 = .ok (.iadd, 1) := by decide +kernel
theorem dL_law_1087 : decode cL_law 1087 = .ok (.iaload, 1) := by decide +kernel
theorem dL_law_1088 : decode cL_law 1088 = .ok (.aload_n 3, 1) := by decide +kernel
theorem dL_law_1089 : decode cL_law 1089 = .ok (.invokestatic 137, 3) := by decide +kernel
theorem dL_law_1092 : decode cL_law 1092 = .ok (.istore 5, 2) := by decide +kernel
theorem dL_law_1094 : decode cL_law 1094 = .ok (.aload_n 2, 1) := by decide +kernel
theorem dL_law_1095 : decode cL_law 1095 = .ok (.aload_n 0, 1) := by decide +kernel
theorem dL_law_1096 : decode cL_law 1096 = .ok (.iload 4, 2) := by decide +kernel
theorem dL_law_1098 : decode cL_law 1098 = .ok (.iconst 1, 1) := by decide +kernel
theorem dL_law_1099 : decode cL_law 1099 = .ok (.iadd, 1) := by decide +kernel
theorem dL_law_1100 : decode cL_law 1100 = .ok (.iaload, 1) := by decide +kernel
theorem dL_law_1101 : decode cL_law 1101 = .ok (.invokevirtual 139, 3) := by decide +kernel
theorem dL_law_1104 : decode cL_law 1104 = .ok (.istore 6, 2) := by decide +kernel
theorem dL_law_1106 : decode cL_law 1106 = .ok (.aload_n 2, 1) := by decide +kernel
theorem dL_law_1107 : decode cL_law 1107 = .ok (.invokevirtual 89, 3) := by decide +kernel
theorem dL_law_1110 : decode cL_law 1110 = .ok (.iload 5, 2) := by decide +kernel
theorem dL_law_1112 : decode cL_law 1112 = .ok (.if_icmp .eq 5, 3) := by decide +kernel
theorem dL_law_1115 : decode cL_law 1115 = .ok (.iconst 0, 1) := by decide +kernel
theorem dL_law_1116 : decode cL_law 1116 = .ok (.ireturn, 1) := by decide +kernel
theorem dL_law_1117 : decode cL_law 1117 = .ok (.iload 5, 2) := by decide +kernel
theorem dL_law_1119 : decode cL_law 1119 = .ok (.ifCond .ne 15, 3) := by decide +kernel
theorem dL_law_1122 : decode cL_law 1122 = .ok (.aload_n 3, 1) := by decide +kernel
theorem dL_law_1123 : decode cL_law 1123 = .ok (.iconst 0, 1) := by decide +kernel
theorem dL_law_1124 : decode cL_law 1124 = .ok (.laload, 1) := by decide +kernel
theorem dL_law_1125 : decode cL_law 1125 = .ok (.iload 6, 2) := by decide +kernel
theorem dL_law_1127 : decode cL_law 1127 = .ok (.i2l, 1) := by decide +kernel
theorem dL_law_1128 : decode cL_law 1128 = .ok (.lcmp, 1) := by decide +kernel
theorem dL_law_1129 : decode cL_law 1129 = .ok (.ifCond .eq 5, 3) := by decide +kernel
theorem dL_law_1132 : decode cL_law 1132 = .ok (.iconst 0, 1) := by decide +kernel
theorem dL_law_1133 : decode cL_law 1133 = .ok (.ireturn, 1) := by decide +kernel
theorem dL_law_1134 : decode cL_law 1134 = .ok (.goto 213, 3) := by decide +kernel
theorem dL_law_1137 : decode cL_law 1137 = .ok (.aload_n 1, 1) := by decide +kernel
theorem dL_law_1138 : decode cL_law 1138 = .ok (.aload_n 3, 1) := by decide +kernel
theorem dL_law_1139 : decode cL_law 1139 = .ok (.invokestatic 140, 3) := by decide +kernel
theorem dL_law_1142 : decode cL_law 1142 = .ok (.istore 5, 2) := by decide +kernel
theorem dL_law_1144 : decode cL_law 1144 = .ok (.aload_n 2, 1) := by decide +kernel
theorem dL_law_1145 : decode cL_law 1145 = .ok (.invokevirtual 142, 3) := by decide +kernel
theorem dL_law_1148 : decode cL_law 1148 = .ok (.istore 6, 2) := by decide +kernel
theorem dL_law_1150 : decode cL_law 1150 = .ok (.aload_n 2, 1) := by decide +kernel
theorem dL_law_1151 : decode cL_law 1151 = .ok (.invokevirtual 89, 3) := by decide +kernel
theorem dL_law_1154 : decode cL_law 1154 = .ok (.iload 5, 2) := by decide +kernel
theorem dL_law_1156 : decode cL_law 1156 = .ok (.if_icmp .eq 5, 3) := by decide +kernel
theorem dL_law_1159 : decode cL_law 1159 = .ok (.iconst 0, 1) := by decide +kernel
theorem dL_law_1160 : decode cL_law 1160 = .ok (.ireturn, 1) := by decide +kernel
theorem dL_law_1161 : decode cL_law 1161 = .ok (.iload 5, 2) := by decide +kernel
theorem dL_law_1163 : decode cL_law 1163 = .ok (.ifCond .ne 15, 3) := by decide +kernel
end
section
theorem dL_law_1166 : decode cL_law 1166 = .ok (.aload_n 3, 1) := by decide +kernel
theorem dL_law_1167 : decode cL_law 1167 = .ok (.iconst 0, 1) := by decide +kernel
theorem dL_law_1168 : decode cL_law 1168 = .ok (.laload, 1) := by decide +kernel
theorem dL_law_1169 : decode cL_law 1169 = .ok (.iload 6, 2) := by decide +kernel
theorem dL_law_1171 : decode cL_law 1171 = .ok (.i2l, 1) := by decide +kernel
theorem dL_law_1172 : decode cL_law 1172 = .ok (.lcmp, 1) := by decide +kernel
theorem dL_law_1173 : decode cL_law 1173 = .ok (.ifCond .eq 5, 3) := by decide +kernel
theorem dL_law_1176 : decode cL_law 1176 = .ok (.iconst 0, 1) := by decide +kernel
theorem dL_law_1177 : decode cL_law 1177 = .ok (.ireturn, 1) := by decide +kernel
theorem dL_law_1178 : decode cL_law 1178 = .ok (.goto 169, 3) := by decide +kernel
theorem dL_law_1181 : decode cL_law 1181 = .ok (.aload_n 1, 1) := by decide +kernel
theorem dL_law_1182 : decode cL_law 1182 = .ok (.aload_n 0, 1) := by decide +kernel
theorem dL_law_1183 : decode cL_law 1183 = .ok (.iload 4, 2) := by decide +kernel
theorem dL_law_1185 : decode cL_law 1185 = .ok (.iconst 1, 1) := by decide +kernel
theorem dL_law_1186 : decode cL_law 1186 = .ok (.iadd, 1) := by decide +kernel
theorem dL_law_1187 : decode cL_law 1187 = .ok (.iaload, 1) := by decide +kernel
theorem dL_law_1188 : decode cL_law 1188 = .ok (.aload_n 3, 1) := by decide +kernel
theorem dL_law_1189 : decode cL_law 1189 = .ok (.invokestatic 143, 3) := by decide +kernel
theorem dL_law_1192 : decode cL_law 1192 = .ok (.istore 5, 2) := by decide +kernel
theorem dL_law_1194 : decode cL_law 1194 = .ok (.aload_n 2, 1) := by decide +kernel
theorem dL_law_1195 : decode cL_law 1195 = .ok (.aload_n 0, 1) := by decide +kernel
theorem dL_law_1196 : decode cL_law 1196 = .ok (.iload 4, 2) := by decide +kernel
theorem dL_law_1198 : decode cL_law 1198 = .ok (.iconst 1, 1) := by decide +kernel
theorem dL_law_1199 : decode cL_law 1199 = .ok (.iadd, 1) := by decide +kernel
theorem dL_law_1200 : decode cL_law 1200 = .ok (.iaload, 1) := by decide +kernel
theorem dL_law_1201 : decode cL_law 1201 = .ok (.invokevirtual 145, 3) := by decide +kernel
theorem dL_law_1204 : decode cL_law 1204 = .ok (.lstore 6, 2) := by decide +kernel
theorem dL_law_1206 : decode cL_law 1206 = .ok (.aload_n 2, 1) := by decide +kernel
theorem dL_law_1207 : decode cL_law 1207 = .ok (.invokevirtual 89, 3) := by decide +kernel
theorem dL_law_1210 : decode cL_law 1210 = .ok (.iload 5, 2) := by decide +kernel
theorem dL_law_1212 : decode cL_law 1212 = .ok (.if_icmp .eq 5, 3) := by decide +kernel
theorem dL_law_1215 : decode cL_law 1215 = .ok (.iconst 0, 1) := by decide +kernel
theorem dL_law_1216 : decode cL_law 1216 = .ok (.ireturn, 1) := by decide +kernel
theorem dL_law_1217 : decode cL_law 1217 = .ok (.iload 5, 2) := by decide +kernel
theorem dL_law_1219 : decode cL_law 1219 = .ok (.ifCond .ne 14, 3) := by decide +kernel
theorem dL_law_1222 : decode cL_law 1222 = .ok (.aload_n 3, 1) := by decide +kernel
theorem dL_law_1223 : decode cL_law 1223 = .ok (.iconst 0, 1) := by decide +kernel
theorem dL_law_1224 : decode cL_law 1224 = .ok (.laload, 1) := by decide +kernel
theorem dL_law_1225 : decode cL_law 1225 = .ok (.lload 6, 2) := by decide +kernel
theorem dL_law_1227 : decode cL_law 1227 = .ok (.lcmp, 1) := by decide +kernel
theorem dL_law_1228 : decode cL_law 1228 = .ok (.ifCond .eq 5, 3) := by decide +kernel
theorem dL_law_1231 : decode cL_law 1231 = .ok (.iconst 0, 1) := by decide +kernel
theorem dL_law_1232 : decode cL_law 1232 = .ok (.ireturn, 1) := by decide +kernel
theorem dL_law_1233 : decode cL_law 1233 = .ok (.goto 114, 3) := by decide +kernel
theorem dL_law_1236 : decode cL_law 1236 = .ok (.aload_n 1, 1) := by decide +kernel
theorem dL_law_1237 : decode cL_law 1237 = .ok (.aload_n 0, 1) := by decide +kernel
theorem dL_law_1238 : decode cL_law 1238 = .ok (.iload 4, 2) := by decide +kernel
theorem dL_law_1240 : decode cL_law 1240 = .ok (.iconst 1, 1) := by decide +kernel
theorem dL_law_1241 : decode cL_law 1241 = .ok (.iadd, 1) := by decide +kernel
theorem dL_law_1242 : decode cL_law 1242 = .ok (.iaload, 1) := by decide +kernel
theorem dL_law_1243 : decode cL_law 1243 = .ok (.aload_n 3, 1) := by decide +kernel
theorem dL_law_1244 : decode cL_law 1244 = .ok (.invokestatic 146, 3) := by decide +kernel
theorem dL_law_1247 : decode cL_law 1247 = .ok (.istore 5, 2) := by decide +kernel
theorem dL_law_1249 : decode cL_law 1249 = .ok (.aload_n 2, 1) := by decide +kernel
theorem dL_law_1250 : decode cL_law 1250 = .ok (.aload_n 0, 1) := by decide +kernel
theorem dL_law_1251 : decode cL_law 1251 = .ok (.iload 4, 2) := by decide +kernel
theorem dL_law_1253 : decode cL_law 1253 = .ok (.iconst 1, 1) := by decide +kernel
theorem dL_law_1254 : decode cL_law 1254 = .ok (.iadd, 1) := by decide +kernel
theorem dL_law_1255 : decode cL_law 1255 = .ok (.iaload, 1) := by decide +kernel
theorem dL_law_1256 : decode cL_law 1256 = .ok (.invokevirtual 148, 3) := by decide +kernel
theorem dL_law_1259 : decode cL_law 1259 = .ok (.lstore 6, 2) := by decide +kernel
theorem dL_law_1261 : decode cL_law 1261 = .ok (.aload_n 2, 1) := by decide +kernel
theorem dL_law_1262 : decode cL_law 1262 = .ok (.invokevirtual 89, 3) := by decide +kernel
theorem dL_law_1265 : decode cL_law 1265 = .ok (.iload 5, 2) := by decide +kernel
theorem dL_law_1267 : decode cL_law 1267 = .ok (.if_icmp .eq 5, 3) := by decide +kernel
theorem dL_law_1270 : decode cL_law 1270 = .ok (.iconst 0, 1) := by decide +kernel
theorem dL_law_1271 : decode cL_law 1271 = .ok (.ireturn, 1) := by decide +kernel
theorem dL_law_1272 : decode cL_law 1272 = .ok (.iload 5, 2) := by decide +kernel
theorem dL_law_1274 : decode cL_law 1274 = .ok (.ifCond .ne 14, 3) := by decide +kernel
theorem dL_law_1277 : decode cL_law 1277 = .ok (.aload_n 3, 1) := by decide +kernel
theorem dL_law_1278 : decode cL_law 1278 = .ok (.iconst 0, 1) := by decide +kernel
theorem dL_law_1279 : decode cL_law 1279 = .ok (.laload, 1) := by decide +kernel
theorem dL_law_1280 : decode cL_law 1280 = .ok (.lload 6, 2) := by decide +kernel
theorem dL_law_1282 : decode cL_law 1282 = .ok (.lcmp, 1) := by decide +kernel
theorem dL_law_1283 : decode cL_law 1283 = .ok (.ifCond .eq 5, 3) := by decide +kernel
theorem dL_law_1286 : decode cL_law 1286 = .ok (.iconst 0, 1) := by decide +kernel
theorem dL_law_1287 : decode cL_law 1287 = .ok (.ireturn, 1) := by decide +kernel
theorem dL_law_1288 : decode cL_law 1288 = .ok (.goto 59, 3) := by decide +kernel
theorem dL_law_1291 : decode cL_law 1291 = .ok (.aload_n 1, 1) := by decide +kernel
theorem dL_law_1292 : decode cL_law 1292 = .ok (.aload_n 0, 1) := by decide +kernel
theorem dL_law_1293 : decode cL_law 1293 = .ok (.iload 4, 2) := by decide +kernel
theorem dL_law_1295 : decode cL_law 1295 = .ok (.iconst 1, 1) := by decide +kernel
theorem dL_law_1296 : decode cL_law 1296 = .ok (.iadd, 1) := by decide +kernel
theorem dL_law_1297 : decode cL_law 1297 = .ok (.iaload, 1) := by decide +kernel
theorem dL_law_1298 : decode cL_law 1298 = .ok (.aload_n 3, 1) := by decide +kernel
theorem dL_law_1299 : decode cL_law 1299 = .ok (.invokestatic 149, 3) := by decide +kernel
theorem dL_law_1302 : decode cL_law 1302 = .ok (.istore 5, 2) := by decide +kernel
theorem dL_law_1304 : decode cL_law 1304 = .ok (.aload_n 2, 1) := by decide +kernel
theorem dL_law_1305 : decode cL_law 1305 = .ok (.aload_n 0, 1) := by decide +kernel
theorem dL_law_1306 : decode cL_law 1306 = .ok (.iload 4, 2) := by decide +kernel
theorem dL_law_1308 : decode cL_law 1308 = .ok (.iconst 1, 1) := by decide +kernel
theorem dL_law_1309 : decode cL_law 1309 = .ok (.iadd, 1) := by decide +kernel
theorem dL_law_1310 : decode cL_law 1310 = .ok (.iaload, 1) := by decide +kernel
theorem dL_law_1311 : decode cL_law 1311 = .ok (.invokevirtual 151, 3) := by decide +kernel
theorem dL_law_1314 : decode cL_law 1314 = .ok (.istore 6, 2) := by decide +kernel
theorem dL_law_1316 : decode cL_law 1316 = .ok (.aload_n 2, 1) := by decide +kernel
theorem dL_law_1317 : decode cL_law 1317 = .ok (.invokevirtual 89, 3) := by decide +kernel
theorem dL_law_1320 : decode cL_law 1320 = .ok (.iload 5, 2) := by decide +kernel
theorem dL_law_1322 : decode cL_law 1322 = .ok (.if_icmp .eq 5, 3) := by decide +kernel
theorem dL_law_1325 : decode cL_law 1325 = .ok (.iconst 0, 1) := by decide +kernel
theorem dL_law_1326 : decode cL_law 1326 = .ok (.ireturn, 1) := by decide +kernel
theorem dL_law_1327 : decode cL_law 1327 = .ok (.iload 5, 2) := by decide +kernel
theorem dL_law_1329 : decode cL_law 1329 = .ok (.ifCond .ne 15, 3) := by decide +kernel
theorem dL_law_1332 : decode cL_law 1332 = .ok (.aload_n 3, 1) := by decide +kernel
theorem dL_law_1333 : decode cL_law 1333 = .ok (.iconst 0, 1) := by decide +kernel
theorem dL_law_1334 : decode cL_law 1334 = .ok (.laload, 1) := by decide +kernel
theorem dL_law_1335 : decode cL_law 1335 = .ok (.iload 6, 2) := by decide +kernel
theorem dL_law_1337 : decode cL_law 1337 = .ok (.i2l, 1) := by decide +kernel
theorem dL_law_1338 : decode cL_law 1338 = .ok (.lcmp, 1) := by decide +kernel
theorem dL_law_1339 : decode cL_law 1339 = .ok (.ifCond .eq 5, 3) := by decide +kernel
theorem dL_law_1342 : decode cL_law 1342 = .ok (.iconst 0, 1) := by decide +kernel
theorem dL_law_1343 : decode cL_law 1343 = .ok (.ireturn, 1) := by decide +kernel
theorem dL_law_1344 : decode cL_law 1344 = .ok (.goto 3, 3) := by decide +kernel
theorem dL_law_1347 : decode cL_law 1347 = .ok (.iinc 4 6, 3) := by decide +kernel
theorem dL_law_1350 : decode cL_law 1350 = .ok (.goto (-1327), 3) := by decide +kernel
theorem dL_law_1353 : decode cL_law 1353 = .ok (.iconst 1, 1) := by decide +kernel
theorem dL_law_1354 : decode cL_law 1354 = .ok (.ireturn, 1) := by decide +kernel
end
section
/-! numbers: remainders, powers, bits -/
theorem nI_z {n : Nat} (h : n < 2 ^ 31) : nI n = 0 ↔ n = 0 := by
  rw [← nI_0]
  exact nI_eq h (by decide)
theorem mm1 (x a m : Nat) : x % m * a % m = x * a % m := by
  rw [Nat.mul_mod, Nat.mod_mod, ← Nat.mul_mod]
theorem mm2 (a x m : Nat) : a * (x % m) % m = a * x % m := by
  rw [Nat.mul_comm, mm1, Nat.mul_comm]
theorem mm3 (x y m : Nat) : x % m * (y % m) % m = x * y % m := (Nat.mul_mod x y m).symm
theorem pm1 (x k m : Nat) : (x % m) ^ k % m = x ^ k % m := (Nat.pow_mod x k m).symm
theorem pw_sq {a m k x : Nat} (h : x = a ^ k % m) : x * x % m = a ^ (2 * k) % m := by
  rw [h, mm3, ← Nat.pow_add, Nat.two_mul]
theorem pw_sm {a m k x : Nat} (h : x = a ^ k % m) : x * x % m * a % m = a ^ (2 * k + 1) % m := by
  rw [pw_sq h, mm1, ← Nat.pow_succ]
def fq (a m b x : Nat) : Nat := if b = 0 then x * x % m else x * x % m * a % m
def fpw (a m : Nat) : Nat → Nat → Nat
  | 0, _ => 1 % m
  | f + 1, e => fq a m (e % 2) (fpw a m f (e / 2))
theorem fpw_ok (a m : Nat) : ∀ f e : Nat, e < 2 ^ f → fpw a m f e = a ^ e % m := by
  intro f
  induction f with
  | zero =>
    intro e h
    have : e = 0 := by simpa using h
    subst this
    rfl
  | succ f ih =>
    intro e h
    have h2 : e / 2 < 2 ^ f := by
      rw [Nat.pow_succ] at h
      omega
    show fq a m (e % 2) (fpw a m f (e / 2)) = _
    unfold fq
    by_cases hb : e % 2 = 0
    · rw [if_pos hb, pw_sq (ih _ h2)]
      congr 2
      omega
    · rw [if_neg hb, pw_sm (ih _ h2)]
      congr 2
      omega
theorem g_q : 4 ^ 1073741789 % 2147483579 = 1 := by
  rw [← fpw_ok 4 2147483579 31 1073741789 (by decide)]
  decide +kernel
/-- exponents go modulo q, for what has order q -/
theorem pw_q {a m q : Nat} (h : a ^ q % m = 1 % m) (e : Nat) : a ^ (e % q) % m = a ^ e % m := by
  have h1 : a ^ e = (a ^ q) ^ (e / q) * a ^ (e % q) := by
    rw [← Nat.pow_mul, ← Nat.pow_add, Nat.div_add_mod]
  have h2 : (a ^ q) ^ (e / q) % m = 1 % m := by rw [Nat.pow_mod, h, ← Nat.pow_mod, Nat.one_pow]
  rw [h1, Nat.mul_mod, h2, ← Nat.mul_mod, Nat.one_mul]
theorem g_e (e : Nat) : 4 ^ (e % 1073741789) % 2147483579 = 4 ^ e % 2147483579 := pw_q (by rw [g_q]) e
theorem pw_lt (a e : Nat) {m : Nat} (hm : 0 < m) : a ^ e % m < m := Nat.mod_lt _ hm
/-- bits -/
def tb (b k : Nat) : Nat := b / 2 ^ k % 2
theorem tb_lt (b k : Nat) : tb b k < 2 := Nat.mod_lt _ (by decide)
theorem tb_test (b k : Nat) : tb b k = if b.testBit k = true then 1 else 0 := by
  unfold tb
  rw [Nat.testBit_eq_decide_div_mod_eq]
  have := Nat.mod_lt (b / 2 ^ k) (show 0 < 2 by decide)
  by_cases h : b / 2 ^ k % 2 = 1
  · simp [h]
  · simp [h]
    omega
theorem tb_eq1 {b k : Nat} : tb b k = 1 ↔ b.testBit k = true := by
  rw [tb_test]
  by_cases h : b.testBit k = true <;> simp [h]
theorem tb_or (b k j : Nat) : tb (b ||| 2 ^ k) j = if j = k then 1 else tb b j := by
  rw [tb_test, tb_test, Nat.testBit_or, Nat.testBit_two_pow]
  by_cases h : j = k
  · simp [h]
  · have : ¬ k = j := fun q => h q.symm
    simp [h, this]
theorem tb_big {b k n : Nat} (h : b < 2 ^ n) (hk : n ≤ k) : tb b k = 0 := by
  unfold tb
  rw [Nat.div_eq_of_lt (Nat.lt_of_lt_of_le h (Nat.pow_le_pow_right (by decide) hk))]
theorem or_lt {b k n : Nat} (h : b < 2 ^ n) (hk : k < n) : b ||| 2 ^ k < 2 ^ n := Nat.or_lt_two_pow h (Nat.pow_lt_pow_right (by decide) hk)
theorem div_step (e b : Nat) : e / 2 ^ b = 2 * (e / 2 ^ (b + 1)) + tb e b := by
  unfold tb
  rw [Nat.pow_succ, ← Nat.div_div_eq_div_mul]
  omega
/-- HASH, a step -/
def stirF (h x : Int64) : Int64 :=
  let s := (h + x) * 6364136223846793005 + 1442695040888963407
  let s2 := (s ^^^ (s.toUInt64 >>> ((nI 29).toInt64.toUInt64 &&& Int64.toUInt64 63)).toInt64) * 2862933555777941757
  s2 ^^^ (s2.toUInt64 >>> ((nI 32).toInt64.toUInt64 &&& Int64.toUInt64 63)).toInt64
/-- the remainder rounded down -/
def md (x : Int64) (b : Nat) : Nat := (x.toInt % (b : Int)).toNat
theorem md_lt (x : Int64) {b : Nat} (h : 0 < b) : md x b < b := by
  unfold md
  have h1 := Int.emod_lt_of_pos x.toInt (show (0 : Int) < b by omega)
  have h2 := Int.emod_nonneg x.toInt (show (b : Int) ≠ 0 by omega)
  omega
theorem md_nat {n b : Nat} (h : n < 2 ^ 63) : md (lN n) b = n % b := by
  unfold md
  rw [pk_lT h]
  omega
end
section
/-! worlds by number: cell k lies at ad k and holds w k -/
def wl (ad : Nat → Nat) (N : Nat) (w : Nat → va_E) : va_W := (List.range N).map fun k => (ad k, w k)
theorem wl_len {ad : Nat → Nat} {N : Nat} {w : Nat → va_E} : (wl ad N w).length = N := by simp [wl]
theorem wl_get {ad : Nat → Nat} {N k : Nat} {w : Nat → va_E} {e : va_E} (h : k < N) (he : w k = e) : (wl ad N w)[k]? = some (ad k, e) := by
  unfold wl
  rw [List.getElem?_map, List.getElem?_range h, ← he]
  rfl
theorem wl_inv {ad : Nat → Nat} {N k : Nat} {w : Nat → va_E} {q : Nat × va_E} (h : (wl ad N w)[k]? = some q) : k < N ∧ q = (ad k, w k) := by
  have hk : k < N := by
    have := (List.getElem?_eq_some_iff.mp h).1
    rwa [wl_len] at this
  refine ⟨hk, ?_⟩
  rw [wl_get hk rfl] at h
  exact (Option.some.inj h).symm
theorem wl_set {ad : Nat → Nat} {N k : Nat} {w : Nat → va_E} {e : va_E} (h : k < N) : (wl ad N w).set k (ad k, e) = wl ad N (va_up w k e) := by
  apply List.ext_getElem?
  intro i
  by_cases hi : i < N
  · rw [wl_get hi rfl, List.getElem?_set]
    by_cases hk : k = i
    · subst hk
      rw [if_pos rfl, if_pos (by rw [wl_len]; exact h), va_up_self]
    · rw [if_neg hk, wl_get hi rfl, va_up_ne _ _ (fun q => hk q.symm)]
  · rw [List.getElem?_eq_none (by rw [List.length_set, wl_len]; omega), List.getElem?_eq_none (by rw [wl_len]; omega)]
theorem wl_push {ad : Nat → Nat} {N a : Nat} {w : Nat → va_E} {e : va_E} : wl ad N w ++ [(a, e)] = wl (va_up ad N a) (N + 1) (va_up w N e) := by
  apply List.ext_getElem?
  intro i
  by_cases hi : i < N
  · rw [List.getElem?_append_left (by rw [wl_len]; exact hi), wl_get hi rfl, wl_get (by omega) rfl, va_up_ne _ _ (by omega), va_up_ne _ _ (by omega)]
  · rw [List.getElem?_append_right (by rw [wl_len]; omega), wl_len]
    by_cases h2 : i = N
    · subst h2
      rw [Nat.sub_self, wl_get (by omega) rfl, va_up_self, va_up_self]
      rfl
    · rw [List.getElem?_eq_none (by simp; omega), List.getElem?_eq_none (by rw [wl_len]; omega)]
/-- the world, whole: tables, cells, their places, what has changed -/
def WW (D : va_G) (cl : List vw_C) (tys : List (ClassId × FieldType)) (A : Nat → Prop) (H0 : Heap) (ad : Nat → Nat) (N : Nat) (w : Nat → va_E) (s : State) (H : Heap) (locs : List Loc) : Prop :=
  va_K D cl tys s ∧ va_P D cl (wl ad N w) H ∧ va_D A (wl ad N w) ∧ va_S A H0 H locs
theorem WW.inj {D : va_G} {cl : List vw_C} {tys : List (ClassId × FieldType)} {A : Nat → Prop} {H0 : Heap} {ad : Nat → Nat} {N : Nat} {w : Nat → va_E} {s : State} {H : Heap} {locs : List Loc} (h : WW D cl tys A H0 ad N w s H locs) {i j : Nat} (hi : i < N) (hj : j < N) (e : ad i = ad j) : i = j :=
  h.2.2.1.1 i j _ _ (wl_get hi rfl) (wl_get hj rfl) e
section XR
variable {p : Program} {l : Launch} {e : Env} {R : Room} {s : State} {m : MethodId} {args : Array Value} {below : List Frame} {meth : Method} {c : Code} {H : Heap} {locs : List Loc} {cells slots : Nat} {Q : State → Prop}
variable {cc : ByteArray} {pc : Nat} {ls : Array Slot} {rest : List Value} {D : va_G} {cl : List vw_C} {A : Nat → Prop} {tys : List (ClassId × FieldType)} {H0 : Heap} {ad : Nat → Nat} {N : Nat} {w : Nat → va_E}
theorem x_get (hexec : p.tables.exec = Jvm.exec) (hb : c.code = cc) {own ref C : String} {T : u_T} {NF ci index : Nat} {Ts : List Cond} (hts : ∀ w ∈ Ts, w.before args s = true) (hin : ∀ w ∈ u_ws C T NF, w ∈ Ts) (hown : s.vm.findClass own = some m.cls) (hw : WW D cl tys A H0 ad N w s H locs) {k0 : Nat} {fs : List Value} (hk0 : k0 < N) (he : w k0 = .inr (ci, fs)) (hc : cl[ci]? = some (C, T, NF)) (k : Nat) (hk : k < NF) (hlink : (Cond.fieldLink own index ref (T k).2.1 (T k).2.2.1).before args s = true) (hsame : ∀ x, s.fieldFound? (T k).1 (T k).2.1 (T k).2.2.1 = some x → s.fieldFound? ref (T k).2.1 (T k).2.2.1 = some x) {v : Value} (hv : fs[k]? = some v) (hdg : decode cc pc = .ok (.getfield index, 3))
    (kk : W p l e R s m args below meth c H locs cells slots Q (F0 m (pc + 3) ls (v :: rest))) : W p l e R s m args below meth c H locs cells slots Q (F0 m pc ls (.ref (ad k0) :: rest)) :=
  va_get hexec hb hts hin hown hw.1 hw.2.1 k0 (wl_get hk0 he) hc k hk hlink hsame hv hdg kk
theorem x_put (hexec : p.tables.exec = Jvm.exec) (hb : c.code = cc) {own ref C : String} {T : u_T} {NF ci index : Nat} {Ts : List Cond} (hts : ∀ w ∈ Ts, w.before args s = true) (hin : ∀ w ∈ u_ws C T NF, w ∈ Ts) (ty0 : Nat → FieldType) (hty : ∀ k, k < NF → parseFieldDescriptor (T k).2.2.1 = some (ty0 k)) (hnm : ∀ a, a < NF → ∀ b, b < NF → a ≠ b → (T a).2.1 ≠ (T b).2.1) (hown : s.vm.findClass own = some m.cls) (hw : WW D cl tys A H0 ad N w s H locs) {k0 : Nat} {fs : List Value} (hk0 : k0 < N) (he : w k0 = .inr (ci, fs)) (hc : cl[ci]? = some (C, T, NF)) (k : Nat) (hk : k < NF) (hlink : (Cond.fieldLink own index ref (T k).2.1 (T k).2.2.1).before args s = true) (hsame : ∀ x, s.fieldFound? (T k).1 (T k).2.1 (T k).2.2.1 = some x → s.fieldFound? ref (T k).2.1 (T k).2.2.1 = some x) (hfin : (T k).2.2.2 = false) {ty : FieldType} {v : Value} (hd : parseFieldDescriptor (T k).2.2.1 = some ty) (hn : narrow ty v = v) (hfit : fits ty v = true) (hl : k < fs.length) (hdg : decode cc pc = .ok (.putfield index, 3))
    (kk : ∀ (w1 : Nat → va_E) (H1 : Heap) (locs1 : List Loc), w1 = va_up w k0 (.inr (ci, fs.set k v)) → WW D cl tys A H0 ad N w1 s H1 locs1 → W p l e R s m args below meth c H1 locs1 cells slots Q (F0 m (pc + 3) ls rest)) : W p l e R s m args below meth c H locs cells slots Q (F0 m pc ls (v :: .ref (ad k0) :: rest)) := by
  refine va_put hexec hb hts hin ty0 hty hnm hown hw.1 hw.2.1 hw.2.2.1 hw.2.2.2 k0 (wl_get hk0 he) hc k hk hlink hsame hfin hd hn hfit hl hdg (fun H1 locs1 hP hD hS => ?_)
  rw [wl_set hk0] at hP hD
  exact kk _ H1 locs1 rfl ⟨hw.1, hP, hD, hS⟩
theorem x_iald (hexec : p.tables.exec = Jvm.exec) (hb : c.code = cc) (hw : WW D cl tys A H0 ad N w s H locs) {k0 : Nat} (hk0 : k0 < N) (t0 : Nat) {cA : ClassId} {n : Nat} {f : Nat → Int32} (he : w k0 = .inl (cA, n, .inl f)) (ht : tys[t0]? = some (cA, .int)) {j : Nat} (hj : j < n) (hn : n < 2 ^ 31) {v : Int32} (hv : f j = v) (hdg : decode cc pc = .ok (.iaload, 1))
    (kk : W p l e R s m args below meth c H locs cells slots Q (F0 m (pc + 1) ls (.int v :: rest))) : W p l e R s m args below meth c H locs cells slots Q (F0 m pc ls (.int (nI j) :: .ref (ad k0) :: rest)) := by
  refine va_iald hexec hb hw.1 hw.2.1 k0 t0 (wl_get hk0 he) ht (vp_in_nI hj hn) hdg ?_
  rw [nI_clamp (by omega), hv]
  exact kk
theorem x_zald (hexec : p.tables.exec = Jvm.exec) (hb : c.code = cc) (hw : WW D cl tys A H0 ad N w s H locs) {k0 : Nat} (hk0 : k0 < N) (t0 : Nat) {cA : ClassId} {n : Nat} {f : Nat → Int32} (he : w k0 = .inl (cA, n, .inl f)) (ht : tys[t0]? = some (cA, .boolean)) {j : Nat} (hj : j < n) (hn : n < 2 ^ 31) {v : Int32} (hv : f j = v) (hdg : decode cc pc = .ok (.baload, 1))
    (kk : W p l e R s m args below meth c H locs cells slots Q (F0 m (pc + 1) ls (.int v :: rest))) : W p l e R s m args below meth c H locs cells slots Q (F0 m pc ls (.int (nI j) :: .ref (ad k0) :: rest)) := by
  refine va_zald hexec hb hw.1 hw.2.1 k0 t0 (wl_get hk0 he) ht (vp_in_nI hj hn) hdg ?_
  rw [nI_clamp (by omega), hv]
  exact kk
theorem x_lald (hexec : p.tables.exec = Jvm.exec) (hb : c.code = cc) (hw : WW D cl tys A H0 ad N w s H locs) {k0 : Nat} (hk0 : k0 < N) (t0 : Nat) {cA : ClassId} {n : Nat} {f : Nat → Int64} (he : w k0 = .inl (cA, n, .inr (.inl f))) (ht : tys[t0]? = some (cA, .long)) {j : Nat} (hj : j < n) (hn : n < 2 ^ 31) {v : Int64} (hv : f j = v) (hdg : decode cc pc = .ok (.laload, 1))
    (kk : W p l e R s m args below meth c H locs cells slots Q (F0 m (pc + 1) ls (.long v :: rest))) : W p l e R s m args below meth c H locs cells slots Q (F0 m pc ls (.int (nI j) :: .ref (ad k0) :: rest)) := by
  refine va_lald hexec hb hw.1 hw.2.1 k0 t0 (wl_get hk0 he) ht (vp_in_nI hj hn) hdg ?_
  rw [nI_clamp (by omega), hv]
  exact kk
theorem x_aald (hexec : p.tables.exec = Jvm.exec) (hb : c.code = cc) (hw : WW D cl tys A H0 ad N w s H locs) {k0 : Nat} (hk0 : k0 < N) (t0 : Nat) {cA : ClassId} {C : String} {n : Nat} {f : Nat → Option Nat} (he : w k0 = .inl (cA, n, .inr (.inr (.inr (.inr f))))) (ht : tys[t0]? = some (cA, .object C)) {j : Nat} (hj : j < n) (hn : n < 2 ^ 31) {v : Nat} (hv : f j = some v) (hdg : decode cc pc = .ok (.aaload, 1))
    (kk : W p l e R s m args below meth c H locs cells slots Q (F0 m (pc + 1) ls (.ref v :: rest))) : W p l e R s m args below meth c H locs cells slots Q (F0 m pc ls (.int (nI j) :: .ref (ad k0) :: rest)) := by
  refine va_aldq hexec hb hw.1 hw.2.1 k0 t0 (wl_get hk0 he) ht (vp_in_nI hj hn) hdg ?_
  rw [nI_clamp (by omega), hv]
  exact kk
theorem x_iast (hexec : p.tables.exec = Jvm.exec) (hb : c.code = cc) (hw : WW D cl tys A H0 ad N w s H locs) {k0 : Nat} (hk0 : k0 < N) (t0 : Nat) {cA : ClassId} {n : Nat} {f : Nat → Int32} (he : w k0 = .inl (cA, n, .inl f)) (ht : tys[t0]? = some (cA, .int)) {j : Nat} {x : Int32} (hj : j < n) (hn : n < 2 ^ 31) (hdg : decode cc pc = .ok (.iastore, 1))
    (kk : ∀ (w1 : Nat → va_E) (H1 : Heap) (locs1 : List Loc), w1 = va_up w k0 (.inl (cA, n, .inl (upd f j x))) → WW D cl tys A H0 ad N w1 s H1 locs1 → W p l e R s m args below meth c H1 locs1 cells slots Q (F0 m (pc + 1) ls rest)) : W p l e R s m args below meth c H locs cells slots Q (F0 m pc ls (.int x :: .int (nI j) :: .ref (ad k0) :: rest)) := by
  refine va_iast hexec hb hw.1 hw.2.1 hw.2.2.1 hw.2.2.2 k0 t0 (wl_get hk0 he) ht (vp_in_nI hj hn) hdg (fun H1 locs1 hP hD hS => ?_)
  rw [wl_set hk0, nI_clamp (by omega)] at hP hD
  exact kk _ H1 locs1 rfl ⟨hw.1, hP, hD, hS⟩
theorem x_zast (hexec : p.tables.exec = Jvm.exec) (hb : c.code = cc) (hw : WW D cl tys A H0 ad N w s H locs) {k0 : Nat} (hk0 : k0 < N) (t0 : Nat) {cA : ClassId} {n : Nat} {f : Nat → Int32} (he : w k0 = .inl (cA, n, .inl f)) (ht : tys[t0]? = some (cA, .boolean)) {j : Nat} {x : Int32} (hj : j < n) (hn : n < 2 ^ 31) (hx : vp_nar .boolean x = x) (hdg : decode cc pc = .ok (.bastore, 1))
    (kk : ∀ (w1 : Nat → va_E) (H1 : Heap) (locs1 : List Loc), w1 = va_up w k0 (.inl (cA, n, .inl (upd f j x))) → WW D cl tys A H0 ad N w1 s H1 locs1 → W p l e R s m args below meth c H1 locs1 cells slots Q (F0 m (pc + 1) ls rest)) : W p l e R s m args below meth c H locs cells slots Q (F0 m pc ls (.int x :: .int (nI j) :: .ref (ad k0) :: rest)) := by
  refine va_zast hexec hb hw.1 hw.2.1 hw.2.2.1 hw.2.2.2 k0 t0 (wl_get hk0 he) ht (vp_in_nI hj hn) hdg (fun H1 locs1 hP hD hS => ?_)
  rw [wl_set hk0, nI_clamp (by omega), hx] at hP hD
  exact kk _ H1 locs1 rfl ⟨hw.1, hP, hD, hS⟩
theorem x_last (hexec : p.tables.exec = Jvm.exec) (hb : c.code = cc) (hw : WW D cl tys A H0 ad N w s H locs) {k0 : Nat} (hk0 : k0 < N) (t0 : Nat) {cA : ClassId} {n : Nat} {f : Nat → Int64} (he : w k0 = .inl (cA, n, .inr (.inl f))) (ht : tys[t0]? = some (cA, .long)) {j : Nat} {x : Int64} (hj : j < n) (hn : n < 2 ^ 31) (hdg : decode cc pc = .ok (.lastore, 1))
    (kk : ∀ (w1 : Nat → va_E) (H1 : Heap) (locs1 : List Loc), w1 = va_up w k0 (.inl (cA, n, .inr (.inl (vp_updL f j x)))) → WW D cl tys A H0 ad N w1 s H1 locs1 → W p l e R s m args below meth c H1 locs1 cells slots Q (F0 m (pc + 1) ls rest)) : W p l e R s m args below meth c H locs cells slots Q (F0 m pc ls (.long x :: .int (nI j) :: .ref (ad k0) :: rest)) := by
  refine va_last hexec hb hw.1 hw.2.1 hw.2.2.1 hw.2.2.2 k0 t0 (wl_get hk0 he) ht (vp_in_nI hj hn) hdg (fun H1 locs1 hP hD hS => ?_)
  rw [wl_set hk0, nI_clamp (by omega)] at hP hD
  exact kk _ H1 locs1 rfl ⟨hw.1, hP, hD, hS⟩
end XR
end
section
/-! calls: every method's words are its code and the claim's own list wsL_law -/
set_option maxRecDepth 100000 in
theorem wsL_good : ∀ w ∈ wsL_law, goodWord w = true := List.all_eq_true.mp (by decide +kernel)
abbrev wq (k : Cond) : List Cond := k :: wsL_law
theorem wq_ride {args : Array Value} {s : State} (hts : ∀ w ∈ wsL_law, w.before args s = true) {k : Cond} (hk : k ∈ wsL_law) : ∀ w ∈ wq k, ∀ (a' : Array Value) (U : State), s.WarmedH U.vm → w.before a' U = true := by
  intro w hw a' U hW
  have hm : w ∈ wsL_law := by
    rcases List.mem_cons.mp hw with rfl | h
    · exact hk
    · exact h
  exact word_at hW (good_of_word (wsL_good w hm)) (hts w hm)
theorem ini_ride {args : Array Value} {s : State} {C : String} (h : (Cond.initialized C).before args s = true) : ∀ (a' : Array Value) (U : State), s.WarmedH U.vm → (Cond.initialized C).before a' U = true := fun a' U hW => word_at hW (Or.inl (by first | rfl | simp [Cond.onTables, Cond.keeps, Cond.steady])) h
/-- a static callee, an instance callee, a constructor: what the words say of a call site -/
def SF (own : String) (index : Nat) (y : MethodName) (bytes : ByteArray) (maxL : Nat) (ret : Option FieldType) (n : Nat) : Prop :=
  Cond.code y bytes maxL ret ∈ wsL_law ∧ Cond.initialized y.cls ∈ wsL_law ∧ Cond.methodLink own index y ∈ wsL_law ∧ Cond.static y ∈ wsL_law ∧ (y.cls ≠ "java/lang/invoke/MethodHandle" ∧ y.cls ≠ "java/lang/invoke/VarHandle") ∧ (parseMethodDescriptor y.desc).map (fun d => d.parameters.length) = some n
def VF (own : String) (index : Nat) (y : MethodName) (bytes : ByteArray) (maxL : Nat) (ret : Option FieldType) (n : Nat) : Prop :=
  Cond.code y bytes maxL ret ∈ wsL_law ∧ Cond.initialized y.cls ∈ wsL_law ∧ Cond.methodLink own index y ∈ wsL_law ∧ Cond.instanceMethod y ∈ wsL_law ∧ Cond.selects y.cls y y ∈ wsL_law ∧ (y.cls ≠ "java/lang/invoke/MethodHandle" ∧ y.cls ≠ "java/lang/invoke/VarHandle") ∧ (parseMethodDescriptor y.desc).map (fun d => d.parameters.length) = some n
def IF (own : String) (index : Nat) (y : MethodName) (bytes : ByteArray) (maxL : Nat) (n : Nat) : Prop :=
  Cond.code y bytes maxL none ∈ wsL_law ∧ Cond.initialized y.cls ∈ wsL_law ∧ Cond.methodLink own index y ∈ wsL_law ∧ Cond.instanceMethod y ∈ wsL_law ∧ y.name = "<init>" ∧ (y.cls ≠ "java/lang/invoke/MethodHandle" ∧ y.cls ≠ "java/lang/invoke/VarHandle") ∧ (parseMethodDescriptor y.desc).map (fun d => d.parameters.length) = some n
def RF (R rm : Room) (mc ms maxL : Nat) : Prop := rm.cells = mc ∧ rm.slots = ms ∧ rm.frames + 1 ≤ R.frames ∧ 16 + (maxL + 11) + rm.locals ≤ R.locals
theorem desc_len {d : String} {n : Nat} (h : (parseMethodDescriptor d).map (fun d => d.parameters.length) = some n) : ∀ sig, parseMethodDescriptor d = some sig → n = sig.parameters.length := fun sig hs => by
  rw [hs] at h
  exact (Option.some.inj h).symm
section XC
variable {p : Program} {l : Launch} {e : Env} {R : Room} {s : State} {m : MethodId} {args : Array Value} {below : List Frame} {meth : Method} {c : Code} {H : Heap} {locs : List Loc} {cells slots : Nat} {Q : State → Prop}
variable {y : MethodName} {bytes cc : ByteArray} {maxL nL mc ms index : Nat} {ret : Option FieldType} {rm : Room} {Pc : Array Value → State → Prop} {Qc : Array Value → State → Outcome → State → Prop} {free : Addr → Prop} {own : String} {b : Addr} {As rest : List Value} {pc : Nat} {ls : Array Slot}
theorem x_runS (S : CallFix p m c cc nL s args wsL_law own) (hF : SF own index y bytes maxL ret As.length) (hM : Met l y (wq (.code y bytes maxL ret)) rm Pc Qc mc ms free) (hR : RF R rm mc ms maxL) (hp : PreS s H Pc As)
    (hsize : ls.size = nL) (hW : (rest.map fun v => v.category).sum ≤ 16) (hdg : decode cc pc = .ok (.invokestatic index, 3)) (hf : cells + mc ≤ R.cells ∧ slots + ms ≤ R.slots) :
    va_Run p l e R s m args below meth c H locs cells slots mc ms (F0 m pc ls (As.reverse ++ rest)) rest (Qc As.toArray) free := by
  obtain ⟨hx, hb, hml, ho, hts⟩ := S
  obtain ⟨k1, k2, k3, k4, hy, hd⟩ := hF
  obtain ⟨hrc, hrs, hfr, hlo⟩ := hR
  have hK : Back l R p e below s args y 3 16 (PreOf R mc ms Pc) (PostOf Qc mc ms free) := back_of (bytes := bytes) (maxL := maxL) (ret := ret) hM hp.1 hrc hrs hfr hlo (wq_ride hts k1) List.mem_cons_self (ini_ride (hts _ k2))
  intro T hT X
  obtain ⟨v, vm₁, ⟨U', l2, c2, s2⟩, hW₁, X', ⟨g', mk, t, L, e1, e2, hq, h1, hL, h2, h3⟩, st⟩ := callS X hx (bytes := bytes) (maxL := maxL) (ret := ret) ho (hts _ k3) (hts _ k4) (hts _ k2) (hts _ k1) hy hK (g := F0 m pc ls (As.reverse ++ rest)) rfl (hsize.trans hml.symm) (argsL := As) (rest := rest) (desc_len hd) rfl (by show 2 * 0 + _ ≤ 16; omega) (by rw [hb]; exact hdg)
    (fun vm₁ hW₁ => ⟨hf.1, hf.2, hp.2 (T.setVm vm₁) hT hW₁⟩)
  dsimp only [Pt.U, Pt.locs, Pt.cells, Pt.slots] at X' e1 e2 h1 h2 h3 st
  subst h1; subst h2; subst h3
  exact ⟨v, (T.setVm vm₁).calling g' mk As.toArray, t, U', L, hT, X', hL, e1, e2, hq, st⟩
theorem x_runV (S : CallFix p m c cc nL s args wsL_law own) (hF : VF own index y bytes maxL ret As.length) (hM : Met l y (wq (.code y bytes maxL ret)) rm Pc Qc mc ms free) (hR : RF R rm mc ms maxL) (hp : PreV s H y.cls b Pc As)
    (hsize : ls.size = nL) (hW : (rest.map fun v => v.category).sum ≤ 16) (hdg : decode cc pc = .ok (.invokevirtual index, 3)) (hf : cells + mc ≤ R.cells ∧ slots + ms ≤ R.slots) :
    va_Run p l e R s m args below meth c H locs cells slots mc ms (F0 m pc ls (As.reverse ++ .ref b :: rest)) rest (Qc (Value.ref b :: As).toArray) free := by
  obtain ⟨hx, hb, hml, ho, hts⟩ := S
  obtain ⟨k1, k2, k3, k4, k5, hy, hd⟩ := hF
  obtain ⟨hrc, hrs, hfr, hlo⟩ := hR
  have hK : Back l R p e below s args y 3 16 (PreOf R mc ms Pc) (PostOf Qc mc ms free) := back_of (bytes := bytes) (maxL := maxL) (ret := ret) hM hp.1 hrc hrs hfr hlo (wq_ride hts k1) List.mem_cons_self (ini_ride (hts _ k2))
  obtain ⟨-, ⟨cellB, hcB, hoB, hclB⟩, hPc⟩ := hp
  intro T hT X
  obtain ⟨v, vm₁, ⟨U', l2, c2, s2⟩, hW₁, X', ⟨g', mk, t, L, e1, e2, hq, h1, hL, h2, h3⟩, st⟩ := callV X hx (C := y.cls) (bytes := bytes) (maxL := maxL) (ret := ret) ho (hts _ k3) (hts _ k4) (hts _ k5) (hts _ k1) hy hK (by rw [hT]; exact hcB) hoB hclB (g := F0 m pc ls (As.reverse ++ .ref b :: rest)) rfl (hsize.trans hml.symm) (argsL := As) (rest := rest) (desc_len hd) rfl (by show 2 * 0 + _ ≤ 16; omega) (by rw [hb]; exact hdg)
    (fun vm₁ hW₁ => ⟨hf.1, hf.2, hPc (T.setVm vm₁) hT hW₁⟩)
  dsimp only [Pt.U, Pt.locs, Pt.cells, Pt.slots] at X' e1 e2 h1 h2 h3 st
  subst h1; subst h2; subst h3
  exact ⟨v, (T.setVm vm₁).calling g' mk (Value.ref b :: As).toArray, t, U', L, hT, X', hL, e1, e2, hq, st⟩
theorem x_runI (S : CallFix p m c cc nL s args wsL_law own) (hF : IF own index y bytes maxL As.length) (hM : Met l y (wq (.code y bytes maxL none)) rm Pc Qc mc ms free) (hR : RF R rm mc ms maxL) (hp : PreS s H Pc (.ref b :: As))
    (hsize : ls.size = nL) (hW : (rest.map fun v => v.category).sum ≤ 16) (hdg : decode cc pc = .ok (.invokespecial index, 3)) (hf : cells + mc ≤ R.cells ∧ slots + ms ≤ R.slots) :
    va_Run p l e R s m args below meth c H locs cells slots mc ms (F0 m pc ls (As.reverse ++ .ref b :: rest)) rest (Qc (Value.ref b :: As).toArray) free := by
  obtain ⟨hx, hb, hml, ho, hts⟩ := S
  obtain ⟨k1, k2, k3, k4, hn, hy, hd⟩ := hF
  obtain ⟨hrc, hrs, hfr, hlo⟩ := hR
  have hK : Back l R p e below s args y 3 16 (PreOf R mc ms Pc) (PostOf Qc mc ms free) := back_of (bytes := bytes) (maxL := maxL) (ret := none) hM hp.1 hrc hrs hfr hlo (wq_ride hts k1) List.mem_cons_self (ini_ride (hts _ k2))
  intro T hT X
  obtain ⟨v, vm₁, ⟨U', l2, c2, s2⟩, hW₁, X', ⟨g', mk, t, L, e1, e2, hq, h1, hL, h2, h3⟩, st⟩ := callI X hx (bytes := bytes) (maxL := maxL) ho hn (hts _ k3) (hts _ k4) (hts _ k1) hy hK (g := F0 m pc ls (As.reverse ++ .ref b :: rest)) rfl (hsize.trans hml.symm) (a := b) (argsL := As) (rest := rest) (desc_len hd) rfl (by show 2 * 0 + _ ≤ 16; omega) (by rw [hb]; exact hdg)
    (fun vm₁ hW₁ => ⟨hf.1, hf.2, hp.2 (T.setVm vm₁) hT hW₁⟩)
  dsimp only [Pt.U, Pt.locs, Pt.cells, Pt.slots] at X' e1 e2 h1 h2 h3 st
  subst h1; subst h2; subst h3
  exact ⟨v, (T.setVm vm₁).calling g' mk (Value.ref b :: As).toArray, t, U', L, hT, X', hL, e1, e2, hq, st⟩
end XC
/-! methods of numbers alone: they answer v, whatever the heap is, and leave it -/
def QS (v : Value) : Array Value → State → Outcome → State → Prop := fun _ st o t => o = .returned (some v) ∧ t.heap = st.heap
def MS (l : Launch) (y : MethodName) (k : Cond) (rm : Room) (av : List Value) (v : Value) : Prop := Met l y (wq k) rm (va_Pc av (fun _ => True)) (QS v) 0 0 (fun _ => False)
theorem MS.of {l : Launch} {y : MethodName} {bytes : ByteArray} {maxL : Nat} {ret : Option FieldType} {rm : Room} {av : List Value} {v : Value} (hy : plainName y.cls = true) (hav : (lg_sl av).length ≤ maxL)
    (body : ∀ (p : Program) (e : Env) (s : State) (m : MethodId) (below : List Frame) (meth : Method) (c : Code) (ls : Array Slot), CallFix p m c bytes maxL s av.toArray wsL_law y.cls → meth.sig.returnType = ret → meth.locks = false → lv_has ls maxL (lv_args 0 av) →
      W p l e rm s m av.toArray below meth c s.heap [] 0 0 (MQ below (QS v) av.toArray s 0 0 (fun _ => False)) (F0 m 0 ls [])) : MS l y (.code y bytes maxL ret) rm av v := by
  refine Met.ofW (cc := bytes) (maxL := maxL) (ret := ret) hy rfl ?_
  intro p e s m args below meth c s₁ B hml hv
  obtain ⟨rfl, -⟩ := hv
  rw [lg_entry_eq]
  exact body p e s m below meth c _ ⟨B.exec, B.bytes, hml, findClass_of_methodNamed B.named, fun w hw => atoms_spec (ws := wq (.code y bytes maxL ret)) B.pre w (List.mem_cons_of_mem _ hw)⟩ B.returns B.notSynchronized (lv_entry av hav)
section XS
variable {p : Program} {l : Launch} {e : Env} {R : Room} {s : State} {m : MethodId} {args : Array Value} {below : List Frame} {meth : Method} {c : Code} {H : Heap} {locs : List Loc} {cells slots : Nat} {Q : State → Prop}
variable {y : MethodName} {bytes cc : ByteArray} {maxL nL index : Nat} {ret : Option FieldType} {rm : Room} {own : String} {As rest : List Value} {pc : Nat} {ls : Array Slot}
/-- a static call of such a method -/
theorem x_callS {v : Value} (S : CallFix p m c cc nL s args wsL_law own) (hF : SF own index y bytes maxL ret As.length) (hM : MS l y (.code y bytes maxL ret) rm As v) (hR : RF R rm 0 0 maxL) (hsize : ls.size = nL) (hW : (rest.map fun v => v.category).sum ≤ 16) (hdg : decode cc pc = .ok (.invokestatic index, 3)) (hf : cells ≤ R.cells ∧ slots ≤ R.slots) {st0 : List Value} (hst : st0 = As.reverse ++ rest)
    (kk : W p l e R s m args below meth c H locs cells slots Q (F0 m (pc + 3) ls (v :: rest))) : W p l e R s m args below meth c H locs cells slots Q (F0 m pc ls st0) := by
  subst hst
  have hr := x_runS (e := e) (below := below) (meth := meth) (H := H) (locs := locs) (cells := cells) (slots := slots) (rest := rest) S hF hM hR ⟨fun _ _ _ _ q => q, fun _ _ _ => ⟨rfl, trivial⟩⟩ hsize hW hdg hf
  intro T hT X
  obtain ⟨v1, st₀, t, T', L, h0, X', hL, e1, e2, ⟨hv, hh⟩, st⟩ := hr T hT X
  cases hv
  obtain ⟨t2, a1, b1⟩ := kk T' (by rw [e1, hh, h0]) (Stand.forget X' (fun q h => (hL q h).elim))
  exact ⟨t2, st t2 a1, b1⟩
theorem x_retI {bytes : ByteArray} {v : Int32} (hx : p.tables.exec = Jvm.exec) (hb : c.code = bytes) (hr : meth.sig.returnType = some .int) (hlocks : meth.locks = false) (hdg : decode bytes pc = .ok (.ireturn, 1)) : W p l e R s m args below meth c s.heap [] 0 0 (MQ below (QS (.int v)) args s 0 0 (fun _ => False)) (F0 m pc ls [.int v]) :=
  W.iret hx hb hr (fun t ht _ => ⟨rfl, ht⟩) (fun _ h => nomatch h) hdg hlocks
theorem x_retZ {bytes : ByteArray} {v : Int32} (hx : p.tables.exec = Jvm.exec) (hb : c.code = bytes) (hr : meth.sig.returnType = some .boolean) (hlocks : meth.locks = false) (hn : narrow .boolean (.int v) = .int v) (hdg : decode bytes pc = .ok (.ireturn, 1)) : W p l e R s m args below meth c s.heap [] 0 0 (MQ below (QS (.int v)) args s 0 0 (fun _ => False)) (F0 m pc ls [.int v]) :=
  W.zret hx hb hr hn (fun t ht _ => ⟨rfl, ht⟩) (fun _ h => nomatch h) hdg hlocks
theorem x_retL {bytes : ByteArray} {v : Int64} (hx : p.tables.exec = Jvm.exec) (hb : c.code = bytes) (hr : meth.sig.returnType = some .long) (hlocks : meth.locks = false) (hdg : decode bytes pc = .ok (.lreturn, 1)) : W p l e R s m args below meth c s.heap [] 0 0 (MQ below (QS (.long v)) args s 0 0 (fun _ => False)) (F0 m pc ls [.long v]) :=
  W.lret hx hb hr (fun t ht _ => ⟨rfl, ht⟩) (fun _ h => nomatch h) hdg hlocks
end XS
end
section
/-! field sites, call sites, constants: what the words say -/
section XW
variable {p : Program} {l : Launch} {e : Env} {R : Room} {s : State} {m : MethodId} {args : Array Value} {below : List Frame} {meth : Method} {c : Code} {H : Heap} {locs : List Loc} {cells slots : Nat} {Q : State → Prop}
variable {cc : ByteArray} {pc : Nat} {ls : Array Slot} {rest : List Value} {D : va_G} {A : Nat → Prop} {tys : List (ClassId × FieldType)} {H0 : Heap} {ad : Nat → Nat} {N : Nat} {w : Nat → va_E}
theorem fl_X4_11 : (Cond.fieldLink RX4 11 "BeaconRing" "dealers" "[LBeaconRing$Dealer;") ∈ wsL_law := (List.mem_of_getElem? (i := 15) (by decide +kernel))
theorem gf_X4_11 (hx : p.tables.exec = Jvm.exec) (hb : c.code = cc) (hts : ∀ w ∈ wsL_law, w.before args s = true) (hown : s.vm.findClass RX4 = some m.cls) (hw : WW D vwCl tys A H0 ad N w s H locs) {k0 : Nat} {fs : List Value} (hk0 : k0 < N) (he : w k0 = .inr (3, fs)) {v : Value} (hv : fs[0]? = some v) (hdg : decode cc pc = .ok (.getfield 11, 3)) (kk : W p l e R s m args below meth c H locs cells slots Q (F0 m (pc + 3) ls (v :: rest))) : W p l e R s m args below meth c H locs cells slots Q (F0 m pc ls (.ref (ad k0) :: rest)) :=
  x_get hx hb hts inlX4 hown hw hk0 he rfl 0 (by decide) (hts _ fl_X4_11) (fun _ h => h) hv hdg kk
theorem fl_X4_16 : (Cond.fieldLink RX4 16 "BeaconRing" "keys" "[I") ∈ wsL_law := (List.mem_of_getElem? (i := 19) (by decide +kernel))
theorem gf_X4_16 (hx : p.tables.exec = Jvm.exec) (hb : c.code = cc) (hts : ∀ w ∈ wsL_law, w.before args s = true) (hown : s.vm.findClass RX4 = some m.cls) (hw : WW D vwCl tys A H0 ad N w s H locs) {k0 : Nat} {fs : List Value} (hk0 : k0 < N) (he : w k0 = .inr (3, fs)) {v : Value} (hv : fs[1]? = some v) (hdg : decode cc pc = .ok (.getfield 16, 3)) (kk : W p l e R s m args below meth c H locs cells slots Q (F0 m (pc + 3) ls (v :: rest))) : W p l e R s m args below meth c H locs cells slots Q (F0 m pc ls (.ref (ad k0) :: rest)) :=
  x_get hx hb hts inlX4 hown hw hk0 he rfl 1 (by decide) (hts _ fl_X4_16) (fun _ h => h) hv hdg kk
theorem fl_X4_20 : (Cond.fieldLink RX4 20 "BeaconRing" "publicKeys" "[I") ∈ wsL_law := (List.mem_of_getElem? (i := 20) (by decide +kernel))
theorem gf_X4_20 (hx : p.tables.exec = Jvm.exec) (hb : c.code = cc) (hts : ∀ w ∈ wsL_law, w.before args s = true) (hown : s.vm.findClass RX4 = some m.cls) (hw : WW D vwCl tys A H0 ad N w s H locs) {k0 : Nat} {fs : List Value} (hk0 : k0 < N) (he : w k0 = .inr (3, fs)) {v : Value} (hv : fs[2]? = some v) (hdg : decode cc pc = .ok (.getfield 20, 3)) (kk : W p l e R s m args below meth c H locs cells slots Q (F0 m (pc + 3) ls (v :: rest))) : W p l e R s m args below meth c H locs cells slots Q (F0 m pc ls (.ref (ad k0) :: rest)) :=
  x_get hx hb hts inlX4 hown hw hk0 he rfl 2 (by decide) (hts _ fl_X4_20) (fun _ h => h) hv hdg kk
theorem fl_X4_26 : (Cond.fieldLink RX4 26 "BeaconRing" "rounds" "LBeaconRing$Rounds;") ∈ wsL_law := (List.mem_of_getElem? (i := 24) (by decide +kernel))
theorem gf_X4_26 (hx : p.tables.exec = Jvm.exec) (hb : c.code = cc) (hts : ∀ w ∈ wsL_law, w.before args s = true) (hown : s.vm.findClass RX4 = some m.cls) (hw : WW D vwCl tys A H0 ad N w s H locs) {k0 : Nat} {fs : List Value} (hk0 : k0 < N) (he : w k0 = .inr (3, fs)) {v : Value} (hv : fs[3]? = some v) (hdg : decode cc pc = .ok (.getfield 26, 3)) (kk : W p l e R s m args below meth c H locs cells slots Q (F0 m (pc + 3) ls (v :: rest))) : W p l e R s m args below meth c H locs cells slots Q (F0 m pc ls (.ref (ad k0) :: rest)) :=
  x_get hx hb hts inlX4 hown hw hk0 he rfl 3 (by decide) (hts _ fl_X4_26) (fun _ h => h) hv hdg kk
theorem fl_X4_33 : (Cond.fieldLink RX4 33 "BeaconRing" "statement" "LBeaconRing$Statement;") ∈ wsL_law := (List.mem_of_getElem? (i := 28) (by decide +kernel))
theorem gf_X4_33 (hx : p.tables.exec = Jvm.exec) (hb : c.code = cc) (hts : ∀ w ∈ wsL_law, w.before args s = true) (hown : s.vm.findClass RX4 = some m.cls) (hw : WW D vwCl tys A H0 ad N w s H locs) {k0 : Nat} {fs : List Value} (hk0 : k0 < N) (he : w k0 = .inr (3, fs)) {v : Value} (hv : fs[4]? = some v) (hdg : decode cc pc = .ok (.getfield 33, 3)) (kk : W p l e R s m args below meth c H locs cells slots Q (F0 m (pc + 3) ls (v :: rest))) : W p l e R s m args below meth c H locs cells slots Q (F0 m pc ls (.ref (ad k0) :: rest)) :=
  x_get hx hb hts inlX4 hown hw hk0 he rfl 4 (by decide) (hts _ fl_X4_33) (fun _ h => h) hv hdg kk
theorem fl_X0_9 : (Cond.fieldLink RX0 9 "BeaconRing$Dealer" "commitments" "[I") ∈ wsL_law := (List.mem_of_getElem? (i := 32) (by decide +kernel))
theorem gf_X0_9 (hx : p.tables.exec = Jvm.exec) (hb : c.code = cc) (hts : ∀ w ∈ wsL_law, w.before args s = true) (hown : s.vm.findClass RX0 = some m.cls) (hw : WW D vwCl tys A H0 ad N w s H locs) {k0 : Nat} {fs : List Value} (hk0 : k0 < N) (he : w k0 = .inr (0, fs)) {v : Value} (hv : fs[0]? = some v) (hdg : decode cc pc = .ok (.getfield 9, 3)) (kk : W p l e R s m args below meth c H locs cells slots Q (F0 m (pc + 3) ls (v :: rest))) : W p l e R s m args below meth c H locs cells slots Q (F0 m pc ls (.ref (ad k0) :: rest)) :=
  x_get hx hb hts inlX0 hown hw hk0 he rfl 0 (by decide) (hts _ fl_X0_9) (fun _ h => h) hv hdg kk
theorem fl_X0_15 : (Cond.fieldLink RX0 15 "BeaconRing$Dealer" "right" "[I") ∈ wsL_law := (List.mem_of_getElem? (i := 33) (by decide +kernel))
theorem gf_X0_15 (hx : p.tables.exec = Jvm.exec) (hb : c.code = cc) (hts : ∀ w ∈ wsL_law, w.before args s = true) (hown : s.vm.findClass RX0 = some m.cls) (hw : WW D vwCl tys A H0 ad N w s H locs) {k0 : Nat} {fs : List Value} (hk0 : k0 < N) (he : w k0 = .inr (0, fs)) {v : Value} (hv : fs[1]? = some v) (hdg : decode cc pc = .ok (.getfield 15, 3)) (kk : W p l e R s m args below meth c H locs cells slots Q (F0 m (pc + 3) ls (v :: rest))) : W p l e R s m args below meth c H locs cells slots Q (F0 m pc ls (.ref (ad k0) :: rest)) :=
  x_get hx hb hts inlX0 hown hw hk0 he rfl 1 (by decide) (hts _ fl_X0_15) (fun _ h => h) hv hdg kk
theorem fl_X0_18 : (Cond.fieldLink RX0 18 "BeaconRing$Dealer" "given" "[I") ∈ wsL_law := (List.mem_of_getElem? (i := 34) (by decide +kernel))
theorem gf_X0_18 (hx : p.tables.exec = Jvm.exec) (hb : c.code = cc) (hts : ∀ w ∈ wsL_law, w.before args s = true) (hown : s.vm.findClass RX0 = some m.cls) (hw : WW D vwCl tys A H0 ad N w s H locs) {k0 : Nat} {fs : List Value} (hk0 : k0 < N) (he : w k0 = .inr (0, fs)) {v : Value} (hv : fs[2]? = some v) (hdg : decode cc pc = .ok (.getfield 18, 3)) (kk : W p l e R s m args below meth c H locs cells slots Q (F0 m (pc + 3) ls (v :: rest))) : W p l e R s m args below meth c H locs cells slots Q (F0 m pc ls (.ref (ad k0) :: rest)) :=
  x_get hx hb hts inlX0 hown hw hk0 he rfl 2 (by decide) (hts _ fl_X0_18) (fun _ h => h) hv hdg kk
theorem fl_X2_9 : (Cond.fieldLink RX2 9 "BeaconRing$Rounds" "values" "[J") ∈ wsL_law := (List.mem_of_getElem? (i := 39) (by decide +kernel))
theorem gf_X2_9 (hx : p.tables.exec = Jvm.exec) (hb : c.code = cc) (hts : ∀ w ∈ wsL_law, w.before args s = true) (hown : s.vm.findClass RX2 = some m.cls) (hw : WW D vwCl tys A H0 ad N w s H locs) {k0 : Nat} {fs : List Value} (hk0 : k0 < N) (he : w k0 = .inr (1, fs)) {v : Value} (hv : fs[0]? = some v) (hdg : decode cc pc = .ok (.getfield 9, 3)) (kk : W p l e R s m args below meth c H locs cells slots Q (F0 m (pc + 3) ls (v :: rest))) : W p l e R s m args below meth c H locs cells slots Q (F0 m pc ls (.ref (ad k0) :: rest)) :=
  x_get hx hb hts inlX2 hown hw hk0 he rfl 0 (by decide) (hts _ fl_X2_9) (fun _ h => h) hv hdg kk
theorem fl_X2_15 : (Cond.fieldLink RX2 15 "BeaconRing$Rounds" "parts" "[I") ∈ wsL_law := (List.mem_of_getElem? (i := 40) (by decide +kernel))
theorem gf_X2_15 (hx : p.tables.exec = Jvm.exec) (hb : c.code = cc) (hts : ∀ w ∈ wsL_law, w.before args s = true) (hown : s.vm.findClass RX2 = some m.cls) (hw : WW D vwCl tys A H0 ad N w s H locs) {k0 : Nat} {fs : List Value} (hk0 : k0 < N) (he : w k0 = .inr (1, fs)) {v : Value} (hv : fs[1]? = some v) (hdg : decode cc pc = .ok (.getfield 15, 3)) (kk : W p l e R s m args below meth c H locs cells slots Q (F0 m (pc + 3) ls (v :: rest))) : W p l e R s m args below meth c H locs cells slots Q (F0 m pc ls (.ref (ad k0) :: rest)) :=
  x_get hx hb hts inlX2 hown hw hk0 he rfl 1 (by decide) (hts _ fl_X2_15) (fun _ h => h) hv hdg kk
theorem fl_X2_19 : (Cond.fieldLink RX2 19 "BeaconRing$Rounds" "inverses" "[I") ∈ wsL_law := (List.mem_of_getElem? (i := 41) (by decide +kernel))
theorem gf_X2_19 (hx : p.tables.exec = Jvm.exec) (hb : c.code = cc) (hts : ∀ w ∈ wsL_law, w.before args s = true) (hown : s.vm.findClass RX2 = some m.cls) (hw : WW D vwCl tys A H0 ad N w s H locs) {k0 : Nat} {fs : List Value} (hk0 : k0 < N) (he : w k0 = .inr (1, fs)) {v : Value} (hv : fs[2]? = some v) (hdg : decode cc pc = .ok (.getfield 19, 3)) (kk : W p l e R s m args below meth c H locs cells slots Q (F0 m (pc + 3) ls (v :: rest))) : W p l e R s m args below meth c H locs cells slots Q (F0 m pc ls (.ref (ad k0) :: rest)) :=
  x_get hx hb hts inlX2 hown hw hk0 he rfl 2 (by decide) (hts _ fl_X2_19) (fun _ h => h) hv hdg kk
theorem fl_X5_7 : (Cond.fieldLink RX5 7 "BeaconRingModel" "dealt" "[Z") ∈ wsL_law := (List.mem_of_getElem? (i := 60) (by decide +kernel))
theorem gf_X5_7 (hx : p.tables.exec = Jvm.exec) (hb : c.code = cc) (hts : ∀ w ∈ wsL_law, w.before args s = true) (hown : s.vm.findClass RX5 = some m.cls) (hw : WW D vwCl tys A H0 ad N w s H locs) {k0 : Nat} {fs : List Value} (hk0 : k0 < N) (he : w k0 = .inr (4, fs)) {v : Value} (hv : fs[4]? = some v) (hdg : decode cc pc = .ok (.getfield 7, 3)) (kk : W p l e R s m args below meth c H locs cells slots Q (F0 m (pc + 3) ls (v :: rest))) : W p l e R s m args below meth c H locs cells slots Q (F0 m pc ls (.ref (ad k0) :: rest)) :=
  x_get hx hb hts inlX5 hown hw hk0 he rfl 4 (by decide) (hts _ fl_X5_7) (fun _ h => h) hv hdg kk
theorem fl_X5_13 : (Cond.fieldLink RX5 13 "BeaconRingModel" "out" "[Z") ∈ wsL_law := (List.mem_of_getElem? (i := 61) (by decide +kernel))
theorem gf_X5_13 (hx : p.tables.exec = Jvm.exec) (hb : c.code = cc) (hts : ∀ w ∈ wsL_law, w.before args s = true) (hown : s.vm.findClass RX5 = some m.cls) (hw : WW D vwCl tys A H0 ad N w s H locs) {k0 : Nat} {fs : List Value} (hk0 : k0 < N) (he : w k0 = .inr (4, fs)) {v : Value} (hv : fs[5]? = some v) (hdg : decode cc pc = .ok (.getfield 13, 3)) (kk : W p l e R s m args below meth c H locs cells slots Q (F0 m (pc + 3) ls (v :: rest))) : W p l e R s m args below meth c H locs cells slots Q (F0 m pc ls (.ref (ad k0) :: rest)) :=
  x_get hx hb hts inlX5 hown hw hk0 he rfl 5 (by decide) (hts _ fl_X5_13) (fun _ h => h) hv hdg kk
theorem fl_X5_16 : (Cond.fieldLink RX5 16 "BeaconRingModel" "coefficient" "[J") ∈ wsL_law := (List.mem_of_getElem? (i := 62) (by decide +kernel))
theorem gf_X5_16 (hx : p.tables.exec = Jvm.exec) (hb : c.code = cc) (hts : ∀ w ∈ wsL_law, w.before args s = true) (hown : s.vm.findClass RX5 = some m.cls) (hw : WW D vwCl tys A H0 ad N w s H locs) {k0 : Nat} {fs : List Value} (hk0 : k0 < N) (he : w k0 = .inr (4, fs)) {v : Value} (hv : fs[6]? = some v) (hdg : decode cc pc = .ok (.getfield 16, 3)) (kk : W p l e R s m args below meth c H locs cells slots Q (F0 m (pc + 3) ls (v :: rest))) : W p l e R s m args below meth c H locs cells slots Q (F0 m pc ls (.ref (ad k0) :: rest)) :=
  x_get hx hb hts inlX5 hown hw hk0 he rfl 6 (by decide) (hts _ fl_X5_16) (fun _ h => h) hv hdg kk
theorem fl_X5_20 : (Cond.fieldLink RX5 20 "BeaconRingModel" "commitment" "[J") ∈ wsL_law := (List.mem_of_getElem? (i := 63) (by decide +kernel))
theorem gf_X5_20 (hx : p.tables.exec = Jvm.exec) (hb : c.code = cc) (hts : ∀ w ∈ wsL_law, w.before args s = true) (hown : s.vm.findClass RX5 = some m.cls) (hw : WW D vwCl tys A H0 ad N w s H locs) {k0 : Nat} {fs : List Value} (hk0 : k0 < N) (he : w k0 = .inr (4, fs)) {v : Value} (hv : fs[7]? = some v) (hdg : decode cc pc = .ok (.getfield 20, 3)) (kk : W p l e R s m args below meth c H locs cells slots Q (F0 m (pc + 3) ls (v :: rest))) : W p l e R s m args below meth c H locs cells slots Q (F0 m pc ls (.ref (ad k0) :: rest)) :=
  x_get hx hb hts inlX5 hown hw hk0 he rfl 7 (by decide) (hts _ fl_X5_20) (fun _ h => h) hv hdg kk
theorem fl_X5_23 : (Cond.fieldLink RX5 23 "BeaconRingModel" "share" "[J") ∈ wsL_law := (List.mem_of_getElem? (i := 64) (by decide +kernel))
theorem gf_X5_23 (hx : p.tables.exec = Jvm.exec) (hb : c.code = cc) (hts : ∀ w ∈ wsL_law, w.before args s = true) (hown : s.vm.findClass RX5 = some m.cls) (hw : WW D vwCl tys A H0 ad N w s H locs) {k0 : Nat} {fs : List Value} (hk0 : k0 < N) (he : w k0 = .inr (4, fs)) {v : Value} (hv : fs[8]? = some v) (hdg : decode cc pc = .ok (.getfield 23, 3)) (kk : W p l e R s m args below meth c H locs cells slots Q (F0 m (pc + 3) ls (v :: rest))) : W p l e R s m args below meth c H locs cells slots Q (F0 m pc ls (.ref (ad k0) :: rest)) :=
  x_get hx hb hts inlX5 hown hw hk0 he rfl 8 (by decide) (hts _ fl_X5_23) (fun _ h => h) hv hdg kk
theorem fl_X5_26 : (Cond.fieldLink RX5 26 "BeaconRingModel" "complaint" "[Z") ∈ wsL_law := (List.mem_of_getElem? (i := 65) (by decide +kernel))
theorem gf_X5_26 (hx : p.tables.exec = Jvm.exec) (hb : c.code = cc) (hts : ∀ w ∈ wsL_law, w.before args s = true) (hown : s.vm.findClass RX5 = some m.cls) (hw : WW D vwCl tys A H0 ad N w s H locs) {k0 : Nat} {fs : List Value} (hk0 : k0 < N) (he : w k0 = .inr (4, fs)) {v : Value} (hv : fs[9]? = some v) (hdg : decode cc pc = .ok (.getfield 26, 3)) (kk : W p l e R s m args below meth c H locs cells slots Q (F0 m (pc + 3) ls (v :: rest))) : W p l e R s m args below meth c H locs cells slots Q (F0 m pc ls (.ref (ad k0) :: rest)) :=
  x_get hx hb hts inlX5 hown hw hk0 he rfl 9 (by decide) (hts _ fl_X5_26) (fun _ h => h) hv hdg kk
theorem fl_X5_29 : (Cond.fieldLink RX5 29 "BeaconRingModel" "keys" "[J") ∈ wsL_law := (List.mem_of_getElem? (i := 66) (by decide +kernel))
theorem gf_X5_29 (hx : p.tables.exec = Jvm.exec) (hb : c.code = cc) (hts : ∀ w ∈ wsL_law, w.before args s = true) (hown : s.vm.findClass RX5 = some m.cls) (hw : WW D vwCl tys A H0 ad N w s H locs) {k0 : Nat} {fs : List Value} (hk0 : k0 < N) (he : w k0 = .inr (4, fs)) {v : Value} (hv : fs[11]? = some v) (hdg : decode cc pc = .ok (.getfield 29, 3)) (kk : W p l e R s m args below meth c H locs cells slots Q (F0 m (pc + 3) ls (v :: rest))) : W p l e R s m args below meth c H locs cells slots Q (F0 m pc ls (.ref (ad k0) :: rest)) :=
  x_get hx hb hts inlX5 hown hw hk0 he rfl 11 (by decide) (hts _ fl_X5_29) (fun _ h => h) hv hdg kk
theorem fl_X5_32 : (Cond.fieldLink RX5 32 "BeaconRingModel" "shown" "[J") ∈ wsL_law := (List.mem_of_getElem? (i := 67) (by decide +kernel))
theorem gf_X5_32 (hx : p.tables.exec = Jvm.exec) (hb : c.code = cc) (hts : ∀ w ∈ wsL_law, w.before args s = true) (hown : s.vm.findClass RX5 = some m.cls) (hw : WW D vwCl tys A H0 ad N w s H locs) {k0 : Nat} {fs : List Value} (hk0 : k0 < N) (he : w k0 = .inr (4, fs)) {v : Value} (hv : fs[12]? = some v) (hdg : decode cc pc = .ok (.getfield 32, 3)) (kk : W p l e R s m args below meth c H locs cells slots Q (F0 m (pc + 3) ls (v :: rest))) : W p l e R s m args below meth c H locs cells slots Q (F0 m pc ls (.ref (ad k0) :: rest)) :=
  x_get hx hb hts inlX5 hown hw hk0 he rfl 12 (by decide) (hts _ fl_X5_32) (fun _ h => h) hv hdg kk
theorem fl_X5_35 : (Cond.fieldLink RX5 35 "BeaconRingModel" "values" "[J") ∈ wsL_law := (List.mem_of_getElem? (i := 68) (by decide +kernel))
theorem gf_X5_35 (hx : p.tables.exec = Jvm.exec) (hb : c.code = cc) (hts : ∀ w ∈ wsL_law, w.before args s = true) (hown : s.vm.findClass RX5 = some m.cls) (hw : WW D vwCl tys A H0 ad N w s H locs) {k0 : Nat} {fs : List Value} (hk0 : k0 < N) (he : w k0 = .inr (4, fs)) {v : Value} (hv : fs[13]? = some v) (hdg : decode cc pc = .ok (.getfield 35, 3)) (kk : W p l e R s m args below meth c H locs cells slots Q (F0 m (pc + 3) ls (v :: rest))) : W p l e R s m args below meth c H locs cells slots Q (F0 m pc ls (.ref (ad k0) :: rest)) :=
  x_get hx hb hts inlX5 hown hw hk0 he rfl 13 (by decide) (hts _ fl_X5_35) (fun _ h => h) hv hdg kk
theorem fl_X5_38 : (Cond.fieldLink RX5 38 "BeaconRingModel" "parts" "[J") ∈ wsL_law := (List.mem_of_getElem? (i := 69) (by decide +kernel))
theorem gf_X5_38 (hx : p.tables.exec = Jvm.exec) (hb : c.code = cc) (hts : ∀ w ∈ wsL_law, w.before args s = true) (hown : s.vm.findClass RX5 = some m.cls) (hw : WW D vwCl tys A H0 ad N w s H locs) {k0 : Nat} {fs : List Value} (hk0 : k0 < N) (he : w k0 = .inr (4, fs)) {v : Value} (hv : fs[16]? = some v) (hdg : decode cc pc = .ok (.getfield 38, 3)) (kk : W p l e R s m args below meth c H locs cells slots Q (F0 m (pc + 3) ls (v :: rest))) : W p l e R s m args below meth c H locs cells slots Q (F0 m pc ls (.ref (ad k0) :: rest)) :=
  x_get hx hb hts inlX5 hown hw hk0 he rfl 16 (by decide) (hts _ fl_X5_38) (fun _ h => h) hv hdg kk
theorem fl_X4_44 : (Cond.fieldLink RX4 44 "BeaconRing" "n" "I") ∈ wsL_law := (List.mem_of_getElem? (i := 81) (by decide +kernel))
theorem gf_X4_44 (hx : p.tables.exec = Jvm.exec) (hb : c.code = cc) (hts : ∀ w ∈ wsL_law, w.before args s = true) (hown : s.vm.findClass RX4 = some m.cls) (hw : WW D vwCl tys A H0 ad N w s H locs) {k0 : Nat} {fs : List Value} (hk0 : k0 < N) (he : w k0 = .inr (3, fs)) {v : Value} (hv : fs[5]? = some v) (hdg : decode cc pc = .ok (.getfield 44, 3)) (kk : W p l e R s m args below meth c H locs cells slots Q (F0 m (pc + 3) ls (v :: rest))) : W p l e R s m args below meth c H locs cells slots Q (F0 m pc ls (.ref (ad k0) :: rest)) :=
  x_get hx hb hts inlX4 hown hw hk0 he rfl 5 (by decide) (hts _ fl_X4_44) (fun _ h => h) hv hdg kk
theorem pf_X4_44 (hx : p.tables.exec = Jvm.exec) (hb : c.code = cc) (hts : ∀ w ∈ wsL_law, w.before args s = true) (hown : s.vm.findClass RX4 = some m.cls) (hw : WW D vwCl tys A H0 ad N w s H locs) {k0 : Nat} {fs : List Value} (hk0 : k0 < N) (he : w k0 = .inr (3, fs)) {v : Value} (hn : narrow (.int) v = v) (hfit : fits (.int) v = true) (hl : 5 < fs.length) (hdg : decode cc pc = .ok (.putfield 44, 3)) (kk : ∀ (w1 : Nat → va_E) (H1 : Heap) (locs1 : List Loc), w1 = va_up w k0 (.inr (3, fs.set 5 v)) → WW D vwCl tys A H0 ad N w1 s H1 locs1 → W p l e R s m args below meth c H1 locs1 cells slots Q (F0 m (pc + 3) ls rest)) : W p l e R s m args below meth c H locs cells slots Q (F0 m pc ls (v :: .ref (ad k0) :: rest)) :=
  x_put hx hb hts inlX4 tyX4 tyX4_ok nmX4 hown hw hk0 he rfl 5 (by decide) (hts _ fl_X4_44) (fun _ h => h) rfl (by decide +kernel) hn hfit hl hdg kk
theorem fl_X4_48 : (Cond.fieldLink RX4 48 "BeaconRing" "t" "I") ∈ wsL_law := (List.mem_of_getElem? (i := 82) (by decide +kernel))
theorem gf_X4_48 (hx : p.tables.exec = Jvm.exec) (hb : c.code = cc) (hts : ∀ w ∈ wsL_law, w.before args s = true) (hown : s.vm.findClass RX4 = some m.cls) (hw : WW D vwCl tys A H0 ad N w s H locs) {k0 : Nat} {fs : List Value} (hk0 : k0 < N) (he : w k0 = .inr (3, fs)) {v : Value} (hv : fs[6]? = some v) (hdg : decode cc pc = .ok (.getfield 48, 3)) (kk : W p l e R s m args below meth c H locs cells slots Q (F0 m (pc + 3) ls (v :: rest))) : W p l e R s m args below meth c H locs cells slots Q (F0 m pc ls (.ref (ad k0) :: rest)) :=
  x_get hx hb hts inlX4 hown hw hk0 he rfl 6 (by decide) (hts _ fl_X4_48) (fun _ h => h) hv hdg kk
theorem pf_X4_48 (hx : p.tables.exec = Jvm.exec) (hb : c.code = cc) (hts : ∀ w ∈ wsL_law, w.before args s = true) (hown : s.vm.findClass RX4 = some m.cls) (hw : WW D vwCl tys A H0 ad N w s H locs) {k0 : Nat} {fs : List Value} (hk0 : k0 < N) (he : w k0 = .inr (3, fs)) {v : Value} (hn : narrow (.int) v = v) (hfit : fits (.int) v = true) (hl : 6 < fs.length) (hdg : decode cc pc = .ok (.putfield 48, 3)) (kk : ∀ (w1 : Nat → va_E) (H1 : Heap) (locs1 : List Loc), w1 = va_up w k0 (.inr (3, fs.set 6 v)) → WW D vwCl tys A H0 ad N w1 s H1 locs1 → W p l e R s m args below meth c H1 locs1 cells slots Q (F0 m (pc + 3) ls rest)) : W p l e R s m args below meth c H locs cells slots Q (F0 m pc ls (v :: .ref (ad k0) :: rest)) :=
  x_put hx hb hts inlX4 tyX4 tyX4_ok nmX4 hown hw hk0 he rfl 6 (by decide) (hts _ fl_X4_48) (fun _ h => h) rfl (by decide +kernel) hn hfit hl hdg kk
theorem fl_X4_51 : (Cond.fieldLink RX4 51 "BeaconRing" "closed" "Z") ∈ wsL_law := (List.mem_of_getElem? (i := 83) (by decide +kernel))
theorem gf_X4_51 (hx : p.tables.exec = Jvm.exec) (hb : c.code = cc) (hts : ∀ w ∈ wsL_law, w.before args s = true) (hown : s.vm.findClass RX4 = some m.cls) (hw : WW D vwCl tys A H0 ad N w s H locs) {k0 : Nat} {fs : List Value} (hk0 : k0 < N) (he : w k0 = .inr (3, fs)) {v : Value} (hv : fs[7]? = some v) (hdg : decode cc pc = .ok (.getfield 51, 3)) (kk : W p l e R s m args below meth c H locs cells slots Q (F0 m (pc + 3) ls (v :: rest))) : W p l e R s m args below meth c H locs cells slots Q (F0 m pc ls (.ref (ad k0) :: rest)) :=
  x_get hx hb hts inlX4 hown hw hk0 he rfl 7 (by decide) (hts _ fl_X4_51) (fun _ h => h) hv hdg kk
theorem pf_X4_51 (hx : p.tables.exec = Jvm.exec) (hb : c.code = cc) (hts : ∀ w ∈ wsL_law, w.before args s = true) (hown : s.vm.findClass RX4 = some m.cls) (hw : WW D vwCl tys A H0 ad N w s H locs) {k0 : Nat} {fs : List Value} (hk0 : k0 < N) (he : w k0 = .inr (3, fs)) {v : Value} (hn : narrow (.boolean) v = v) (hfit : fits (.boolean) v = true) (hl : 7 < fs.length) (hdg : decode cc pc = .ok (.putfield 51, 3)) (kk : ∀ (w1 : Nat → va_E) (H1 : Heap) (locs1 : List Loc), w1 = va_up w k0 (.inr (3, fs.set 7 v)) → WW D vwCl tys A H0 ad N w1 s H1 locs1 → W p l e R s m args below meth c H1 locs1 cells slots Q (F0 m (pc + 3) ls rest)) : W p l e R s m args below meth c H locs cells slots Q (F0 m pc ls (v :: .ref (ad k0) :: rest)) :=
  x_put hx hb hts inlX4 tyX4 tyX4_ok nmX4 hown hw hk0 he rfl 7 (by decide) (hts _ fl_X4_51) (fun _ h => h) rfl (by decide +kernel) hn hfit hl hdg kk
theorem fl_X4_55 : (Cond.fieldLink RX4 55 "BeaconRing" "qualified" "I") ∈ wsL_law := (List.mem_of_getElem? (i := 84) (by decide +kernel))
theorem gf_X4_55 (hx : p.tables.exec = Jvm.exec) (hb : c.code = cc) (hts : ∀ w ∈ wsL_law, w.before args s = true) (hown : s.vm.findClass RX4 = some m.cls) (hw : WW D vwCl tys A H0 ad N w s H locs) {k0 : Nat} {fs : List Value} (hk0 : k0 < N) (he : w k0 = .inr (3, fs)) {v : Value} (hv : fs[8]? = some v) (hdg : decode cc pc = .ok (.getfield 55, 3)) (kk : W p l e R s m args below meth c H locs cells slots Q (F0 m (pc + 3) ls (v :: rest))) : W p l e R s m args below meth c H locs cells slots Q (F0 m pc ls (.ref (ad k0) :: rest)) :=
  x_get hx hb hts inlX4 hown hw hk0 he rfl 8 (by decide) (hts _ fl_X4_55) (fun _ h => h) hv hdg kk
theorem pf_X4_55 (hx : p.tables.exec = Jvm.exec) (hb : c.code = cc) (hts : ∀ w ∈ wsL_law, w.before args s = true) (hown : s.vm.findClass RX4 = some m.cls) (hw : WW D vwCl tys A H0 ad N w s H locs) {k0 : Nat} {fs : List Value} (hk0 : k0 < N) (he : w k0 = .inr (3, fs)) {v : Value} (hn : narrow (.int) v = v) (hfit : fits (.int) v = true) (hl : 8 < fs.length) (hdg : decode cc pc = .ok (.putfield 55, 3)) (kk : ∀ (w1 : Nat → va_E) (H1 : Heap) (locs1 : List Loc), w1 = va_up w k0 (.inr (3, fs.set 8 v)) → WW D vwCl tys A H0 ad N w1 s H1 locs1 → W p l e R s m args below meth c H1 locs1 cells slots Q (F0 m (pc + 3) ls rest)) : W p l e R s m args below meth c H locs cells slots Q (F0 m pc ls (v :: .ref (ad k0) :: rest)) :=
  x_put hx hb hts inlX4 tyX4 tyX4_ok nmX4 hown hw hk0 he rfl 8 (by decide) (hts _ fl_X4_55) (fun _ h => h) rfl (by decide +kernel) hn hfit hl hdg kk
theorem fl_X0_21 : (Cond.fieldLink RX0 21 "BeaconRing$Dealer" "complaints" "I") ∈ wsL_law := (List.mem_of_getElem? (i := 89) (by decide +kernel))
theorem gf_X0_21 (hx : p.tables.exec = Jvm.exec) (hb : c.code = cc) (hts : ∀ w ∈ wsL_law, w.before args s = true) (hown : s.vm.findClass RX0 = some m.cls) (hw : WW D vwCl tys A H0 ad N w s H locs) {k0 : Nat} {fs : List Value} (hk0 : k0 < N) (he : w k0 = .inr (0, fs)) {v : Value} (hv : fs[3]? = some v) (hdg : decode cc pc = .ok (.getfield 21, 3)) (kk : W p l e R s m args below meth c H locs cells slots Q (F0 m (pc + 3) ls (v :: rest))) : W p l e R s m args below meth c H locs cells slots Q (F0 m pc ls (.ref (ad k0) :: rest)) :=
  x_get hx hb hts inlX0 hown hw hk0 he rfl 3 (by decide) (hts _ fl_X0_21) (fun _ h => h) hv hdg kk
theorem pf_X0_21 (hx : p.tables.exec = Jvm.exec) (hb : c.code = cc) (hts : ∀ w ∈ wsL_law, w.before args s = true) (hown : s.vm.findClass RX0 = some m.cls) (hw : WW D vwCl tys A H0 ad N w s H locs) {k0 : Nat} {fs : List Value} (hk0 : k0 < N) (he : w k0 = .inr (0, fs)) {v : Value} (hn : narrow (.int) v = v) (hfit : fits (.int) v = true) (hl : 3 < fs.length) (hdg : decode cc pc = .ok (.putfield 21, 3)) (kk : ∀ (w1 : Nat → va_E) (H1 : Heap) (locs1 : List Loc), w1 = va_up w k0 (.inr (0, fs.set 3 v)) → WW D vwCl tys A H0 ad N w1 s H1 locs1 → W p l e R s m args below meth c H1 locs1 cells slots Q (F0 m (pc + 3) ls rest)) : W p l e R s m args below meth c H locs cells slots Q (F0 m pc ls (v :: .ref (ad k0) :: rest)) :=
  x_put hx hb hts inlX0 tyX0 tyX0_ok nmX0 hown hw hk0 he rfl 3 (by decide) (hts _ fl_X0_21) (fun _ h => h) rfl (by decide +kernel) hn hfit hl hdg kk
theorem fl_X0_25 : (Cond.fieldLink RX0 25 "BeaconRing$Dealer" "hasDealt" "Z") ∈ wsL_law := (List.mem_of_getElem? (i := 90) (by decide +kernel))
theorem gf_X0_25 (hx : p.tables.exec = Jvm.exec) (hb : c.code = cc) (hts : ∀ w ∈ wsL_law, w.before args s = true) (hown : s.vm.findClass RX0 = some m.cls) (hw : WW D vwCl tys A H0 ad N w s H locs) {k0 : Nat} {fs : List Value} (hk0 : k0 < N) (he : w k0 = .inr (0, fs)) {v : Value} (hv : fs[4]? = some v) (hdg : decode cc pc = .ok (.getfield 25, 3)) (kk : W p l e R s m args below meth c H locs cells slots Q (F0 m (pc + 3) ls (v :: rest))) : W p l e R s m args below meth c H locs cells slots Q (F0 m pc ls (.ref (ad k0) :: rest)) :=
  x_get hx hb hts inlX0 hown hw hk0 he rfl 4 (by decide) (hts _ fl_X0_25) (fun _ h => h) hv hdg kk
theorem pf_X0_25 (hx : p.tables.exec = Jvm.exec) (hb : c.code = cc) (hts : ∀ w ∈ wsL_law, w.before args s = true) (hown : s.vm.findClass RX0 = some m.cls) (hw : WW D vwCl tys A H0 ad N w s H locs) {k0 : Nat} {fs : List Value} (hk0 : k0 < N) (he : w k0 = .inr (0, fs)) {v : Value} (hn : narrow (.boolean) v = v) (hfit : fits (.boolean) v = true) (hl : 4 < fs.length) (hdg : decode cc pc = .ok (.putfield 25, 3)) (kk : ∀ (w1 : Nat → va_E) (H1 : Heap) (locs1 : List Loc), w1 = va_up w k0 (.inr (0, fs.set 4 v)) → WW D vwCl tys A H0 ad N w1 s H1 locs1 → W p l e R s m args below meth c H1 locs1 cells slots Q (F0 m (pc + 3) ls rest)) : W p l e R s m args below meth c H locs cells slots Q (F0 m pc ls (v :: .ref (ad k0) :: rest)) :=
  x_put hx hb hts inlX0 tyX0 tyX0_ok nmX0 hown hw hk0 he rfl 4 (by decide) (hts _ fl_X0_25) (fun _ h => h) rfl (by decide +kernel) hn hfit hl hdg kk
theorem fl_X0_29 : (Cond.fieldLink RX0 29 "BeaconRing$Dealer" "isOut" "Z") ∈ wsL_law := (List.mem_of_getElem? (i := 91) (by decide +kernel))
theorem gf_X0_29 (hx : p.tables.exec = Jvm.exec) (hb : c.code = cc) (hts : ∀ w ∈ wsL_law, w.before args s = true) (hown : s.vm.findClass RX0 = some m.cls) (hw : WW D vwCl tys A H0 ad N w s H locs) {k0 : Nat} {fs : List Value} (hk0 : k0 < N) (he : w k0 = .inr (0, fs)) {v : Value} (hv : fs[5]? = some v) (hdg : decode cc pc = .ok (.getfield 29, 3)) (kk : W p l e R s m args below meth c H locs cells slots Q (F0 m (pc + 3) ls (v :: rest))) : W p l e R s m args below meth c H locs cells slots Q (F0 m pc ls (.ref (ad k0) :: rest)) :=
  x_get hx hb hts inlX0 hown hw hk0 he rfl 5 (by decide) (hts _ fl_X0_29) (fun _ h => h) hv hdg kk
theorem pf_X0_29 (hx : p.tables.exec = Jvm.exec) (hb : c.code = cc) (hts : ∀ w ∈ wsL_law, w.before args s = true) (hown : s.vm.findClass RX0 = some m.cls) (hw : WW D vwCl tys A H0 ad N w s H locs) {k0 : Nat} {fs : List Value} (hk0 : k0 < N) (he : w k0 = .inr (0, fs)) {v : Value} (hn : narrow (.boolean) v = v) (hfit : fits (.boolean) v = true) (hl : 5 < fs.length) (hdg : decode cc pc = .ok (.putfield 29, 3)) (kk : ∀ (w1 : Nat → va_E) (H1 : Heap) (locs1 : List Loc), w1 = va_up w k0 (.inr (0, fs.set 5 v)) → WW D vwCl tys A H0 ad N w1 s H1 locs1 → W p l e R s m args below meth c H1 locs1 cells slots Q (F0 m (pc + 3) ls rest)) : W p l e R s m args below meth c H locs cells slots Q (F0 m pc ls (v :: .ref (ad k0) :: rest)) :=
  x_put hx hb hts inlX0 tyX0 tyX0_ok nmX0 hown hw hk0 he rfl 5 (by decide) (hts _ fl_X0_29) (fun _ h => h) rfl (by decide +kernel) hn hfit hl hdg kk
theorem fl_X2_29 : (Cond.fieldLink RX2 29 "BeaconRing$Rounds" "ended" "I") ∈ wsL_law := (List.mem_of_getElem? (i := 96) (by decide +kernel))
theorem gf_X2_29 (hx : p.tables.exec = Jvm.exec) (hb : c.code = cc) (hts : ∀ w ∈ wsL_law, w.before args s = true) (hown : s.vm.findClass RX2 = some m.cls) (hw : WW D vwCl tys A H0 ad N w s H locs) {k0 : Nat} {fs : List Value} (hk0 : k0 < N) (he : w k0 = .inr (1, fs)) {v : Value} (hv : fs[3]? = some v) (hdg : decode cc pc = .ok (.getfield 29, 3)) (kk : W p l e R s m args below meth c H locs cells slots Q (F0 m (pc + 3) ls (v :: rest))) : W p l e R s m args below meth c H locs cells slots Q (F0 m pc ls (.ref (ad k0) :: rest)) :=
  x_get hx hb hts inlX2 hown hw hk0 he rfl 3 (by decide) (hts _ fl_X2_29) (fun _ h => h) hv hdg kk
theorem pf_X2_29 (hx : p.tables.exec = Jvm.exec) (hb : c.code = cc) (hts : ∀ w ∈ wsL_law, w.before args s = true) (hown : s.vm.findClass RX2 = some m.cls) (hw : WW D vwCl tys A H0 ad N w s H locs) {k0 : Nat} {fs : List Value} (hk0 : k0 < N) (he : w k0 = .inr (1, fs)) {v : Value} (hn : narrow (.int) v = v) (hfit : fits (.int) v = true) (hl : 3 < fs.length) (hdg : decode cc pc = .ok (.putfield 29, 3)) (kk : ∀ (w1 : Nat → va_E) (H1 : Heap) (locs1 : List Loc), w1 = va_up w k0 (.inr (1, fs.set 3 v)) → WW D vwCl tys A H0 ad N w1 s H1 locs1 → W p l e R s m args below meth c H1 locs1 cells slots Q (F0 m (pc + 3) ls rest)) : W p l e R s m args below meth c H locs cells slots Q (F0 m pc ls (v :: .ref (ad k0) :: rest)) :=
  x_put hx hb hts inlX2 tyX2 tyX2_ok nmX2 hown hw hk0 he rfl 3 (by decide) (hts _ fl_X2_29) (fun _ h => h) rfl (by decide +kernel) hn hfit hl hdg kk
theorem fl_X2_33 : (Cond.fieldLink RX2 33 "BeaconRing$Rounds" "kept" "I") ∈ wsL_law := (List.mem_of_getElem? (i := 97) (by decide +kernel))
theorem gf_X2_33 (hx : p.tables.exec = Jvm.exec) (hb : c.code = cc) (hts : ∀ w ∈ wsL_law, w.before args s = true) (hown : s.vm.findClass RX2 = some m.cls) (hw : WW D vwCl tys A H0 ad N w s H locs) {k0 : Nat} {fs : List Value} (hk0 : k0 < N) (he : w k0 = .inr (1, fs)) {v : Value} (hv : fs[4]? = some v) (hdg : decode cc pc = .ok (.getfield 33, 3)) (kk : W p l e R s m args below meth c H locs cells slots Q (F0 m (pc + 3) ls (v :: rest))) : W p l e R s m args below meth c H locs cells slots Q (F0 m pc ls (.ref (ad k0) :: rest)) :=
  x_get hx hb hts inlX2 hown hw hk0 he rfl 4 (by decide) (hts _ fl_X2_33) (fun _ h => h) hv hdg kk
theorem pf_X2_33 (hx : p.tables.exec = Jvm.exec) (hb : c.code = cc) (hts : ∀ w ∈ wsL_law, w.before args s = true) (hown : s.vm.findClass RX2 = some m.cls) (hw : WW D vwCl tys A H0 ad N w s H locs) {k0 : Nat} {fs : List Value} (hk0 : k0 < N) (he : w k0 = .inr (1, fs)) {v : Value} (hn : narrow (.int) v = v) (hfit : fits (.int) v = true) (hl : 4 < fs.length) (hdg : decode cc pc = .ok (.putfield 33, 3)) (kk : ∀ (w1 : Nat → va_E) (H1 : Heap) (locs1 : List Loc), w1 = va_up w k0 (.inr (1, fs.set 4 v)) → WW D vwCl tys A H0 ad N w1 s H1 locs1 → W p l e R s m args below meth c H1 locs1 cells slots Q (F0 m (pc + 3) ls rest)) : W p l e R s m args below meth c H locs cells slots Q (F0 m pc ls (v :: .ref (ad k0) :: rest)) :=
  x_put hx hb hts inlX2 tyX2 tyX2_ok nmX2 hown hw hk0 he rfl 4 (by decide) (hts _ fl_X2_33) (fun _ h => h) rfl (by decide +kernel) hn hfit hl hdg kk
theorem fl_X5_59 : (Cond.fieldLink RX5 59 "BeaconRingModel" "n" "I") ∈ wsL_law := (List.mem_of_getElem? (i := 102) (by decide +kernel))
theorem gf_X5_59 (hx : p.tables.exec = Jvm.exec) (hb : c.code = cc) (hts : ∀ w ∈ wsL_law, w.before args s = true) (hown : s.vm.findClass RX5 = some m.cls) (hw : WW D vwCl tys A H0 ad N w s H locs) {k0 : Nat} {fs : List Value} (hk0 : k0 < N) (he : w k0 = .inr (4, fs)) {v : Value} (hv : fs[1]? = some v) (hdg : decode cc pc = .ok (.getfield 59, 3)) (kk : W p l e R s m args below meth c H locs cells slots Q (F0 m (pc + 3) ls (v :: rest))) : W p l e R s m args below meth c H locs cells slots Q (F0 m pc ls (.ref (ad k0) :: rest)) :=
  x_get hx hb hts inlX5 hown hw hk0 he rfl 1 (by decide) (hts _ fl_X5_59) (fun _ h => h) hv hdg kk
theorem pf_X5_59 (hx : p.tables.exec = Jvm.exec) (hb : c.code = cc) (hts : ∀ w ∈ wsL_law, w.before args s = true) (hown : s.vm.findClass RX5 = some m.cls) (hw : WW D vwCl tys A H0 ad N w s H locs) {k0 : Nat} {fs : List Value} (hk0 : k0 < N) (he : w k0 = .inr (4, fs)) {v : Value} (hn : narrow (.int) v = v) (hfit : fits (.int) v = true) (hl : 1 < fs.length) (hdg : decode cc pc = .ok (.putfield 59, 3)) (kk : ∀ (w1 : Nat → va_E) (H1 : Heap) (locs1 : List Loc), w1 = va_up w k0 (.inr (4, fs.set 1 v)) → WW D vwCl tys A H0 ad N w1 s H1 locs1 → W p l e R s m args below meth c H1 locs1 cells slots Q (F0 m (pc + 3) ls rest)) : W p l e R s m args below meth c H locs cells slots Q (F0 m pc ls (v :: .ref (ad k0) :: rest)) :=
  x_put hx hb hts inlX5 tyX5 tyX5_ok nmX5 hown hw hk0 he rfl 1 (by decide) (hts _ fl_X5_59) (fun _ h => h) rfl (by decide +kernel) hn hfit hl hdg kk
theorem fl_X5_68 : (Cond.fieldLink RX5 68 "BeaconRingModel" "t" "I") ∈ wsL_law := (List.mem_of_getElem? (i := 103) (by decide +kernel))
theorem gf_X5_68 (hx : p.tables.exec = Jvm.exec) (hb : c.code = cc) (hts : ∀ w ∈ wsL_law, w.before args s = true) (hown : s.vm.findClass RX5 = some m.cls) (hw : WW D vwCl tys A H0 ad N w s H locs) {k0 : Nat} {fs : List Value} (hk0 : k0 < N) (he : w k0 = .inr (4, fs)) {v : Value} (hv : fs[2]? = some v) (hdg : decode cc pc = .ok (.getfield 68, 3)) (kk : W p l e R s m args below meth c H locs cells slots Q (F0 m (pc + 3) ls (v :: rest))) : W p l e R s m args below meth c H locs cells slots Q (F0 m pc ls (.ref (ad k0) :: rest)) :=
  x_get hx hb hts inlX5 hown hw hk0 he rfl 2 (by decide) (hts _ fl_X5_68) (fun _ h => h) hv hdg kk
theorem pf_X5_68 (hx : p.tables.exec = Jvm.exec) (hb : c.code = cc) (hts : ∀ w ∈ wsL_law, w.before args s = true) (hown : s.vm.findClass RX5 = some m.cls) (hw : WW D vwCl tys A H0 ad N w s H locs) {k0 : Nat} {fs : List Value} (hk0 : k0 < N) (he : w k0 = .inr (4, fs)) {v : Value} (hn : narrow (.int) v = v) (hfit : fits (.int) v = true) (hl : 2 < fs.length) (hdg : decode cc pc = .ok (.putfield 68, 3)) (kk : ∀ (w1 : Nat → va_E) (H1 : Heap) (locs1 : List Loc), w1 = va_up w k0 (.inr (4, fs.set 2 v)) → WW D vwCl tys A H0 ad N w1 s H1 locs1 → W p l e R s m args below meth c H1 locs1 cells slots Q (F0 m (pc + 3) ls rest)) : W p l e R s m args below meth c H locs cells slots Q (F0 m pc ls (v :: .ref (ad k0) :: rest)) :=
  x_put hx hb hts inlX5 tyX5 tyX5_ok nmX5 hown hw hk0 he rfl 2 (by decide) (hts _ fl_X5_68) (fun _ h => h) rfl (by decide +kernel) hn hfit hl hdg kk
theorem fl_X5_71 : (Cond.fieldLink RX5 71 "BeaconRingModel" "closed" "Z") ∈ wsL_law := (List.mem_of_getElem? (i := 104) (by decide +kernel))
theorem gf_X5_71 (hx : p.tables.exec = Jvm.exec) (hb : c.code = cc) (hts : ∀ w ∈ wsL_law, w.before args s = true) (hown : s.vm.findClass RX5 = some m.cls) (hw : WW D vwCl tys A H0 ad N w s H locs) {k0 : Nat} {fs : List Value} (hk0 : k0 < N) (he : w k0 = .inr (4, fs)) {v : Value} (hv : fs[3]? = some v) (hdg : decode cc pc = .ok (.getfield 71, 3)) (kk : W p l e R s m args below meth c H locs cells slots Q (F0 m (pc + 3) ls (v :: rest))) : W p l e R s m args below meth c H locs cells slots Q (F0 m pc ls (.ref (ad k0) :: rest)) :=
  x_get hx hb hts inlX5 hown hw hk0 he rfl 3 (by decide) (hts _ fl_X5_71) (fun _ h => h) hv hdg kk
theorem pf_X5_71 (hx : p.tables.exec = Jvm.exec) (hb : c.code = cc) (hts : ∀ w ∈ wsL_law, w.before args s = true) (hown : s.vm.findClass RX5 = some m.cls) (hw : WW D vwCl tys A H0 ad N w s H locs) {k0 : Nat} {fs : List Value} (hk0 : k0 < N) (he : w k0 = .inr (4, fs)) {v : Value} (hn : narrow (.boolean) v = v) (hfit : fits (.boolean) v = true) (hl : 3 < fs.length) (hdg : decode cc pc = .ok (.putfield 71, 3)) (kk : ∀ (w1 : Nat → va_E) (H1 : Heap) (locs1 : List Loc), w1 = va_up w k0 (.inr (4, fs.set 3 v)) → WW D vwCl tys A H0 ad N w1 s H1 locs1 → W p l e R s m args below meth c H1 locs1 cells slots Q (F0 m (pc + 3) ls rest)) : W p l e R s m args below meth c H locs cells slots Q (F0 m pc ls (v :: .ref (ad k0) :: rest)) :=
  x_put hx hb hts inlX5 tyX5 tyX5_ok nmX5 hown hw hk0 he rfl 3 (by decide) (hts _ fl_X5_71) (fun _ h => h) rfl (by decide +kernel) hn hfit hl hdg kk
theorem fl_X5_75 : (Cond.fieldLink RX5 75 "BeaconRingModel" "qualified" "I") ∈ wsL_law := (List.mem_of_getElem? (i := 105) (by decide +kernel))
theorem gf_X5_75 (hx : p.tables.exec = Jvm.exec) (hb : c.code = cc) (hts : ∀ w ∈ wsL_law, w.before args s = true) (hown : s.vm.findClass RX5 = some m.cls) (hw : WW D vwCl tys A H0 ad N w s H locs) {k0 : Nat} {fs : List Value} (hk0 : k0 < N) (he : w k0 = .inr (4, fs)) {v : Value} (hv : fs[10]? = some v) (hdg : decode cc pc = .ok (.getfield 75, 3)) (kk : W p l e R s m args below meth c H locs cells slots Q (F0 m (pc + 3) ls (v :: rest))) : W p l e R s m args below meth c H locs cells slots Q (F0 m pc ls (.ref (ad k0) :: rest)) :=
  x_get hx hb hts inlX5 hown hw hk0 he rfl 10 (by decide) (hts _ fl_X5_75) (fun _ h => h) hv hdg kk
theorem pf_X5_75 (hx : p.tables.exec = Jvm.exec) (hb : c.code = cc) (hts : ∀ w ∈ wsL_law, w.before args s = true) (hown : s.vm.findClass RX5 = some m.cls) (hw : WW D vwCl tys A H0 ad N w s H locs) {k0 : Nat} {fs : List Value} (hk0 : k0 < N) (he : w k0 = .inr (4, fs)) {v : Value} (hn : narrow (.int) v = v) (hfit : fits (.int) v = true) (hl : 10 < fs.length) (hdg : decode cc pc = .ok (.putfield 75, 3)) (kk : ∀ (w1 : Nat → va_E) (H1 : Heap) (locs1 : List Loc), w1 = va_up w k0 (.inr (4, fs.set 10 v)) → WW D vwCl tys A H0 ad N w1 s H1 locs1 → W p l e R s m args below meth c H1 locs1 cells slots Q (F0 m (pc + 3) ls rest)) : W p l e R s m args below meth c H locs cells slots Q (F0 m pc ls (v :: .ref (ad k0) :: rest)) :=
  x_put hx hb hts inlX5 tyX5 tyX5_ok nmX5 hown hw hk0 he rfl 10 (by decide) (hts _ fl_X5_75) (fun _ h => h) rfl (by decide +kernel) hn hfit hl hdg kk
theorem fl_X5_78 : (Cond.fieldLink RX5 78 "BeaconRingModel" "rounds" "I") ∈ wsL_law := (List.mem_of_getElem? (i := 106) (by decide +kernel))
theorem gf_X5_78 (hx : p.tables.exec = Jvm.exec) (hb : c.code = cc) (hts : ∀ w ∈ wsL_law, w.before args s = true) (hown : s.vm.findClass RX5 = some m.cls) (hw : WW D vwCl tys A H0 ad N w s H locs) {k0 : Nat} {fs : List Value} (hk0 : k0 < N) (he : w k0 = .inr (4, fs)) {v : Value} (hv : fs[14]? = some v) (hdg : decode cc pc = .ok (.getfield 78, 3)) (kk : W p l e R s m args below meth c H locs cells slots Q (F0 m (pc + 3) ls (v :: rest))) : W p l e R s m args below meth c H locs cells slots Q (F0 m pc ls (.ref (ad k0) :: rest)) :=
  x_get hx hb hts inlX5 hown hw hk0 he rfl 14 (by decide) (hts _ fl_X5_78) (fun _ h => h) hv hdg kk
theorem pf_X5_78 (hx : p.tables.exec = Jvm.exec) (hb : c.code = cc) (hts : ∀ w ∈ wsL_law, w.before args s = true) (hown : s.vm.findClass RX5 = some m.cls) (hw : WW D vwCl tys A H0 ad N w s H locs) {k0 : Nat} {fs : List Value} (hk0 : k0 < N) (he : w k0 = .inr (4, fs)) {v : Value} (hn : narrow (.int) v = v) (hfit : fits (.int) v = true) (hl : 14 < fs.length) (hdg : decode cc pc = .ok (.putfield 78, 3)) (kk : ∀ (w1 : Nat → va_E) (H1 : Heap) (locs1 : List Loc), w1 = va_up w k0 (.inr (4, fs.set 14 v)) → WW D vwCl tys A H0 ad N w1 s H1 locs1 → W p l e R s m args below meth c H1 locs1 cells slots Q (F0 m (pc + 3) ls rest)) : W p l e R s m args below meth c H locs cells slots Q (F0 m pc ls (v :: .ref (ad k0) :: rest)) :=
  x_put hx hb hts inlX5 tyX5 tyX5_ok nmX5 hown hw hk0 he rfl 14 (by decide) (hts _ fl_X5_78) (fun _ h => h) rfl (by decide +kernel) hn hfit hl hdg kk
theorem fl_X5_81 : (Cond.fieldLink RX5 81 "BeaconRingModel" "kept" "I") ∈ wsL_law := (List.mem_of_getElem? (i := 107) (by decide +kernel))
theorem gf_X5_81 (hx : p.tables.exec = Jvm.exec) (hb : c.code = cc) (hts : ∀ w ∈ wsL_law, w.before args s = true) (hown : s.vm.findClass RX5 = some m.cls) (hw : WW D vwCl tys A H0 ad N w s H locs) {k0 : Nat} {fs : List Value} (hk0 : k0 < N) (he : w k0 = .inr (4, fs)) {v : Value} (hv : fs[15]? = some v) (hdg : decode cc pc = .ok (.getfield 81, 3)) (kk : W p l e R s m args below meth c H locs cells slots Q (F0 m (pc + 3) ls (v :: rest))) : W p l e R s m args below meth c H locs cells slots Q (F0 m pc ls (.ref (ad k0) :: rest)) :=
  x_get hx hb hts inlX5 hown hw hk0 he rfl 15 (by decide) (hts _ fl_X5_81) (fun _ h => h) hv hdg kk
theorem pf_X5_81 (hx : p.tables.exec = Jvm.exec) (hb : c.code = cc) (hts : ∀ w ∈ wsL_law, w.before args s = true) (hown : s.vm.findClass RX5 = some m.cls) (hw : WW D vwCl tys A H0 ad N w s H locs) {k0 : Nat} {fs : List Value} (hk0 : k0 < N) (he : w k0 = .inr (4, fs)) {v : Value} (hn : narrow (.int) v = v) (hfit : fits (.int) v = true) (hl : 15 < fs.length) (hdg : decode cc pc = .ok (.putfield 81, 3)) (kk : ∀ (w1 : Nat → va_E) (H1 : Heap) (locs1 : List Loc), w1 = va_up w k0 (.inr (4, fs.set 15 v)) → WW D vwCl tys A H0 ad N w1 s H1 locs1 → W p l e R s m args below meth c H1 locs1 cells slots Q (F0 m (pc + 3) ls rest)) : W p l e R s m args below meth c H locs cells slots Q (F0 m pc ls (v :: .ref (ad k0) :: rest)) :=
  x_put hx hb hts inlX5 tyX5 tyX5_ok nmX5 hown hw hk0 he rfl 15 (by decide) (hts _ fl_X5_81) (fun _ h => h) rfl (by decide +kernel) hn hfit hl hdg kk
theorem fl_X5_41 : (Cond.fieldLink RX5 41 "BeaconRingModel" "code" "I") ∈ wsL_law := (List.mem_of_getElem? (i := 112) (by decide +kernel))
theorem gf_X5_41 (hx : p.tables.exec = Jvm.exec) (hb : c.code = cc) (hts : ∀ w ∈ wsL_law, w.before args s = true) (hown : s.vm.findClass RX5 = some m.cls) (hw : WW D vwCl tys A H0 ad N w s H locs) {k0 : Nat} {fs : List Value} (hk0 : k0 < N) (he : w k0 = .inr (4, fs)) {v : Value} (hv : fs[0]? = some v) (hdg : decode cc pc = .ok (.getfield 41, 3)) (kk : W p l e R s m args below meth c H locs cells slots Q (F0 m (pc + 3) ls (v :: rest))) : W p l e R s m args below meth c H locs cells slots Q (F0 m pc ls (.ref (ad k0) :: rest)) :=
  x_get hx hb hts inlX5 hown hw hk0 he rfl 0 (by decide) (hts _ fl_X5_41) (fun _ h => h) hv hdg kk
theorem pf_X5_41 (hx : p.tables.exec = Jvm.exec) (hb : c.code = cc) (hts : ∀ w ∈ wsL_law, w.before args s = true) (hown : s.vm.findClass RX5 = some m.cls) (hw : WW D vwCl tys A H0 ad N w s H locs) {k0 : Nat} {fs : List Value} (hk0 : k0 < N) (he : w k0 = .inr (4, fs)) {v : Value} (hn : narrow (.int) v = v) (hfit : fits (.int) v = true) (hl : 0 < fs.length) (hdg : decode cc pc = .ok (.putfield 41, 3)) (kk : ∀ (w1 : Nat → va_E) (H1 : Heap) (locs1 : List Loc), w1 = va_up w k0 (.inr (4, fs.set 0 v)) → WW D vwCl tys A H0 ad N w1 s H1 locs1 → W p l e R s m args below meth c H1 locs1 cells slots Q (F0 m (pc + 3) ls rest)) : W p l e R s m args below meth c H locs cells slots Q (F0 m pc ls (v :: .ref (ad k0) :: rest)) :=
  x_put hx hb hts inlX5 tyX5 tyX5_ok nmX5 hown hw hk0 he rfl 0 (by decide) (hts _ fl_X5_41) (fun _ h => h) rfl (by decide +kernel) hn hfit hl hdg kk
theorem fl_X4_69 : (Cond.fieldLink RX4 69 "BeaconRing$Dealer" "hasDealt" "Z") ∈ wsL_law := (List.mem_of_getElem? (i := 127) (by decide +kernel))
theorem gf_X4_69 (hx : p.tables.exec = Jvm.exec) (hb : c.code = cc) (hts : ∀ w ∈ wsL_law, w.before args s = true) (hown : s.vm.findClass RX4 = some m.cls) (hw : WW D vwCl tys A H0 ad N w s H locs) {k0 : Nat} {fs : List Value} (hk0 : k0 < N) (he : w k0 = .inr (0, fs)) {v : Value} (hv : fs[4]? = some v) (hdg : decode cc pc = .ok (.getfield 69, 3)) (kk : W p l e R s m args below meth c H locs cells slots Q (F0 m (pc + 3) ls (v :: rest))) : W p l e R s m args below meth c H locs cells slots Q (F0 m pc ls (.ref (ad k0) :: rest)) :=
  x_get hx hb hts inlX0 hown hw hk0 he rfl 4 (by decide) (hts _ fl_X4_69) (fun _ h => h) hv hdg kk
theorem pf_X4_69 (hx : p.tables.exec = Jvm.exec) (hb : c.code = cc) (hts : ∀ w ∈ wsL_law, w.before args s = true) (hown : s.vm.findClass RX4 = some m.cls) (hw : WW D vwCl tys A H0 ad N w s H locs) {k0 : Nat} {fs : List Value} (hk0 : k0 < N) (he : w k0 = .inr (0, fs)) {v : Value} (hn : narrow (.boolean) v = v) (hfit : fits (.boolean) v = true) (hl : 4 < fs.length) (hdg : decode cc pc = .ok (.putfield 69, 3)) (kk : ∀ (w1 : Nat → va_E) (H1 : Heap) (locs1 : List Loc), w1 = va_up w k0 (.inr (0, fs.set 4 v)) → WW D vwCl tys A H0 ad N w1 s H1 locs1 → W p l e R s m args below meth c H1 locs1 cells slots Q (F0 m (pc + 3) ls rest)) : W p l e R s m args below meth c H locs cells slots Q (F0 m pc ls (v :: .ref (ad k0) :: rest)) :=
  x_put hx hb hts inlX0 tyX0 tyX0_ok nmX0 hown hw hk0 he rfl 4 (by decide) (hts _ fl_X4_69) (fun _ h => h) rfl (by decide +kernel) hn hfit hl hdg kk
theorem fl_X5_45 : (Cond.fieldLink RX5 45 "BeaconRingModel" "hash" "J") ∈ wsL_law := (List.mem_of_getElem? (i := 165) (by decide +kernel))
theorem gf_X5_45 (hx : p.tables.exec = Jvm.exec) (hb : c.code = cc) (hts : ∀ w ∈ wsL_law, w.before args s = true) (hown : s.vm.findClass RX5 = some m.cls) (hw : WW D vwCl tys A H0 ad N w s H locs) {k0 : Nat} {fs : List Value} (hk0 : k0 < N) (he : w k0 = .inr (4, fs)) {v : Value} (hv : fs[17]? = some v) (hdg : decode cc pc = .ok (.getfield 45, 3)) (kk : W p l e R s m args below meth c H locs cells slots Q (F0 m (pc + 3) ls (v :: rest))) : W p l e R s m args below meth c H locs cells slots Q (F0 m pc ls (.ref (ad k0) :: rest)) :=
  x_get hx hb hts inlX5 hown hw hk0 he rfl 17 (by decide) (hts _ fl_X5_45) (fun _ h => h) hv hdg kk
theorem pf_X5_45 (hx : p.tables.exec = Jvm.exec) (hb : c.code = cc) (hts : ∀ w ∈ wsL_law, w.before args s = true) (hown : s.vm.findClass RX5 = some m.cls) (hw : WW D vwCl tys A H0 ad N w s H locs) {k0 : Nat} {fs : List Value} (hk0 : k0 < N) (he : w k0 = .inr (4, fs)) {v : Value} (hn : narrow (.long) v = v) (hfit : fits (.long) v = true) (hl : 17 < fs.length) (hdg : decode cc pc = .ok (.putfield 45, 3)) (kk : ∀ (w1 : Nat → va_E) (H1 : Heap) (locs1 : List Loc), w1 = va_up w k0 (.inr (4, fs.set 17 v)) → WW D vwCl tys A H0 ad N w1 s H1 locs1 → W p l e R s m args below meth c H1 locs1 cells slots Q (F0 m (pc + 3) ls rest)) : W p l e R s m args below meth c H locs cells slots Q (F0 m pc ls (v :: .ref (ad k0) :: rest)) :=
  x_put hx hb hts inlX5 tyX5 tyX5_ok nmX5 hown hw hk0 he rfl 17 (by decide) (hts _ fl_X5_45) (fun _ h => h) rfl (by decide +kernel) hn hfit hl hdg kk
theorem fl_X4_93 : (Cond.fieldLink RX4 93 "BeaconRing$Dealer" "commitments" "[I") ∈ wsL_law := (List.mem_of_getElem? (i := 227) (by decide +kernel))
theorem gf_X4_93 (hx : p.tables.exec = Jvm.exec) (hb : c.code = cc) (hts : ∀ w ∈ wsL_law, w.before args s = true) (hown : s.vm.findClass RX4 = some m.cls) (hw : WW D vwCl tys A H0 ad N w s H locs) {k0 : Nat} {fs : List Value} (hk0 : k0 < N) (he : w k0 = .inr (0, fs)) {v : Value} (hv : fs[0]? = some v) (hdg : decode cc pc = .ok (.getfield 93, 3)) (kk : W p l e R s m args below meth c H locs cells slots Q (F0 m (pc + 3) ls (v :: rest))) : W p l e R s m args below meth c H locs cells slots Q (F0 m pc ls (.ref (ad k0) :: rest)) :=
  x_get hx hb hts inlX0 hown hw hk0 he rfl 0 (by decide) (hts _ fl_X4_93) (fun _ h => h) hv hdg kk
theorem fl_X4_96 : (Cond.fieldLink RX4 96 "BeaconRing$Dealer" "given" "[I") ∈ wsL_law := (List.mem_of_getElem? (i := 239) (by decide +kernel))
theorem gf_X4_96 (hx : p.tables.exec = Jvm.exec) (hb : c.code = cc) (hts : ∀ w ∈ wsL_law, w.before args s = true) (hown : s.vm.findClass RX4 = some m.cls) (hw : WW D vwCl tys A H0 ad N w s H locs) {k0 : Nat} {fs : List Value} (hk0 : k0 < N) (he : w k0 = .inr (0, fs)) {v : Value} (hv : fs[2]? = some v) (hdg : decode cc pc = .ok (.getfield 96, 3)) (kk : W p l e R s m args below meth c H locs cells slots Q (F0 m (pc + 3) ls (v :: rest))) : W p l e R s m args below meth c H locs cells slots Q (F0 m pc ls (.ref (ad k0) :: rest)) :=
  x_get hx hb hts inlX0 hown hw hk0 he rfl 2 (by decide) (hts _ fl_X4_96) (fun _ h => h) hv hdg kk
theorem fl_X4_241 : (Cond.fieldLink RX4 241 "BeaconRing$Dealer" "complaints" "I") ∈ wsL_law := (List.mem_of_getElem? (i := 275) (by decide +kernel))
theorem gf_X4_241 (hx : p.tables.exec = Jvm.exec) (hb : c.code = cc) (hts : ∀ w ∈ wsL_law, w.before args s = true) (hown : s.vm.findClass RX4 = some m.cls) (hw : WW D vwCl tys A H0 ad N w s H locs) {k0 : Nat} {fs : List Value} (hk0 : k0 < N) (he : w k0 = .inr (0, fs)) {v : Value} (hv : fs[3]? = some v) (hdg : decode cc pc = .ok (.getfield 241, 3)) (kk : W p l e R s m args below meth c H locs cells slots Q (F0 m (pc + 3) ls (v :: rest))) : W p l e R s m args below meth c H locs cells slots Q (F0 m pc ls (.ref (ad k0) :: rest)) :=
  x_get hx hb hts inlX0 hown hw hk0 he rfl 3 (by decide) (hts _ fl_X4_241) (fun _ h => h) hv hdg kk
theorem pf_X4_241 (hx : p.tables.exec = Jvm.exec) (hb : c.code = cc) (hts : ∀ w ∈ wsL_law, w.before args s = true) (hown : s.vm.findClass RX4 = some m.cls) (hw : WW D vwCl tys A H0 ad N w s H locs) {k0 : Nat} {fs : List Value} (hk0 : k0 < N) (he : w k0 = .inr (0, fs)) {v : Value} (hn : narrow (.int) v = v) (hfit : fits (.int) v = true) (hl : 3 < fs.length) (hdg : decode cc pc = .ok (.putfield 241, 3)) (kk : ∀ (w1 : Nat → va_E) (H1 : Heap) (locs1 : List Loc), w1 = va_up w k0 (.inr (0, fs.set 3 v)) → WW D vwCl tys A H0 ad N w1 s H1 locs1 → W p l e R s m args below meth c H1 locs1 cells slots Q (F0 m (pc + 3) ls rest)) : W p l e R s m args below meth c H locs cells slots Q (F0 m pc ls (v :: .ref (ad k0) :: rest)) :=
  x_put hx hb hts inlX0 tyX0 tyX0_ok nmX0 hown hw hk0 he rfl 3 (by decide) (hts _ fl_X4_241) (fun _ h => h) rfl (by decide +kernel) hn hfit hl hdg kk
theorem fl_X4_144 : (Cond.fieldLink RX4 144 "BeaconRing" "wholePublicKey" "I") ∈ wsL_law := (List.mem_of_getElem? (i := 330) (by decide +kernel))
theorem gf_X4_144 (hx : p.tables.exec = Jvm.exec) (hb : c.code = cc) (hts : ∀ w ∈ wsL_law, w.before args s = true) (hown : s.vm.findClass RX4 = some m.cls) (hw : WW D vwCl tys A H0 ad N w s H locs) {k0 : Nat} {fs : List Value} (hk0 : k0 < N) (he : w k0 = .inr (3, fs)) {v : Value} (hv : fs[9]? = some v) (hdg : decode cc pc = .ok (.getfield 144, 3)) (kk : W p l e R s m args below meth c H locs cells slots Q (F0 m (pc + 3) ls (v :: rest))) : W p l e R s m args below meth c H locs cells slots Q (F0 m pc ls (.ref (ad k0) :: rest)) :=
  x_get hx hb hts inlX4 hown hw hk0 he rfl 9 (by decide) (hts _ fl_X4_144) (fun _ h => h) hv hdg kk
theorem pf_X4_144 (hx : p.tables.exec = Jvm.exec) (hb : c.code = cc) (hts : ∀ w ∈ wsL_law, w.before args s = true) (hown : s.vm.findClass RX4 = some m.cls) (hw : WW D vwCl tys A H0 ad N w s H locs) {k0 : Nat} {fs : List Value} (hk0 : k0 < N) (he : w k0 = .inr (3, fs)) {v : Value} (hn : narrow (.int) v = v) (hfit : fits (.int) v = true) (hl : 9 < fs.length) (hdg : decode cc pc = .ok (.putfield 144, 3)) (kk : ∀ (w1 : Nat → va_E) (H1 : Heap) (locs1 : List Loc), w1 = va_up w k0 (.inr (3, fs.set 9 v)) → WW D vwCl tys A H0 ad N w1 s H1 locs1 → W p l e R s m args below meth c H1 locs1 cells slots Q (F0 m (pc + 3) ls rest)) : W p l e R s m args below meth c H locs cells slots Q (F0 m pc ls (v :: .ref (ad k0) :: rest)) :=
  x_put hx hb hts inlX4 tyX4 tyX4_ok nmX4 hown hw hk0 he rfl 9 (by decide) (hts _ fl_X4_144) (fun _ h => h) rfl (by decide +kernel) hn hfit hl hdg kk
theorem fl_X2_43 : (Cond.fieldLink RX2 43 "BeaconRing$Rounds" "message" "J") ∈ wsL_law := (List.mem_of_getElem? (i := 347) (by decide +kernel))
theorem gf_X2_43 (hx : p.tables.exec = Jvm.exec) (hb : c.code = cc) (hts : ∀ w ∈ wsL_law, w.before args s = true) (hown : s.vm.findClass RX2 = some m.cls) (hw : WW D vwCl tys A H0 ad N w s H locs) {k0 : Nat} {fs : List Value} (hk0 : k0 < N) (he : w k0 = .inr (1, fs)) {v : Value} (hv : fs[5]? = some v) (hdg : decode cc pc = .ok (.getfield 43, 3)) (kk : W p l e R s m args below meth c H locs cells slots Q (F0 m (pc + 3) ls (v :: rest))) : W p l e R s m args below meth c H locs cells slots Q (F0 m pc ls (.ref (ad k0) :: rest)) :=
  x_get hx hb hts inlX2 hown hw hk0 he rfl 5 (by decide) (hts _ fl_X2_43) (fun _ h => h) hv hdg kk
theorem pf_X2_43 (hx : p.tables.exec = Jvm.exec) (hb : c.code = cc) (hts : ∀ w ∈ wsL_law, w.before args s = true) (hown : s.vm.findClass RX2 = some m.cls) (hw : WW D vwCl tys A H0 ad N w s H locs) {k0 : Nat} {fs : List Value} (hk0 : k0 < N) (he : w k0 = .inr (1, fs)) {v : Value} (hn : narrow (.long) v = v) (hfit : fits (.long) v = true) (hl : 5 < fs.length) (hdg : decode cc pc = .ok (.putfield 43, 3)) (kk : ∀ (w1 : Nat → va_E) (H1 : Heap) (locs1 : List Loc), w1 = va_up w k0 (.inr (1, fs.set 5 v)) → WW D vwCl tys A H0 ad N w1 s H1 locs1 → W p l e R s m args below meth c H1 locs1 cells slots Q (F0 m (pc + 3) ls rest)) : W p l e R s m args below meth c H locs cells slots Q (F0 m pc ls (v :: .ref (ad k0) :: rest)) :=
  x_put hx hb hts inlX2 tyX2 tyX2_ok nmX2 hown hw hk0 he rfl 5 (by decide) (hts _ fl_X2_43) (fun _ h => h) rfl (by decide +kernel) hn hfit hl hdg kk
theorem fl_X2_58 : (Cond.fieldLink RX2 58 "BeaconRing$Rounds" "base" "I") ∈ wsL_law := (List.mem_of_getElem? (i := 349) (by decide +kernel))
theorem gf_X2_58 (hx : p.tables.exec = Jvm.exec) (hb : c.code = cc) (hts : ∀ w ∈ wsL_law, w.before args s = true) (hown : s.vm.findClass RX2 = some m.cls) (hw : WW D vwCl tys A H0 ad N w s H locs) {k0 : Nat} {fs : List Value} (hk0 : k0 < N) (he : w k0 = .inr (1, fs)) {v : Value} (hv : fs[6]? = some v) (hdg : decode cc pc = .ok (.getfield 58, 3)) (kk : W p l e R s m args below meth c H locs cells slots Q (F0 m (pc + 3) ls (v :: rest))) : W p l e R s m args below meth c H locs cells slots Q (F0 m pc ls (.ref (ad k0) :: rest)) :=
  x_get hx hb hts inlX2 hown hw hk0 he rfl 6 (by decide) (hts _ fl_X2_58) (fun _ h => h) hv hdg kk
theorem pf_X2_58 (hx : p.tables.exec = Jvm.exec) (hb : c.code = cc) (hts : ∀ w ∈ wsL_law, w.before args s = true) (hown : s.vm.findClass RX2 = some m.cls) (hw : WW D vwCl tys A H0 ad N w s H locs) {k0 : Nat} {fs : List Value} (hk0 : k0 < N) (he : w k0 = .inr (1, fs)) {v : Value} (hn : narrow (.int) v = v) (hfit : fits (.int) v = true) (hl : 6 < fs.length) (hdg : decode cc pc = .ok (.putfield 58, 3)) (kk : ∀ (w1 : Nat → va_E) (H1 : Heap) (locs1 : List Loc), w1 = va_up w k0 (.inr (1, fs.set 6 v)) → WW D vwCl tys A H0 ad N w1 s H1 locs1 → W p l e R s m args below meth c H1 locs1 cells slots Q (F0 m (pc + 3) ls rest)) : W p l e R s m args below meth c H locs cells slots Q (F0 m pc ls (v :: .ref (ad k0) :: rest)) :=
  x_put hx hb hts inlX2 tyX2 tyX2_ok nmX2 hown hw hk0 he rfl 6 (by decide) (hts _ fl_X2_58) (fun _ h => h) rfl (by decide +kernel) hn hfit hl hdg kk
theorem fl_X4_147 : (Cond.fieldLink RX4 147 "BeaconRing$Rounds" "ended" "I") ∈ wsL_law := (List.mem_of_getElem? (i := 387) (by decide +kernel))
theorem gf_X4_147 (hx : p.tables.exec = Jvm.exec) (hb : c.code = cc) (hts : ∀ w ∈ wsL_law, w.before args s = true) (hown : s.vm.findClass RX4 = some m.cls) (hw : WW D vwCl tys A H0 ad N w s H locs) {k0 : Nat} {fs : List Value} (hk0 : k0 < N) (he : w k0 = .inr (1, fs)) {v : Value} (hv : fs[3]? = some v) (hdg : decode cc pc = .ok (.getfield 147, 3)) (kk : W p l e R s m args below meth c H locs cells slots Q (F0 m (pc + 3) ls (v :: rest))) : W p l e R s m args below meth c H locs cells slots Q (F0 m pc ls (.ref (ad k0) :: rest)) :=
  x_get hx hb hts inlX2 hown hw hk0 he rfl 3 (by decide) (hts _ fl_X4_147) (fun _ h => h) hv hdg kk
theorem pf_X4_147 (hx : p.tables.exec = Jvm.exec) (hb : c.code = cc) (hts : ∀ w ∈ wsL_law, w.before args s = true) (hown : s.vm.findClass RX4 = some m.cls) (hw : WW D vwCl tys A H0 ad N w s H locs) {k0 : Nat} {fs : List Value} (hk0 : k0 < N) (he : w k0 = .inr (1, fs)) {v : Value} (hn : narrow (.int) v = v) (hfit : fits (.int) v = true) (hl : 3 < fs.length) (hdg : decode cc pc = .ok (.putfield 147, 3)) (kk : ∀ (w1 : Nat → va_E) (H1 : Heap) (locs1 : List Loc), w1 = va_up w k0 (.inr (1, fs.set 3 v)) → WW D vwCl tys A H0 ad N w1 s H1 locs1 → W p l e R s m args below meth c H1 locs1 cells slots Q (F0 m (pc + 3) ls rest)) : W p l e R s m args below meth c H locs cells slots Q (F0 m pc ls (v :: .ref (ad k0) :: rest)) :=
  x_put hx hb hts inlX2 tyX2 tyX2_ok nmX2 hown hw hk0 he rfl 3 (by decide) (hts _ fl_X4_147) (fun _ h => h) rfl (by decide +kernel) hn hfit hl hdg kk
theorem fl_X4_150 : (Cond.fieldLink RX4 150 "BeaconRing$Rounds" "base" "I") ∈ wsL_law := (List.mem_of_getElem? (i := 388) (by decide +kernel))
theorem gf_X4_150 (hx : p.tables.exec = Jvm.exec) (hb : c.code = cc) (hts : ∀ w ∈ wsL_law, w.before args s = true) (hown : s.vm.findClass RX4 = some m.cls) (hw : WW D vwCl tys A H0 ad N w s H locs) {k0 : Nat} {fs : List Value} (hk0 : k0 < N) (he : w k0 = .inr (1, fs)) {v : Value} (hv : fs[6]? = some v) (hdg : decode cc pc = .ok (.getfield 150, 3)) (kk : W p l e R s m args below meth c H locs cells slots Q (F0 m (pc + 3) ls (v :: rest))) : W p l e R s m args below meth c H locs cells slots Q (F0 m pc ls (.ref (ad k0) :: rest)) :=
  x_get hx hb hts inlX2 hown hw hk0 he rfl 6 (by decide) (hts _ fl_X4_150) (fun _ h => h) hv hdg kk
theorem pf_X4_150 (hx : p.tables.exec = Jvm.exec) (hb : c.code = cc) (hts : ∀ w ∈ wsL_law, w.before args s = true) (hown : s.vm.findClass RX4 = some m.cls) (hw : WW D vwCl tys A H0 ad N w s H locs) {k0 : Nat} {fs : List Value} (hk0 : k0 < N) (he : w k0 = .inr (1, fs)) {v : Value} (hn : narrow (.int) v = v) (hfit : fits (.int) v = true) (hl : 6 < fs.length) (hdg : decode cc pc = .ok (.putfield 150, 3)) (kk : ∀ (w1 : Nat → va_E) (H1 : Heap) (locs1 : List Loc), w1 = va_up w k0 (.inr (1, fs.set 6 v)) → WW D vwCl tys A H0 ad N w1 s H1 locs1 → W p l e R s m args below meth c H1 locs1 cells slots Q (F0 m (pc + 3) ls rest)) : W p l e R s m args below meth c H locs cells slots Q (F0 m pc ls (v :: .ref (ad k0) :: rest)) :=
  x_put hx hb hts inlX2 tyX2 tyX2_ok nmX2 hown hw hk0 he rfl 6 (by decide) (hts _ fl_X4_150) (fun _ h => h) rfl (by decide +kernel) hn hfit hl hdg kk
theorem fl_X4_153 : (Cond.fieldLink RX4 153 "BeaconRing$Rounds" "kept" "I") ∈ wsL_law := (List.mem_of_getElem? (i := 389) (by decide +kernel))
theorem gf_X4_153 (hx : p.tables.exec = Jvm.exec) (hb : c.code = cc) (hts : ∀ w ∈ wsL_law, w.before args s = true) (hown : s.vm.findClass RX4 = some m.cls) (hw : WW D vwCl tys A H0 ad N w s H locs) {k0 : Nat} {fs : List Value} (hk0 : k0 < N) (he : w k0 = .inr (1, fs)) {v : Value} (hv : fs[4]? = some v) (hdg : decode cc pc = .ok (.getfield 153, 3)) (kk : W p l e R s m args below meth c H locs cells slots Q (F0 m (pc + 3) ls (v :: rest))) : W p l e R s m args below meth c H locs cells slots Q (F0 m pc ls (.ref (ad k0) :: rest)) :=
  x_get hx hb hts inlX2 hown hw hk0 he rfl 4 (by decide) (hts _ fl_X4_153) (fun _ h => h) hv hdg kk
theorem pf_X4_153 (hx : p.tables.exec = Jvm.exec) (hb : c.code = cc) (hts : ∀ w ∈ wsL_law, w.before args s = true) (hown : s.vm.findClass RX4 = some m.cls) (hw : WW D vwCl tys A H0 ad N w s H locs) {k0 : Nat} {fs : List Value} (hk0 : k0 < N) (he : w k0 = .inr (1, fs)) {v : Value} (hn : narrow (.int) v = v) (hfit : fits (.int) v = true) (hl : 4 < fs.length) (hdg : decode cc pc = .ok (.putfield 153, 3)) (kk : ∀ (w1 : Nat → va_E) (H1 : Heap) (locs1 : List Loc), w1 = va_up w k0 (.inr (1, fs.set 4 v)) → WW D vwCl tys A H0 ad N w1 s H1 locs1 → W p l e R s m args below meth c H1 locs1 cells slots Q (F0 m (pc + 3) ls rest)) : W p l e R s m args below meth c H locs cells slots Q (F0 m pc ls (v :: .ref (ad k0) :: rest)) :=
  x_put hx hb hts inlX2 tyX2 tyX2_ok nmX2 hown hw hk0 he rfl 4 (by decide) (hts _ fl_X4_153) (fun _ h => h) rfl (by decide +kernel) hn hfit hl hdg kk
theorem fl_X4_161 : (Cond.fieldLink RX4 161 "BeaconRing$Statement" "part" "I") ∈ wsL_law := (List.mem_of_getElem? (i := 410) (by decide +kernel))
theorem gf_X4_161 (hx : p.tables.exec = Jvm.exec) (hb : c.code = cc) (hts : ∀ w ∈ wsL_law, w.before args s = true) (hown : s.vm.findClass RX4 = some m.cls) (hw : WW D vwCl tys A H0 ad N w s H locs) {k0 : Nat} {fs : List Value} (hk0 : k0 < N) (he : w k0 = .inr (2, fs)) {v : Value} (hv : fs[0]? = some v) (hdg : decode cc pc = .ok (.getfield 161, 3)) (kk : W p l e R s m args below meth c H locs cells slots Q (F0 m (pc + 3) ls (v :: rest))) : W p l e R s m args below meth c H locs cells slots Q (F0 m pc ls (.ref (ad k0) :: rest)) :=
  x_get hx hb hts inlX3 hown hw hk0 he rfl 0 (by decide) (hts _ fl_X4_161) (fun _ h => h) hv hdg kk
theorem pf_X4_161 (hx : p.tables.exec = Jvm.exec) (hb : c.code = cc) (hts : ∀ w ∈ wsL_law, w.before args s = true) (hown : s.vm.findClass RX4 = some m.cls) (hw : WW D vwCl tys A H0 ad N w s H locs) {k0 : Nat} {fs : List Value} (hk0 : k0 < N) (he : w k0 = .inr (2, fs)) {v : Value} (hn : narrow (.int) v = v) (hfit : fits (.int) v = true) (hl : 0 < fs.length) (hdg : decode cc pc = .ok (.putfield 161, 3)) (kk : ∀ (w1 : Nat → va_E) (H1 : Heap) (locs1 : List Loc), w1 = va_up w k0 (.inr (2, fs.set 0 v)) → WW D vwCl tys A H0 ad N w1 s H1 locs1 → W p l e R s m args below meth c H1 locs1 cells slots Q (F0 m (pc + 3) ls rest)) : W p l e R s m args below meth c H locs cells slots Q (F0 m pc ls (v :: .ref (ad k0) :: rest)) :=
  x_put hx hb hts inlX3 tyX3 tyX3_ok nmX3 hown hw hk0 he rfl 0 (by decide) (hts _ fl_X4_161) (fun _ h => h) rfl (by decide +kernel) hn hfit hl hdg kk
theorem fl_X4_164 : (Cond.fieldLink RX4 164 "BeaconRing$Statement" "c" "I") ∈ wsL_law := (List.mem_of_getElem? (i := 411) (by decide +kernel))
theorem gf_X4_164 (hx : p.tables.exec = Jvm.exec) (hb : c.code = cc) (hts : ∀ w ∈ wsL_law, w.before args s = true) (hown : s.vm.findClass RX4 = some m.cls) (hw : WW D vwCl tys A H0 ad N w s H locs) {k0 : Nat} {fs : List Value} (hk0 : k0 < N) (he : w k0 = .inr (2, fs)) {v : Value} (hv : fs[1]? = some v) (hdg : decode cc pc = .ok (.getfield 164, 3)) (kk : W p l e R s m args below meth c H locs cells slots Q (F0 m (pc + 3) ls (v :: rest))) : W p l e R s m args below meth c H locs cells slots Q (F0 m pc ls (.ref (ad k0) :: rest)) :=
  x_get hx hb hts inlX3 hown hw hk0 he rfl 1 (by decide) (hts _ fl_X4_164) (fun _ h => h) hv hdg kk
theorem pf_X4_164 (hx : p.tables.exec = Jvm.exec) (hb : c.code = cc) (hts : ∀ w ∈ wsL_law, w.before args s = true) (hown : s.vm.findClass RX4 = some m.cls) (hw : WW D vwCl tys A H0 ad N w s H locs) {k0 : Nat} {fs : List Value} (hk0 : k0 < N) (he : w k0 = .inr (2, fs)) {v : Value} (hn : narrow (.int) v = v) (hfit : fits (.int) v = true) (hl : 1 < fs.length) (hdg : decode cc pc = .ok (.putfield 164, 3)) (kk : ∀ (w1 : Nat → va_E) (H1 : Heap) (locs1 : List Loc), w1 = va_up w k0 (.inr (2, fs.set 1 v)) → WW D vwCl tys A H0 ad N w1 s H1 locs1 → W p l e R s m args below meth c H1 locs1 cells slots Q (F0 m (pc + 3) ls rest)) : W p l e R s m args below meth c H locs cells slots Q (F0 m pc ls (v :: .ref (ad k0) :: rest)) :=
  x_put hx hb hts inlX3 tyX3 tyX3_ok nmX3 hown hw hk0 he rfl 1 (by decide) (hts _ fl_X4_164) (fun _ h => h) rfl (by decide +kernel) hn hfit hl hdg kk
theorem fl_X4_167 : (Cond.fieldLink RX4 167 "BeaconRing$Statement" "z" "I") ∈ wsL_law := (List.mem_of_getElem? (i := 412) (by decide +kernel))
theorem gf_X4_167 (hx : p.tables.exec = Jvm.exec) (hb : c.code = cc) (hts : ∀ w ∈ wsL_law, w.before args s = true) (hown : s.vm.findClass RX4 = some m.cls) (hw : WW D vwCl tys A H0 ad N w s H locs) {k0 : Nat} {fs : List Value} (hk0 : k0 < N) (he : w k0 = .inr (2, fs)) {v : Value} (hv : fs[2]? = some v) (hdg : decode cc pc = .ok (.getfield 167, 3)) (kk : W p l e R s m args below meth c H locs cells slots Q (F0 m (pc + 3) ls (v :: rest))) : W p l e R s m args below meth c H locs cells slots Q (F0 m pc ls (.ref (ad k0) :: rest)) :=
  x_get hx hb hts inlX3 hown hw hk0 he rfl 2 (by decide) (hts _ fl_X4_167) (fun _ h => h) hv hdg kk
theorem pf_X4_167 (hx : p.tables.exec = Jvm.exec) (hb : c.code = cc) (hts : ∀ w ∈ wsL_law, w.before args s = true) (hown : s.vm.findClass RX4 = some m.cls) (hw : WW D vwCl tys A H0 ad N w s H locs) {k0 : Nat} {fs : List Value} (hk0 : k0 < N) (he : w k0 = .inr (2, fs)) {v : Value} (hn : narrow (.int) v = v) (hfit : fits (.int) v = true) (hl : 2 < fs.length) (hdg : decode cc pc = .ok (.putfield 167, 3)) (kk : ∀ (w1 : Nat → va_E) (H1 : Heap) (locs1 : List Loc), w1 = va_up w k0 (.inr (2, fs.set 2 v)) → WW D vwCl tys A H0 ad N w1 s H1 locs1 → W p l e R s m args below meth c H1 locs1 cells slots Q (F0 m (pc + 3) ls rest)) : W p l e R s m args below meth c H locs cells slots Q (F0 m pc ls (v :: .ref (ad k0) :: rest)) :=
  x_put hx hb hts inlX3 tyX3 tyX3_ok nmX3 hown hw hk0 he rfl 2 (by decide) (hts _ fl_X4_167) (fun _ h => h) rfl (by decide +kernel) hn hfit hl hdg kk
theorem fl_X4_267 : (Cond.fieldLink RX4 267 "BeaconRing$Rounds" "message" "J") ∈ wsL_law := (List.mem_of_getElem? (i := 417) (by decide +kernel))
theorem gf_X4_267 (hx : p.tables.exec = Jvm.exec) (hb : c.code = cc) (hts : ∀ w ∈ wsL_law, w.before args s = true) (hown : s.vm.findClass RX4 = some m.cls) (hw : WW D vwCl tys A H0 ad N w s H locs) {k0 : Nat} {fs : List Value} (hk0 : k0 < N) (he : w k0 = .inr (1, fs)) {v : Value} (hv : fs[5]? = some v) (hdg : decode cc pc = .ok (.getfield 267, 3)) (kk : W p l e R s m args below meth c H locs cells slots Q (F0 m (pc + 3) ls (v :: rest))) : W p l e R s m args below meth c H locs cells slots Q (F0 m pc ls (.ref (ad k0) :: rest)) :=
  x_get hx hb hts inlX2 hown hw hk0 he rfl 5 (by decide) (hts _ fl_X4_267) (fun _ h => h) hv hdg kk
theorem pf_X4_267 (hx : p.tables.exec = Jvm.exec) (hb : c.code = cc) (hts : ∀ w ∈ wsL_law, w.before args s = true) (hown : s.vm.findClass RX4 = some m.cls) (hw : WW D vwCl tys A H0 ad N w s H locs) {k0 : Nat} {fs : List Value} (hk0 : k0 < N) (he : w k0 = .inr (1, fs)) {v : Value} (hn : narrow (.long) v = v) (hfit : fits (.long) v = true) (hl : 5 < fs.length) (hdg : decode cc pc = .ok (.putfield 267, 3)) (kk : ∀ (w1 : Nat → va_E) (H1 : Heap) (locs1 : List Loc), w1 = va_up w k0 (.inr (1, fs.set 5 v)) → WW D vwCl tys A H0 ad N w1 s H1 locs1 → W p l e R s m args below meth c H1 locs1 cells slots Q (F0 m (pc + 3) ls rest)) : W p l e R s m args below meth c H locs cells slots Q (F0 m pc ls (v :: .ref (ad k0) :: rest)) :=
  x_put hx hb hts inlX2 tyX2 tyX2_ok nmX2 hown hw hk0 he rfl 5 (by decide) (hts _ fl_X4_267) (fun _ h => h) rfl (by decide +kernel) hn hfit hl hdg kk
theorem fl_X3_23 : (Cond.fieldLink RX3 23 "BeaconRing$Statement" "part" "I") ∈ wsL_law := (List.mem_of_getElem? (i := 422) (by decide +kernel))
theorem gf_X3_23 (hx : p.tables.exec = Jvm.exec) (hb : c.code = cc) (hts : ∀ w ∈ wsL_law, w.before args s = true) (hown : s.vm.findClass RX3 = some m.cls) (hw : WW D vwCl tys A H0 ad N w s H locs) {k0 : Nat} {fs : List Value} (hk0 : k0 < N) (he : w k0 = .inr (2, fs)) {v : Value} (hv : fs[0]? = some v) (hdg : decode cc pc = .ok (.getfield 23, 3)) (kk : W p l e R s m args below meth c H locs cells slots Q (F0 m (pc + 3) ls (v :: rest))) : W p l e R s m args below meth c H locs cells slots Q (F0 m pc ls (.ref (ad k0) :: rest)) :=
  x_get hx hb hts inlX3 hown hw hk0 he rfl 0 (by decide) (hts _ fl_X3_23) (fun _ h => h) hv hdg kk
theorem pf_X3_23 (hx : p.tables.exec = Jvm.exec) (hb : c.code = cc) (hts : ∀ w ∈ wsL_law, w.before args s = true) (hown : s.vm.findClass RX3 = some m.cls) (hw : WW D vwCl tys A H0 ad N w s H locs) {k0 : Nat} {fs : List Value} (hk0 : k0 < N) (he : w k0 = .inr (2, fs)) {v : Value} (hn : narrow (.int) v = v) (hfit : fits (.int) v = true) (hl : 0 < fs.length) (hdg : decode cc pc = .ok (.putfield 23, 3)) (kk : ∀ (w1 : Nat → va_E) (H1 : Heap) (locs1 : List Loc), w1 = va_up w k0 (.inr (2, fs.set 0 v)) → WW D vwCl tys A H0 ad N w1 s H1 locs1 → W p l e R s m args below meth c H1 locs1 cells slots Q (F0 m (pc + 3) ls rest)) : W p l e R s m args below meth c H locs cells slots Q (F0 m pc ls (v :: .ref (ad k0) :: rest)) :=
  x_put hx hb hts inlX3 tyX3 tyX3_ok nmX3 hown hw hk0 he rfl 0 (by decide) (hts _ fl_X3_23) (fun _ h => h) rfl (by decide +kernel) hn hfit hl hdg kk
theorem fl_X3_33 : (Cond.fieldLink RX3 33 "BeaconRing$Statement" "c" "I") ∈ wsL_law := (List.mem_of_getElem? (i := 423) (by decide +kernel))
theorem gf_X3_33 (hx : p.tables.exec = Jvm.exec) (hb : c.code = cc) (hts : ∀ w ∈ wsL_law, w.before args s = true) (hown : s.vm.findClass RX3 = some m.cls) (hw : WW D vwCl tys A H0 ad N w s H locs) {k0 : Nat} {fs : List Value} (hk0 : k0 < N) (he : w k0 = .inr (2, fs)) {v : Value} (hv : fs[1]? = some v) (hdg : decode cc pc = .ok (.getfield 33, 3)) (kk : W p l e R s m args below meth c H locs cells slots Q (F0 m (pc + 3) ls (v :: rest))) : W p l e R s m args below meth c H locs cells slots Q (F0 m pc ls (.ref (ad k0) :: rest)) :=
  x_get hx hb hts inlX3 hown hw hk0 he rfl 1 (by decide) (hts _ fl_X3_33) (fun _ h => h) hv hdg kk
theorem pf_X3_33 (hx : p.tables.exec = Jvm.exec) (hb : c.code = cc) (hts : ∀ w ∈ wsL_law, w.before args s = true) (hown : s.vm.findClass RX3 = some m.cls) (hw : WW D vwCl tys A H0 ad N w s H locs) {k0 : Nat} {fs : List Value} (hk0 : k0 < N) (he : w k0 = .inr (2, fs)) {v : Value} (hn : narrow (.int) v = v) (hfit : fits (.int) v = true) (hl : 1 < fs.length) (hdg : decode cc pc = .ok (.putfield 33, 3)) (kk : ∀ (w1 : Nat → va_E) (H1 : Heap) (locs1 : List Loc), w1 = va_up w k0 (.inr (2, fs.set 1 v)) → WW D vwCl tys A H0 ad N w1 s H1 locs1 → W p l e R s m args below meth c H1 locs1 cells slots Q (F0 m (pc + 3) ls rest)) : W p l e R s m args below meth c H locs cells slots Q (F0 m pc ls (v :: .ref (ad k0) :: rest)) :=
  x_put hx hb hts inlX3 tyX3 tyX3_ok nmX3 hown hw hk0 he rfl 1 (by decide) (hts _ fl_X3_33) (fun _ h => h) rfl (by decide +kernel) hn hfit hl hdg kk
theorem fl_X3_36 : (Cond.fieldLink RX3 36 "BeaconRing$Statement" "z" "I") ∈ wsL_law := (List.mem_of_getElem? (i := 424) (by decide +kernel))
theorem gf_X3_36 (hx : p.tables.exec = Jvm.exec) (hb : c.code = cc) (hts : ∀ w ∈ wsL_law, w.before args s = true) (hown : s.vm.findClass RX3 = some m.cls) (hw : WW D vwCl tys A H0 ad N w s H locs) {k0 : Nat} {fs : List Value} (hk0 : k0 < N) (he : w k0 = .inr (2, fs)) {v : Value} (hv : fs[2]? = some v) (hdg : decode cc pc = .ok (.getfield 36, 3)) (kk : W p l e R s m args below meth c H locs cells slots Q (F0 m (pc + 3) ls (v :: rest))) : W p l e R s m args below meth c H locs cells slots Q (F0 m pc ls (.ref (ad k0) :: rest)) :=
  x_get hx hb hts inlX3 hown hw hk0 he rfl 2 (by decide) (hts _ fl_X3_36) (fun _ h => h) hv hdg kk
theorem pf_X3_36 (hx : p.tables.exec = Jvm.exec) (hb : c.code = cc) (hts : ∀ w ∈ wsL_law, w.before args s = true) (hown : s.vm.findClass RX3 = some m.cls) (hw : WW D vwCl tys A H0 ad N w s H locs) {k0 : Nat} {fs : List Value} (hk0 : k0 < N) (he : w k0 = .inr (2, fs)) {v : Value} (hn : narrow (.int) v = v) (hfit : fits (.int) v = true) (hl : 2 < fs.length) (hdg : decode cc pc = .ok (.putfield 36, 3)) (kk : ∀ (w1 : Nat → va_E) (H1 : Heap) (locs1 : List Loc), w1 = va_up w k0 (.inr (2, fs.set 2 v)) → WW D vwCl tys A H0 ad N w1 s H1 locs1 → W p l e R s m args below meth c H1 locs1 cells slots Q (F0 m (pc + 3) ls rest)) : W p l e R s m args below meth c H locs cells slots Q (F0 m pc ls (v :: .ref (ad k0) :: rest)) :=
  x_put hx hb hts inlX3 tyX3 tyX3_ok nmX3 hown hw hk0 he rfl 2 (by decide) (hts _ fl_X3_36) (fun _ h => h) rfl (by decide +kernel) hn hfit hl hdg kk
theorem fl_X4_204 : (Cond.fieldLink RX4 204 "BeaconRing$Rounds" "values" "[J") ∈ wsL_law := (List.mem_of_getElem? (i := 553) (by decide +kernel))
theorem gf_X4_204 (hx : p.tables.exec = Jvm.exec) (hb : c.code = cc) (hts : ∀ w ∈ wsL_law, w.before args s = true) (hown : s.vm.findClass RX4 = some m.cls) (hw : WW D vwCl tys A H0 ad N w s H locs) {k0 : Nat} {fs : List Value} (hk0 : k0 < N) (he : w k0 = .inr (1, fs)) {v : Value} (hv : fs[0]? = some v) (hdg : decode cc pc = .ok (.getfield 204, 3)) (kk : W p l e R s m args below meth c H locs cells slots Q (F0 m (pc + 3) ls (v :: rest))) : W p l e R s m args below meth c H locs cells slots Q (F0 m pc ls (.ref (ad k0) :: rest)) :=
  x_get hx hb hts inlX2 hown hw hk0 he rfl 0 (by decide) (hts _ fl_X4_204) (fun _ h => h) hv hdg kk
theorem fl_X4_244 : (Cond.fieldLink RX4 244 "BeaconRing$Dealer" "isOut" "Z") ∈ wsL_law := (List.mem_of_getElem? (i := 589) (by decide +kernel))
theorem gf_X4_244 (hx : p.tables.exec = Jvm.exec) (hb : c.code = cc) (hts : ∀ w ∈ wsL_law, w.before args s = true) (hown : s.vm.findClass RX4 = some m.cls) (hw : WW D vwCl tys A H0 ad N w s H locs) {k0 : Nat} {fs : List Value} (hk0 : k0 < N) (he : w k0 = .inr (0, fs)) {v : Value} (hv : fs[5]? = some v) (hdg : decode cc pc = .ok (.getfield 244, 3)) (kk : W p l e R s m args below meth c H locs cells slots Q (F0 m (pc + 3) ls (v :: rest))) : W p l e R s m args below meth c H locs cells slots Q (F0 m pc ls (.ref (ad k0) :: rest)) :=
  x_get hx hb hts inlX0 hown hw hk0 he rfl 5 (by decide) (hts _ fl_X4_244) (fun _ h => h) hv hdg kk
theorem pf_X4_244 (hx : p.tables.exec = Jvm.exec) (hb : c.code = cc) (hts : ∀ w ∈ wsL_law, w.before args s = true) (hown : s.vm.findClass RX4 = some m.cls) (hw : WW D vwCl tys A H0 ad N w s H locs) {k0 : Nat} {fs : List Value} (hk0 : k0 < N) (he : w k0 = .inr (0, fs)) {v : Value} (hn : narrow (.boolean) v = v) (hfit : fits (.boolean) v = true) (hl : 5 < fs.length) (hdg : decode cc pc = .ok (.putfield 244, 3)) (kk : ∀ (w1 : Nat → va_E) (H1 : Heap) (locs1 : List Loc), w1 = va_up w k0 (.inr (0, fs.set 5 v)) → WW D vwCl tys A H0 ad N w1 s H1 locs1 → W p l e R s m args below meth c H1 locs1 cells slots Q (F0 m (pc + 3) ls rest)) : W p l e R s m args below meth c H locs cells slots Q (F0 m pc ls (v :: .ref (ad k0) :: rest)) :=
  x_put hx hb hts inlX0 tyX0 tyX0_ok nmX0 hown hw hk0 he rfl 5 (by decide) (hts _ fl_X4_244) (fun _ h => h) rfl (by decide +kernel) hn hfit hl hdg kk
end XW
theorem if_L_79 : IF RL 79 yX4_init cX4_init 2 0 := ⟨(List.mem_of_getElem? (i := 10) (by decide +kernel)), (List.mem_of_getElem? (i := 2) (by decide +kernel)), (List.mem_of_getElem? (i := 8) (by decide +kernel)), (List.mem_of_getElem? (i := 9) (by decide +kernel)), by decide +kernel, ⟨by decide +kernel, by decide +kernel⟩, by decide +kernel⟩
theorem if_X4_25 : IF RX4 25 yX2_init cX2_init 3 0 := ⟨(List.mem_of_getElem? (i := 37) (by decide +kernel)), (List.mem_of_getElem? (i := 23) (by decide +kernel)), (List.mem_of_getElem? (i := 35) (by decide +kernel)), (List.mem_of_getElem? (i := 36) (by decide +kernel)), by decide +kernel, ⟨by decide +kernel, by decide +kernel⟩, by decide +kernel⟩
theorem sf_X2_25 : SF RX2 25 yX1_toExponent cX1_toExponent 2 (some .int) 1 := ⟨(List.mem_of_getElem? (i := 46) (by decide +kernel)), (List.mem_of_getElem? (i := 45) (by decide +kernel)), (List.mem_of_getElem? (i := 43) (by decide +kernel)), (List.mem_of_getElem? (i := 44) (by decide +kernel)), ⟨by decide +kernel, by decide +kernel⟩, by decide +kernel⟩
theorem sf_X1_26 : SF RX1 26 yJ9_floorMod_f86c9 cJ9_floorMod_f86c9 6 (some .long) 2 := ⟨(List.mem_of_getElem? (i := 51) (by decide +kernel)), (List.mem_of_getElem? (i := 50) (by decide +kernel)), (List.mem_of_getElem? (i := 48) (by decide +kernel)), (List.mem_of_getElem? (i := 49) (by decide +kernel)), ⟨by decide +kernel, by decide +kernel⟩, by decide +kernel⟩
theorem if_L_82 : IF RL 82 yX5_init cX5_init 1 0 := ⟨(List.mem_of_getElem? (i := 57) (by decide +kernel)), (List.mem_of_getElem? (i := 5) (by decide +kernel)), (List.mem_of_getElem? (i := 55) (by decide +kernel)), (List.mem_of_getElem? (i := 56) (by decide +kernel)), by decide +kernel, ⟨by decide +kernel, by decide +kernel⟩, by decide +kernel⟩
theorem vf_L_7 : VF RL 7 yX4_begin cX4_begin 4 none 2 := ⟨(List.mem_of_getElem? (i := 78) (by decide +kernel)), (List.mem_of_getElem? (i := 2) (by decide +kernel)), (List.mem_of_getElem? (i := 75) (by decide +kernel)), (List.mem_of_getElem? (i := 76) (by decide +kernel)), (List.mem_of_getElem? (i := 77) (by decide +kernel)), ⟨by decide +kernel, by decide +kernel⟩, by decide +kernel⟩
theorem vf_X4_58 : VF RX4 58 yX0_forget cX0_forget 1 none 0 := ⟨(List.mem_of_getElem? (i := 88) (by decide +kernel)), (List.mem_of_getElem? (i := 17) (by decide +kernel)), (List.mem_of_getElem? (i := 85) (by decide +kernel)), (List.mem_of_getElem? (i := 86) (by decide +kernel)), (List.mem_of_getElem? (i := 87) (by decide +kernel)), ⟨by decide +kernel, by decide +kernel⟩, by decide +kernel⟩
theorem vf_X4_61 : VF RX4 61 yX2_forget cX2_forget 1 none 0 := ⟨(List.mem_of_getElem? (i := 95) (by decide +kernel)), (List.mem_of_getElem? (i := 23) (by decide +kernel)), (List.mem_of_getElem? (i := 92) (by decide +kernel)), (List.mem_of_getElem? (i := 93) (by decide +kernel)), (List.mem_of_getElem? (i := 94) (by decide +kernel)), ⟨by decide +kernel, by decide +kernel⟩, by decide +kernel⟩
theorem vf_L_88 : VF RL 88 yX5_begin cX5_begin 4 none 2 := ⟨(List.mem_of_getElem? (i := 101) (by decide +kernel)), (List.mem_of_getElem? (i := 5) (by decide +kernel)), (List.mem_of_getElem? (i := 98) (by decide +kernel)), (List.mem_of_getElem? (i := 99) (by decide +kernel)), (List.mem_of_getElem? (i := 100) (by decide +kernel)), ⟨by decide +kernel, by decide +kernel⟩, by decide +kernel⟩
theorem vf_X5_64 : VF RX5 64 yX5_refuses cX5_refuses 2 (some .boolean) 1 := ⟨(List.mem_of_getElem? (i := 111) (by decide +kernel)), (List.mem_of_getElem? (i := 5) (by decide +kernel)), (List.mem_of_getElem? (i := 108) (by decide +kernel)), (List.mem_of_getElem? (i := 109) (by decide +kernel)), (List.mem_of_getElem? (i := 110) (by decide +kernel)), ⟨by decide +kernel, by decide +kernel⟩, by decide +kernel⟩
theorem vf_L_89 : VF RL 89 yX5_thrown cX5_thrown 1 (some .int) 0 := ⟨(List.mem_of_getElem? (i := 116) (by decide +kernel)), (List.mem_of_getElem? (i := 5) (by decide +kernel)), (List.mem_of_getElem? (i := 113) (by decide +kernel)), (List.mem_of_getElem? (i := 114) (by decide +kernel)), (List.mem_of_getElem? (i := 115) (by decide +kernel)), ⟨by decide +kernel, by decide +kernel⟩, by decide +kernel⟩
theorem vf_L_15 : VF RL 15 yX4_deal cX4_deal 4 none 2 := ⟨(List.mem_of_getElem? (i := 124) (by decide +kernel)), (List.mem_of_getElem? (i := 2) (by decide +kernel)), (List.mem_of_getElem? (i := 121) (by decide +kernel)), (List.mem_of_getElem? (i := 122) (by decide +kernel)), (List.mem_of_getElem? (i := 123) (by decide +kernel)), ⟨by decide +kernel, by decide +kernel⟩, by decide +kernel⟩
theorem vf_X4_62 : VF RX4 62 yX4_needNode cX4_needNode 2 none 1 := ⟨(List.mem_of_getElem? (i := 131) (by decide +kernel)), (List.mem_of_getElem? (i := 2) (by decide +kernel)), (List.mem_of_getElem? (i := 128) (by decide +kernel)), (List.mem_of_getElem? (i := 129) (by decide +kernel)), (List.mem_of_getElem? (i := 130) (by decide +kernel)), ⟨by decide +kernel, by decide +kernel⟩, by decide +kernel⟩
theorem vf_X4_66 : VF RX4 66 yX4_needOpen cX4_needOpen 1 none 0 := ⟨(List.mem_of_getElem? (i := 135) (by decide +kernel)), (List.mem_of_getElem? (i := 2) (by decide +kernel)), (List.mem_of_getElem? (i := 132) (by decide +kernel)), (List.mem_of_getElem? (i := 133) (by decide +kernel)), (List.mem_of_getElem? (i := 134) (by decide +kernel)), ⟨by decide +kernel, by decide +kernel⟩, by decide +kernel⟩
theorem vf_X4_77 : VF RX4 77 yX0_dealBySeed cX0_dealBySeed 9 none 4 := ⟨(List.mem_of_getElem? (i := 139) (by decide +kernel)), (List.mem_of_getElem? (i := 17) (by decide +kernel)), (List.mem_of_getElem? (i := 136) (by decide +kernel)), (List.mem_of_getElem? (i := 137) (by decide +kernel)), (List.mem_of_getElem? (i := 138) (by decide +kernel)), ⟨by decide +kernel, by decide +kernel⟩, by decide +kernel⟩
theorem sf_X0_32 : SF RX0 32 yX1_hash cX1_hash 4 (some .long) 2 := ⟨(List.mem_of_getElem? (i := 142) (by decide +kernel)), (List.mem_of_getElem? (i := 45) (by decide +kernel)), (List.mem_of_getElem? (i := 140) (by decide +kernel)), (List.mem_of_getElem? (i := 141) (by decide +kernel)), ⟨by decide +kernel, by decide +kernel⟩, by decide +kernel⟩
theorem sf_X1_32 : SF RX1 32 yX1_stir cX1_stir 6 (some .long) 2 := ⟨(List.mem_of_getElem? (i := 145) (by decide +kernel)), (List.mem_of_getElem? (i := 45) (by decide +kernel)), (List.mem_of_getElem? (i := 143) (by decide +kernel)), (List.mem_of_getElem? (i := 144) (by decide +kernel)), ⟨by decide +kernel, by decide +kernel⟩, by decide +kernel⟩
theorem sf_X0_38 : SF RX0 38 yX1_stir cX1_stir 6 (some .long) 2 := ⟨(List.mem_of_getElem? (i := 145) (by decide +kernel)), (List.mem_of_getElem? (i := 45) (by decide +kernel)), (List.mem_of_getElem? (i := 149) (by decide +kernel)), (List.mem_of_getElem? (i := 144) (by decide +kernel)), ⟨by decide +kernel, by decide +kernel⟩, by decide +kernel⟩
theorem sf_X0_41 : SF RX0 41 yX1_toExponent cX1_toExponent 2 (some .int) 1 := ⟨(List.mem_of_getElem? (i := 46) (by decide +kernel)), (List.mem_of_getElem? (i := 45) (by decide +kernel)), (List.mem_of_getElem? (i := 150) (by decide +kernel)), (List.mem_of_getElem? (i := 44) (by decide +kernel)), ⟨by decide +kernel, by decide +kernel⟩, by decide +kernel⟩
theorem sf_X0_45 : SF RX0 45 yX1_power cX1_power 4 (some .int) 2 := ⟨(List.mem_of_getElem? (i := 153) (by decide +kernel)), (List.mem_of_getElem? (i := 45) (by decide +kernel)), (List.mem_of_getElem? (i := 151) (by decide +kernel)), (List.mem_of_getElem? (i := 152) (by decide +kernel)), ⟨by decide +kernel, by decide +kernel⟩, by decide +kernel⟩
theorem sf_X1_11 : SF RX1 11 yX1_times cX1_times 2 (some .int) 2 := ⟨(List.mem_of_getElem? (i := 156) (by decide +kernel)), (List.mem_of_getElem? (i := 45) (by decide +kernel)), (List.mem_of_getElem? (i := 154) (by decide +kernel)), (List.mem_of_getElem? (i := 155) (by decide +kernel)), ⟨by decide +kernel, by decide +kernel⟩, by decide +kernel⟩
theorem sf_X1_15 : SF RX1 15 yX1_hasBit cX1_hasBit 2 (some .boolean) 2 := ⟨(List.mem_of_getElem? (i := 160) (by decide +kernel)), (List.mem_of_getElem? (i := 45) (by decide +kernel)), (List.mem_of_getElem? (i := 158) (by decide +kernel)), (List.mem_of_getElem? (i := 159) (by decide +kernel)), ⟨by decide +kernel, by decide +kernel⟩, by decide +kernel⟩
theorem vf_L_97 : VF RL 97 yX5_deal cX5_deal 5 none 2 := ⟨(List.mem_of_getElem? (i := 164) (by decide +kernel)), (List.mem_of_getElem? (i := 5) (by decide +kernel)), (List.mem_of_getElem? (i := 161) (by decide +kernel)), (List.mem_of_getElem? (i := 162) (by decide +kernel)), (List.mem_of_getElem? (i := 163) (by decide +kernel)), ⟨by decide +kernel, by decide +kernel⟩, by decide +kernel⟩
theorem vf_X5_84 : VF RX5 84 yX5_isNode cX5_isNode 2 (some .boolean) 1 := ⟨(List.mem_of_getElem? (i := 172) (by decide +kernel)), (List.mem_of_getElem? (i := 5) (by decide +kernel)), (List.mem_of_getElem? (i := 169) (by decide +kernel)), (List.mem_of_getElem? (i := 170) (by decide +kernel)), (List.mem_of_getElem? (i := 171) (by decide +kernel)), ⟨by decide +kernel, by decide +kernel⟩, by decide +kernel⟩
theorem vf_X5_87 : VF RX5 87 yX5_hashes cX5_hashes 3 none 1 := ⟨(List.mem_of_getElem? (i := 176) (by decide +kernel)), (List.mem_of_getElem? (i := 5) (by decide +kernel)), (List.mem_of_getElem? (i := 173) (by decide +kernel)), (List.mem_of_getElem? (i := 174) (by decide +kernel)), (List.mem_of_getElem? (i := 175) (by decide +kernel)), ⟨by decide +kernel, by decide +kernel⟩, by decide +kernel⟩
theorem sf_X5_55 : SF RX5 55 yX5_rest cX5_rest 6 (some .long) 2 := ⟨(List.mem_of_getElem? (i := 182) (by decide +kernel)), (List.mem_of_getElem? (i := 5) (by decide +kernel)), (List.mem_of_getElem? (i := 180) (by decide +kernel)), (List.mem_of_getElem? (i := 181) (by decide +kernel)), ⟨by decide +kernel, by decide +kernel⟩, by decide +kernel⟩
theorem sf_X5_95 : SF RX5 95 yX5_power cX5_power 12 (some .long) 3 := ⟨(List.mem_of_getElem? (i := 185) (by decide +kernel)), (List.mem_of_getElem? (i := 5) (by decide +kernel)), (List.mem_of_getElem? (i := 183) (by decide +kernel)), (List.mem_of_getElem? (i := 184) (by decide +kernel)), ⟨by decide +kernel, by decide +kernel⟩, by decide +kernel⟩
theorem vf_X5_99 : VF RX5 99 yX5_right cX5_right 8 (some .long) 2 := ⟨(List.mem_of_getElem? (i := 189) (by decide +kernel)), (List.mem_of_getElem? (i := 5) (by decide +kernel)), (List.mem_of_getElem? (i := 186) (by decide +kernel)), (List.mem_of_getElem? (i := 187) (by decide +kernel)), (List.mem_of_getElem? (i := 188) (by decide +kernel)), ⟨by decide +kernel, by decide +kernel⟩, by decide +kernel⟩
theorem vf_L_21 : VF RL 21 yX4_spoil cX4_spoil 4 (some .int) 3 := ⟨(List.mem_of_getElem? (i := 196) (by decide +kernel)), (List.mem_of_getElem? (i := 2) (by decide +kernel)), (List.mem_of_getElem? (i := 193) (by decide +kernel)), (List.mem_of_getElem? (i := 194) (by decide +kernel)), (List.mem_of_getElem? (i := 195) (by decide +kernel)), ⟨by decide +kernel, by decide +kernel⟩, by decide +kernel⟩
theorem vf_X4_81 : VF RX4 81 yX4_needExponent cX4_needExponent 2 none 1 := ⟨(List.mem_of_getElem? (i := 200) (by decide +kernel)), (List.mem_of_getElem? (i := 2) (by decide +kernel)), (List.mem_of_getElem? (i := 197) (by decide +kernel)), (List.mem_of_getElem? (i := 198) (by decide +kernel)), (List.mem_of_getElem? (i := 199) (by decide +kernel)), ⟨by decide +kernel, by decide +kernel⟩, by decide +kernel⟩
theorem sf_X4_224 : SF RX4 224 yX1_isExponent cX1_isExponent 1 (some .boolean) 1 := ⟨(List.mem_of_getElem? (i := 203) (by decide +kernel)), (List.mem_of_getElem? (i := 45) (by decide +kernel)), (List.mem_of_getElem? (i := 201) (by decide +kernel)), (List.mem_of_getElem? (i := 202) (by decide +kernel)), ⟨by decide +kernel, by decide +kernel⟩, by decide +kernel⟩
theorem vf_X4_84 : VF RX4 84 yX4_needDealt cX4_needDealt 2 none 1 := ⟨(List.mem_of_getElem? (i := 208) (by decide +kernel)), (List.mem_of_getElem? (i := 2) (by decide +kernel)), (List.mem_of_getElem? (i := 205) (by decide +kernel)), (List.mem_of_getElem? (i := 206) (by decide +kernel)), (List.mem_of_getElem? (i := 207) (by decide +kernel)), ⟨by decide +kernel, by decide +kernel⟩, by decide +kernel⟩
theorem vf_X4_87 : VF RX4 87 yX0_addToGiven cX0_addToGiven 4 (some .int) 2 := ⟨(List.mem_of_getElem? (i := 212) (by decide +kernel)), (List.mem_of_getElem? (i := 17) (by decide +kernel)), (List.mem_of_getElem? (i := 209) (by decide +kernel)), (List.mem_of_getElem? (i := 210) (by decide +kernel)), (List.mem_of_getElem? (i := 211) (by decide +kernel)), ⟨by decide +kernel, by decide +kernel⟩, by decide +kernel⟩
theorem vf_L_101 : VF RL 101 yX5_spoil cX5_spoil 6 (some .int) 3 := ⟨(List.mem_of_getElem? (i := 216) (by decide +kernel)), (List.mem_of_getElem? (i := 5) (by decide +kernel)), (List.mem_of_getElem? (i := 213) (by decide +kernel)), (List.mem_of_getElem? (i := 214) (by decide +kernel)), (List.mem_of_getElem? (i := 215) (by decide +kernel)), ⟨by decide +kernel, by decide +kernel⟩, by decide +kernel⟩
theorem sf_X5_103 : SF RX5 103 yX5_isExponent cX5_isExponent 1 (some .boolean) 1 := ⟨(List.mem_of_getElem? (i := 219) (by decide +kernel)), (List.mem_of_getElem? (i := 5) (by decide +kernel)), (List.mem_of_getElem? (i := 217) (by decide +kernel)), (List.mem_of_getElem? (i := 218) (by decide +kernel)), ⟨by decide +kernel, by decide +kernel⟩, by decide +kernel⟩
theorem vf_L_25 : VF RL 25 yX4_commitment cX4_commitment 3 (some .int) 2 := ⟨(List.mem_of_getElem? (i := 226) (by decide +kernel)), (List.mem_of_getElem? (i := 2) (by decide +kernel)), (List.mem_of_getElem? (i := 223) (by decide +kernel)), (List.mem_of_getElem? (i := 224) (by decide +kernel)), (List.mem_of_getElem? (i := 225) (by decide +kernel)), ⟨by decide +kernel, by decide +kernel⟩, by decide +kernel⟩
theorem vf_L_105 : VF RL 105 yX5_commitment cX5_commitment 3 (some .int) 2 := ⟨(List.mem_of_getElem? (i := 231) (by decide +kernel)), (List.mem_of_getElem? (i := 5) (by decide +kernel)), (List.mem_of_getElem? (i := 228) (by decide +kernel)), (List.mem_of_getElem? (i := 229) (by decide +kernel)), (List.mem_of_getElem? (i := 230) (by decide +kernel)), ⟨by decide +kernel, by decide +kernel⟩, by decide +kernel⟩
theorem vf_L_29 : VF RL 29 yX4_share cX4_share 3 (some .int) 2 := ⟨(List.mem_of_getElem? (i := 238) (by decide +kernel)), (List.mem_of_getElem? (i := 2) (by decide +kernel)), (List.mem_of_getElem? (i := 235) (by decide +kernel)), (List.mem_of_getElem? (i := 236) (by decide +kernel)), (List.mem_of_getElem? (i := 237) (by decide +kernel)), ⟨by decide +kernel, by decide +kernel⟩, by decide +kernel⟩
theorem vf_L_108 : VF RL 108 yX5_share cX5_share 3 (some .int) 2 := ⟨(List.mem_of_getElem? (i := 243) (by decide +kernel)), (List.mem_of_getElem? (i := 5) (by decide +kernel)), (List.mem_of_getElem? (i := 240) (by decide +kernel)), (List.mem_of_getElem? (i := 241) (by decide +kernel)), (List.mem_of_getElem? (i := 242) (by decide +kernel)), ⟨by decide +kernel, by decide +kernel⟩, by decide +kernel⟩
theorem vf_L_32 : VF RL 32 yX4_isRight cX4_isRight 4 (some .boolean) 3 := ⟨(List.mem_of_getElem? (i := 250) (by decide +kernel)), (List.mem_of_getElem? (i := 2) (by decide +kernel)), (List.mem_of_getElem? (i := 247) (by decide +kernel)), (List.mem_of_getElem? (i := 248) (by decide +kernel)), (List.mem_of_getElem? (i := 249) (by decide +kernel)), ⟨by decide +kernel, by decide +kernel⟩, by decide +kernel⟩
theorem vf_X4_99 : VF RX4 99 yX0_isRightShare cX0_isRightShare 3 (some .boolean) 2 := ⟨(List.mem_of_getElem? (i := 254) (by decide +kernel)), (List.mem_of_getElem? (i := 17) (by decide +kernel)), (List.mem_of_getElem? (i := 251) (by decide +kernel)), (List.mem_of_getElem? (i := 252) (by decide +kernel)), (List.mem_of_getElem? (i := 253) (by decide +kernel)), ⟨by decide +kernel, by decide +kernel⟩, by decide +kernel⟩
theorem vf_L_111 : VF RL 111 yX5_isRight cX5_isRight 5 (some .boolean) 3 := ⟨(List.mem_of_getElem? (i := 258) (by decide +kernel)), (List.mem_of_getElem? (i := 5) (by decide +kernel)), (List.mem_of_getElem? (i := 255) (by decide +kernel)), (List.mem_of_getElem? (i := 256) (by decide +kernel)), (List.mem_of_getElem? (i := 257) (by decide +kernel)), ⟨by decide +kernel, by decide +kernel⟩, by decide +kernel⟩
theorem vf_L_36 : VF RL 36 yX4_complain cX4_complain 2 (some .int) 0 := ⟨(List.mem_of_getElem? (i := 265) (by decide +kernel)), (List.mem_of_getElem? (i := 2) (by decide +kernel)), (List.mem_of_getElem? (i := 262) (by decide +kernel)), (List.mem_of_getElem? (i := 263) (by decide +kernel)), (List.mem_of_getElem? (i := 264) (by decide +kernel)), ⟨by decide +kernel, by decide +kernel⟩, by decide +kernel⟩
theorem vf_X4_103 : VF RX4 103 yX0_gatherComplaints cX0_gatherComplaints 3 none 1 := ⟨(List.mem_of_getElem? (i := 269) (by decide +kernel)), (List.mem_of_getElem? (i := 17) (by decide +kernel)), (List.mem_of_getElem? (i := 266) (by decide +kernel)), (List.mem_of_getElem? (i := 267) (by decide +kernel)), (List.mem_of_getElem? (i := 268) (by decide +kernel)), ⟨by decide +kernel, by decide +kernel⟩, by decide +kernel⟩
theorem vf_X0_49 : VF RX0 49 yX0_isRightShare cX0_isRightShare 3 (some .boolean) 2 := ⟨(List.mem_of_getElem? (i := 254) (by decide +kernel)), (List.mem_of_getElem? (i := 17) (by decide +kernel)), (List.mem_of_getElem? (i := 270) (by decide +kernel)), (List.mem_of_getElem? (i := 252) (by decide +kernel)), (List.mem_of_getElem? (i := 253) (by decide +kernel)), ⟨by decide +kernel, by decide +kernel⟩, by decide +kernel⟩
theorem vf_X4_106 : VF RX4 106 yX4_countComplaints cX4_countComplaints 3 (some .int) 0 := ⟨(List.mem_of_getElem? (i := 274) (by decide +kernel)), (List.mem_of_getElem? (i := 2) (by decide +kernel)), (List.mem_of_getElem? (i := 271) (by decide +kernel)), (List.mem_of_getElem? (i := 272) (by decide +kernel)), (List.mem_of_getElem? (i := 273) (by decide +kernel)), ⟨by decide +kernel, by decide +kernel⟩, by decide +kernel⟩
theorem sf_X4_131 : SF RX4 131 yJ6_bitCount_0f7a4 cJ6_bitCount_0f7a4 1 (some .int) 1 := ⟨(List.mem_of_getElem? (i := 279) (by decide +kernel)), (List.mem_of_getElem? (i := 278) (by decide +kernel)), (List.mem_of_getElem? (i := 276) (by decide +kernel)), (List.mem_of_getElem? (i := 277) (by decide +kernel)), ⟨by decide +kernel, by decide +kernel⟩, by decide +kernel⟩
theorem vf_L_115 : VF RL 115 yX5_complain cX5_complain 3 (some .int) 0 := ⟨(List.mem_of_getElem? (i := 286) (by decide +kernel)), (List.mem_of_getElem? (i := 5) (by decide +kernel)), (List.mem_of_getElem? (i := 283) (by decide +kernel)), (List.mem_of_getElem? (i := 284) (by decide +kernel)), (List.mem_of_getElem? (i := 285) (by decide +kernel)), ⟨by decide +kernel, by decide +kernel⟩, by decide +kernel⟩
theorem vf_X5_106 : VF RX5 106 yX5_complaints cX5_complaints 5 (some .int) 1 := ⟨(List.mem_of_getElem? (i := 290) (by decide +kernel)), (List.mem_of_getElem? (i := 5) (by decide +kernel)), (List.mem_of_getElem? (i := 287) (by decide +kernel)), (List.mem_of_getElem? (i := 288) (by decide +kernel)), (List.mem_of_getElem? (i := 289) (by decide +kernel)), ⟨by decide +kernel, by decide +kernel⟩, by decide +kernel⟩
theorem vf_L_40 : VF RL 40 yX4_answer cX4_answer 4 (some .boolean) 3 := ⟨(List.mem_of_getElem? (i := 297) (by decide +kernel)), (List.mem_of_getElem? (i := 2) (by decide +kernel)), (List.mem_of_getElem? (i := 294) (by decide +kernel)), (List.mem_of_getElem? (i := 295) (by decide +kernel)), (List.mem_of_getElem? (i := 296) (by decide +kernel)), ⟨by decide +kernel, by decide +kernel⟩, by decide +kernel⟩
theorem vf_X4_110 : VF RX4 110 yX0_hasComplaintOf cX0_hasComplaintOf 2 (some .boolean) 1 := ⟨(List.mem_of_getElem? (i := 301) (by decide +kernel)), (List.mem_of_getElem? (i := 17) (by decide +kernel)), (List.mem_of_getElem? (i := 298) (by decide +kernel)), (List.mem_of_getElem? (i := 299) (by decide +kernel)), (List.mem_of_getElem? (i := 300) (by decide +kernel)), ⟨by decide +kernel, by decide +kernel⟩, by decide +kernel⟩
theorem sf_X0_53 : SF RX0 53 yX1_hasBit cX1_hasBit 2 (some .boolean) 2 := ⟨(List.mem_of_getElem? (i := 160) (by decide +kernel)), (List.mem_of_getElem? (i := 45) (by decide +kernel)), (List.mem_of_getElem? (i := 302) (by decide +kernel)), (List.mem_of_getElem? (i := 159) (by decide +kernel)), ⟨by decide +kernel, by decide +kernel⟩, by decide +kernel⟩
theorem vf_X4_116 : VF RX4 116 yX0_answerComplaint cX0_answerComplaint 4 (some .boolean) 2 := ⟨(List.mem_of_getElem? (i := 306) (by decide +kernel)), (List.mem_of_getElem? (i := 17) (by decide +kernel)), (List.mem_of_getElem? (i := 303) (by decide +kernel)), (List.mem_of_getElem? (i := 304) (by decide +kernel)), (List.mem_of_getElem? (i := 305) (by decide +kernel)), ⟨by decide +kernel, by decide +kernel⟩, by decide +kernel⟩
theorem vf_L_118 : VF RL 118 yX5_answer cX5_answer 5 (some .boolean) 3 := ⟨(List.mem_of_getElem? (i := 310) (by decide +kernel)), (List.mem_of_getElem? (i := 5) (by decide +kernel)), (List.mem_of_getElem? (i := 307) (by decide +kernel)), (List.mem_of_getElem? (i := 308) (by decide +kernel)), (List.mem_of_getElem? (i := 309) (by decide +kernel)), ⟨by decide +kernel, by decide +kernel⟩, by decide +kernel⟩
theorem vf_L_43 : VF RL 43 yX4_close cX4_close 4 (some .int) 1 := ⟨(List.mem_of_getElem? (i := 317) (by decide +kernel)), (List.mem_of_getElem? (i := 2) (by decide +kernel)), (List.mem_of_getElem? (i := 314) (by decide +kernel)), (List.mem_of_getElem? (i := 315) (by decide +kernel)), (List.mem_of_getElem? (i := 316) (by decide +kernel)), ⟨by decide +kernel, by decide +kernel⟩, by decide +kernel⟩
theorem vf_X4_119 : VF RX4 119 yX4_findQualified cX4_findQualified 3 (some .int) 0 := ⟨(List.mem_of_getElem? (i := 321) (by decide +kernel)), (List.mem_of_getElem? (i := 2) (by decide +kernel)), (List.mem_of_getElem? (i := 318) (by decide +kernel)), (List.mem_of_getElem? (i := 319) (by decide +kernel)), (List.mem_of_getElem? (i := 320) (by decide +kernel)), ⟨by decide +kernel, by decide +kernel⟩, by decide +kernel⟩
theorem vf_X4_247 : VF RX4 247 yX0_mayQualify cX0_mayQualify 1 (some .boolean) 0 := ⟨(List.mem_of_getElem? (i := 325) (by decide +kernel)), (List.mem_of_getElem? (i := 17) (by decide +kernel)), (List.mem_of_getElem? (i := 322) (by decide +kernel)), (List.mem_of_getElem? (i := 323) (by decide +kernel)), (List.mem_of_getElem? (i := 324) (by decide +kernel)), ⟨by decide +kernel, by decide +kernel⟩, by decide +kernel⟩
theorem vf_X4_124 : VF RX4 124 yX4_makeKeys cX4_makeKeys 2 none 0 := ⟨(List.mem_of_getElem? (i := 329) (by decide +kernel)), (List.mem_of_getElem? (i := 2) (by decide +kernel)), (List.mem_of_getElem? (i := 326) (by decide +kernel)), (List.mem_of_getElem? (i := 327) (by decide +kernel)), (List.mem_of_getElem? (i := 328) (by decide +kernel)), ⟨by decide +kernel, by decide +kernel⟩, by decide +kernel⟩
theorem sf_X4_251 : SF RX4 251 yX1_hasBit cX1_hasBit 2 (some .boolean) 2 := ⟨(List.mem_of_getElem? (i := 160) (by decide +kernel)), (List.mem_of_getElem? (i := 45) (by decide +kernel)), (List.mem_of_getElem? (i := 331) (by decide +kernel)), (List.mem_of_getElem? (i := 159) (by decide +kernel)), ⟨by decide +kernel, by decide +kernel⟩, by decide +kernel⟩
theorem sf_X4_254 : SF RX4 254 yX1_times cX1_times 2 (some .int) 2 := ⟨(List.mem_of_getElem? (i := 156) (by decide +kernel)), (List.mem_of_getElem? (i := 45) (by decide +kernel)), (List.mem_of_getElem? (i := 332) (by decide +kernel)), (List.mem_of_getElem? (i := 155) (by decide +kernel)), ⟨by decide +kernel, by decide +kernel⟩, by decide +kernel⟩
theorem vf_X4_257 : VF RX4 257 yX4_sumOfShares cX4_sumOfShares 5 (some .int) 1 := ⟨(List.mem_of_getElem? (i := 336) (by decide +kernel)), (List.mem_of_getElem? (i := 2) (by decide +kernel)), (List.mem_of_getElem? (i := 333) (by decide +kernel)), (List.mem_of_getElem? (i := 334) (by decide +kernel)), (List.mem_of_getElem? (i := 335) (by decide +kernel)), ⟨by decide +kernel, by decide +kernel⟩, by decide +kernel⟩
theorem sf_X4_263 : SF RX4 263 yX1_toExponent cX1_toExponent 2 (some .int) 1 := ⟨(List.mem_of_getElem? (i := 46) (by decide +kernel)), (List.mem_of_getElem? (i := 45) (by decide +kernel)), (List.mem_of_getElem? (i := 337) (by decide +kernel)), (List.mem_of_getElem? (i := 44) (by decide +kernel)), ⟨by decide +kernel, by decide +kernel⟩, by decide +kernel⟩
theorem sf_X4_260 : SF RX4 260 yX1_power cX1_power 4 (some .int) 2 := ⟨(List.mem_of_getElem? (i := 153) (by decide +kernel)), (List.mem_of_getElem? (i := 45) (by decide +kernel)), (List.mem_of_getElem? (i := 338) (by decide +kernel)), (List.mem_of_getElem? (i := 152) (by decide +kernel)), ⟨by decide +kernel, by decide +kernel⟩, by decide +kernel⟩
theorem vf_X4_127 : VF RX4 127 yX2_startFrom cX2_startFrom 3 none 1 := ⟨(List.mem_of_getElem? (i := 342) (by decide +kernel)), (List.mem_of_getElem? (i := 23) (by decide +kernel)), (List.mem_of_getElem? (i := 339) (by decide +kernel)), (List.mem_of_getElem? (i := 340) (by decide +kernel)), (List.mem_of_getElem? (i := 341) (by decide +kernel)), ⟨by decide +kernel, by decide +kernel⟩, by decide +kernel⟩
theorem vf_X2_36 : VF RX2 36 yX2_startNext cX2_startNext 2 none 0 := ⟨(List.mem_of_getElem? (i := 346) (by decide +kernel)), (List.mem_of_getElem? (i := 23) (by decide +kernel)), (List.mem_of_getElem? (i := 343) (by decide +kernel)), (List.mem_of_getElem? (i := 344) (by decide +kernel)), (List.mem_of_getElem? (i := 345) (by decide +kernel)), ⟨by decide +kernel, by decide +kernel⟩, by decide +kernel⟩
theorem sf_X2_39 : SF RX2 39 yX1_hash cX1_hash 4 (some .long) 2 := ⟨(List.mem_of_getElem? (i := 142) (by decide +kernel)), (List.mem_of_getElem? (i := 45) (by decide +kernel)), (List.mem_of_getElem? (i := 350) (by decide +kernel)), (List.mem_of_getElem? (i := 141) (by decide +kernel)), ⟨by decide +kernel, by decide +kernel⟩, by decide +kernel⟩
theorem sf_X2_49 : SF RX2 49 yJ9_floorMod_f86c9 cJ9_floorMod_f86c9 6 (some .long) 2 := ⟨(List.mem_of_getElem? (i := 51) (by decide +kernel)), (List.mem_of_getElem? (i := 50) (by decide +kernel)), (List.mem_of_getElem? (i := 351) (by decide +kernel)), (List.mem_of_getElem? (i := 49) (by decide +kernel)), ⟨by decide +kernel, by decide +kernel⟩, by decide +kernel⟩
theorem sf_X2_54 : SF RX2 54 yX1_times cX1_times 2 (some .int) 2 := ⟨(List.mem_of_getElem? (i := 156) (by decide +kernel)), (List.mem_of_getElem? (i := 45) (by decide +kernel)), (List.mem_of_getElem? (i := 352) (by decide +kernel)), (List.mem_of_getElem? (i := 155) (by decide +kernel)), ⟨by decide +kernel, by decide +kernel⟩, by decide +kernel⟩
theorem vf_L_122 : VF RL 122 yX5_close cX5_close 9 (some .int) 1 := ⟨(List.mem_of_getElem? (i := 356) (by decide +kernel)), (List.mem_of_getElem? (i := 5) (by decide +kernel)), (List.mem_of_getElem? (i := 353) (by decide +kernel)), (List.mem_of_getElem? (i := 354) (by decide +kernel)), (List.mem_of_getElem? (i := 355) (by decide +kernel)), ⟨by decide +kernel, by decide +kernel⟩, by decide +kernel⟩
theorem vf_X5_110 : VF RX5 110 yX5_isQualified cX5_isQualified 2 (some .boolean) 1 := ⟨(List.mem_of_getElem? (i := 360) (by decide +kernel)), (List.mem_of_getElem? (i := 5) (by decide +kernel)), (List.mem_of_getElem? (i := 357) (by decide +kernel)), (List.mem_of_getElem? (i := 358) (by decide +kernel)), (List.mem_of_getElem? (i := 359) (by decide +kernel)), ⟨by decide +kernel, by decide +kernel⟩, by decide +kernel⟩
theorem vf_L_47 : VF RL 47 yX4_key cX4_key 4 (some .int) 2 := ⟨(List.mem_of_getElem? (i := 367) (by decide +kernel)), (List.mem_of_getElem? (i := 2) (by decide +kernel)), (List.mem_of_getElem? (i := 364) (by decide +kernel)), (List.mem_of_getElem? (i := 365) (by decide +kernel)), (List.mem_of_getElem? (i := 366) (by decide +kernel)), ⟨by decide +kernel, by decide +kernel⟩, by decide +kernel⟩
theorem vf_X4_137 : VF RX4 137 yX4_needWhat cX4_needWhat 3 none 2 := ⟨(List.mem_of_getElem? (i := 371) (by decide +kernel)), (List.mem_of_getElem? (i := 2) (by decide +kernel)), (List.mem_of_getElem? (i := 368) (by decide +kernel)), (List.mem_of_getElem? (i := 369) (by decide +kernel)), (List.mem_of_getElem? (i := 370) (by decide +kernel)), ⟨by decide +kernel, by decide +kernel⟩, by decide +kernel⟩
theorem vf_X4_141 : VF RX4 141 yX4_needClosed cX4_needClosed 1 none 0 := ⟨(List.mem_of_getElem? (i := 375) (by decide +kernel)), (List.mem_of_getElem? (i := 2) (by decide +kernel)), (List.mem_of_getElem? (i := 372) (by decide +kernel)), (List.mem_of_getElem? (i := 373) (by decide +kernel)), (List.mem_of_getElem? (i := 374) (by decide +kernel)), ⟨by decide +kernel, by decide +kernel⟩, by decide +kernel⟩
theorem vf_L_125 : VF RL 125 yX5_key cX5_key 4 (some .int) 2 := ⟨(List.mem_of_getElem? (i := 379) (by decide +kernel)), (List.mem_of_getElem? (i := 5) (by decide +kernel)), (List.mem_of_getElem? (i := 376) (by decide +kernel)), (List.mem_of_getElem? (i := 377) (by decide +kernel)), (List.mem_of_getElem? (i := 378) (by decide +kernel)), ⟨by decide +kernel, by decide +kernel⟩, by decide +kernel⟩
theorem vf_L_50 : VF RL 50 yX4_round cX4_round 2 (some .int) 1 := ⟨(List.mem_of_getElem? (i := 386) (by decide +kernel)), (List.mem_of_getElem? (i := 2) (by decide +kernel)), (List.mem_of_getElem? (i := 383) (by decide +kernel)), (List.mem_of_getElem? (i := 384) (by decide +kernel)), (List.mem_of_getElem? (i := 385) (by decide +kernel)), ⟨by decide +kernel, by decide +kernel⟩, by decide +kernel⟩
theorem vf_L_129 : VF RL 129 yX5_round cX5_round 4 (some .int) 1 := ⟨(List.mem_of_getElem? (i := 393) (by decide +kernel)), (List.mem_of_getElem? (i := 5) (by decide +kernel)), (List.mem_of_getElem? (i := 390) (by decide +kernel)), (List.mem_of_getElem? (i := 391) (by decide +kernel)), (List.mem_of_getElem? (i := 392) (by decide +kernel)), ⟨by decide +kernel, by decide +kernel⟩, by decide +kernel⟩
theorem vf_X5_119 : VF RX5 119 yX5_base cX5_base 3 (some .long) 0 := ⟨(List.mem_of_getElem? (i := 397) (by decide +kernel)), (List.mem_of_getElem? (i := 5) (by decide +kernel)), (List.mem_of_getElem? (i := 394) (by decide +kernel)), (List.mem_of_getElem? (i := 395) (by decide +kernel)), (List.mem_of_getElem? (i := 396) (by decide +kernel)), ⟨by decide +kernel, by decide +kernel⟩, by decide +kernel⟩
theorem vf_X5_113 : VF RX5 113 yX5_message cX5_message 1 (some .long) 0 := ⟨(List.mem_of_getElem? (i := 402) (by decide +kernel)), (List.mem_of_getElem? (i := 5) (by decide +kernel)), (List.mem_of_getElem? (i := 399) (by decide +kernel)), (List.mem_of_getElem? (i := 400) (by decide +kernel)), (List.mem_of_getElem? (i := 401) (by decide +kernel)), ⟨by decide +kernel, by decide +kernel⟩, by decide +kernel⟩
theorem vf_L_54 : VF RL 54 yX4_says cX4_says 3 (some .int) 2 := ⟨(List.mem_of_getElem? (i := 409) (by decide +kernel)), (List.mem_of_getElem? (i := 2) (by decide +kernel)), (List.mem_of_getElem? (i := 406) (by decide +kernel)), (List.mem_of_getElem? (i := 407) (by decide +kernel)), (List.mem_of_getElem? (i := 408) (by decide +kernel)), ⟨by decide +kernel, by decide +kernel⟩, by decide +kernel⟩
theorem vf_X4_158 : VF RX4 158 yX4_stateFor cX4_stateFor 2 none 1 := ⟨(List.mem_of_getElem? (i := 416) (by decide +kernel)), (List.mem_of_getElem? (i := 2) (by decide +kernel)), (List.mem_of_getElem? (i := 413) (by decide +kernel)), (List.mem_of_getElem? (i := 414) (by decide +kernel)), (List.mem_of_getElem? (i := 415) (by decide +kernel)), ⟨by decide +kernel, by decide +kernel⟩, by decide +kernel⟩
theorem vf_X4_271 : VF RX4 271 yX3_state cX3_state 7 none 4 := ⟨(List.mem_of_getElem? (i := 421) (by decide +kernel)), (List.mem_of_getElem? (i := 27) (by decide +kernel)), (List.mem_of_getElem? (i := 418) (by decide +kernel)), (List.mem_of_getElem? (i := 419) (by decide +kernel)), (List.mem_of_getElem? (i := 420) (by decide +kernel)), ⟨by decide +kernel, by decide +kernel⟩, by decide +kernel⟩
theorem sf_X3_9 : SF RX3 9 yX1_hash cX1_hash 4 (some .long) 2 := ⟨(List.mem_of_getElem? (i := 142) (by decide +kernel)), (List.mem_of_getElem? (i := 45) (by decide +kernel)), (List.mem_of_getElem? (i := 425) (by decide +kernel)), (List.mem_of_getElem? (i := 141) (by decide +kernel)), ⟨by decide +kernel, by decide +kernel⟩, by decide +kernel⟩
theorem sf_X3_15 : SF RX3 15 yX1_toExponent cX1_toExponent 2 (some .int) 1 := ⟨(List.mem_of_getElem? (i := 46) (by decide +kernel)), (List.mem_of_getElem? (i := 45) (by decide +kernel)), (List.mem_of_getElem? (i := 426) (by decide +kernel)), (List.mem_of_getElem? (i := 44) (by decide +kernel)), ⟨by decide +kernel, by decide +kernel⟩, by decide +kernel⟩
theorem sf_X3_19 : SF RX3 19 yX1_power cX1_power 4 (some .int) 2 := ⟨(List.mem_of_getElem? (i := 153) (by decide +kernel)), (List.mem_of_getElem? (i := 45) (by decide +kernel)), (List.mem_of_getElem? (i := 427) (by decide +kernel)), (List.mem_of_getElem? (i := 152) (by decide +kernel)), ⟨by decide +kernel, by decide +kernel⟩, by decide +kernel⟩
theorem vf_X3_29 : VF RX3 29 yX3_challenge cX3_challenge 7 (some .int) 4 := ⟨(List.mem_of_getElem? (i := 431) (by decide +kernel)), (List.mem_of_getElem? (i := 27) (by decide +kernel)), (List.mem_of_getElem? (i := 428) (by decide +kernel)), (List.mem_of_getElem? (i := 429) (by decide +kernel)), (List.mem_of_getElem? (i := 430) (by decide +kernel)), ⟨by decide +kernel, by decide +kernel⟩, by decide +kernel⟩
theorem sf_X3_56 : SF RX3 56 yX1_stir cX1_stir 6 (some .long) 2 := ⟨(List.mem_of_getElem? (i := 145) (by decide +kernel)), (List.mem_of_getElem? (i := 45) (by decide +kernel)), (List.mem_of_getElem? (i := 432) (by decide +kernel)), (List.mem_of_getElem? (i := 144) (by decide +kernel)), ⟨by decide +kernel, by decide +kernel⟩, by decide +kernel⟩
theorem vf_L_132 : VF RL 132 yX5_says cX5_says 3 (some .int) 2 := ⟨(List.mem_of_getElem? (i := 436) (by decide +kernel)), (List.mem_of_getElem? (i := 5) (by decide +kernel)), (List.mem_of_getElem? (i := 433) (by decide +kernel)), (List.mem_of_getElem? (i := 434) (by decide +kernel)), (List.mem_of_getElem? (i := 435) (by decide +kernel)), ⟨by decide +kernel, by decide +kernel⟩, by decide +kernel⟩
theorem vf_X5_126 : VF RX5 126 yX5_said cX5_said 13 (some .long) 2 := ⟨(List.mem_of_getElem? (i := 440) (by decide +kernel)), (List.mem_of_getElem? (i := 5) (by decide +kernel)), (List.mem_of_getElem? (i := 437) (by decide +kernel)), (List.mem_of_getElem? (i := 438) (by decide +kernel)), (List.mem_of_getElem? (i := 439) (by decide +kernel)), ⟨by decide +kernel, by decide +kernel⟩, by decide +kernel⟩
theorem vf_X5_122 : VF RX5 122 yX5_challenge cX5_challenge 11 (some .long) 5 := ⟨(List.mem_of_getElem? (i := 444) (by decide +kernel)), (List.mem_of_getElem? (i := 5) (by decide +kernel)), (List.mem_of_getElem? (i := 441) (by decide +kernel)), (List.mem_of_getElem? (i := 442) (by decide +kernel)), (List.mem_of_getElem? (i := 443) (by decide +kernel)), ⟨by decide +kernel, by decide +kernel⟩, by decide +kernel⟩
theorem vf_L_57 : VF RL 57 yX4_offer cX4_offer 6 (some .boolean) 5 := ⟨(List.mem_of_getElem? (i := 451) (by decide +kernel)), (List.mem_of_getElem? (i := 2) (by decide +kernel)), (List.mem_of_getElem? (i := 448) (by decide +kernel)), (List.mem_of_getElem? (i := 449) (by decide +kernel)), (List.mem_of_getElem? (i := 450) (by decide +kernel)), ⟨by decide +kernel, by decide +kernel⟩, by decide +kernel⟩
theorem vf_X4_170 : VF RX4 170 yX2_keepsPartOf cX2_keepsPartOf 2 (some .boolean) 1 := ⟨(List.mem_of_getElem? (i := 455) (by decide +kernel)), (List.mem_of_getElem? (i := 23) (by decide +kernel)), (List.mem_of_getElem? (i := 452) (by decide +kernel)), (List.mem_of_getElem? (i := 453) (by decide +kernel)), (List.mem_of_getElem? (i := 454) (by decide +kernel)), ⟨by decide +kernel, by decide +kernel⟩, by decide +kernel⟩
theorem sf_X2_61 : SF RX2 61 yX1_hasBit cX1_hasBit 2 (some .boolean) 2 := ⟨(List.mem_of_getElem? (i := 160) (by decide +kernel)), (List.mem_of_getElem? (i := 45) (by decide +kernel)), (List.mem_of_getElem? (i := 456) (by decide +kernel)), (List.mem_of_getElem? (i := 159) (by decide +kernel)), ⟨by decide +kernel, by decide +kernel⟩, by decide +kernel⟩
theorem vf_X4_173 : VF RX4 173 yX3_add cX3_add 4 (some .boolean) 3 := ⟨(List.mem_of_getElem? (i := 460) (by decide +kernel)), (List.mem_of_getElem? (i := 27) (by decide +kernel)), (List.mem_of_getElem? (i := 457) (by decide +kernel)), (List.mem_of_getElem? (i := 458) (by decide +kernel)), (List.mem_of_getElem? (i := 459) (by decide +kernel)), ⟨by decide +kernel, by decide +kernel⟩, by decide +kernel⟩
theorem sf_X3_39 : SF RX3 39 yX3_canAdd cX3_canAdd 4 (some .boolean) 2 := ⟨(List.mem_of_getElem? (i := 463) (by decide +kernel)), (List.mem_of_getElem? (i := 27) (by decide +kernel)), (List.mem_of_getElem? (i := 461) (by decide +kernel)), (List.mem_of_getElem? (i := 462) (by decide +kernel)), ⟨by decide +kernel, by decide +kernel⟩, by decide +kernel⟩
theorem vf_X4_177 : VF RX4 177 yX3_holds cX3_holds 5 (some .boolean) 2 := ⟨(List.mem_of_getElem? (i := 468) (by decide +kernel)), (List.mem_of_getElem? (i := 27) (by decide +kernel)), (List.mem_of_getElem? (i := 465) (by decide +kernel)), (List.mem_of_getElem? (i := 466) (by decide +kernel)), (List.mem_of_getElem? (i := 467) (by decide +kernel)), ⟨by decide +kernel, by decide +kernel⟩, by decide +kernel⟩
theorem sf_X3_43 : SF RX3 43 yX1_isInGroup cX1_isInGroup 1 (some .boolean) 1 := ⟨(List.mem_of_getElem? (i := 471) (by decide +kernel)), (List.mem_of_getElem? (i := 45) (by decide +kernel)), (List.mem_of_getElem? (i := 469) (by decide +kernel)), (List.mem_of_getElem? (i := 470) (by decide +kernel)), ⟨by decide +kernel, by decide +kernel⟩, by decide +kernel⟩
theorem sf_X1_20 : SF RX1 20 yX1_power cX1_power 4 (some .int) 2 := ⟨(List.mem_of_getElem? (i := 153) (by decide +kernel)), (List.mem_of_getElem? (i := 45) (by decide +kernel)), (List.mem_of_getElem? (i := 473) (by decide +kernel)), (List.mem_of_getElem? (i := 152) (by decide +kernel)), ⟨by decide +kernel, by decide +kernel⟩, by decide +kernel⟩
theorem sf_X3_47 : SF RX3 47 yX1_isExponent cX1_isExponent 1 (some .boolean) 1 := ⟨(List.mem_of_getElem? (i := 203) (by decide +kernel)), (List.mem_of_getElem? (i := 45) (by decide +kernel)), (List.mem_of_getElem? (i := 474) (by decide +kernel)), (List.mem_of_getElem? (i := 202) (by decide +kernel)), ⟨by decide +kernel, by decide +kernel⟩, by decide +kernel⟩
theorem sf_X3_50 : SF RX3 50 yX1_powerBelow cX1_powerBelow 2 (some .int) 2 := ⟨(List.mem_of_getElem? (i := 477) (by decide +kernel)), (List.mem_of_getElem? (i := 45) (by decide +kernel)), (List.mem_of_getElem? (i := 475) (by decide +kernel)), (List.mem_of_getElem? (i := 476) (by decide +kernel)), ⟨by decide +kernel, by decide +kernel⟩, by decide +kernel⟩
theorem sf_X3_53 : SF RX3 53 yX1_times cX1_times 2 (some .int) 2 := ⟨(List.mem_of_getElem? (i := 156) (by decide +kernel)), (List.mem_of_getElem? (i := 45) (by decide +kernel)), (List.mem_of_getElem? (i := 478) (by decide +kernel)), (List.mem_of_getElem? (i := 155) (by decide +kernel)), ⟨by decide +kernel, by decide +kernel⟩, by decide +kernel⟩
theorem vf_X4_180 : VF RX4 180 yX2_keep cX2_keep 3 none 2 := ⟨(List.mem_of_getElem? (i := 482) (by decide +kernel)), (List.mem_of_getElem? (i := 23) (by decide +kernel)), (List.mem_of_getElem? (i := 479) (by decide +kernel)), (List.mem_of_getElem? (i := 480) (by decide +kernel)), (List.mem_of_getElem? (i := 481) (by decide +kernel)), ⟨by decide +kernel, by decide +kernel⟩, by decide +kernel⟩
theorem vf_L_136 : VF RL 136 yX5_offer cX5_offer 12 (some .boolean) 5 := ⟨(List.mem_of_getElem? (i := 486) (by decide +kernel)), (List.mem_of_getElem? (i := 5) (by decide +kernel)), (List.mem_of_getElem? (i := 483) (by decide +kernel)), (List.mem_of_getElem? (i := 484) (by decide +kernel)), (List.mem_of_getElem? (i := 485) (by decide +kernel)), ⟨by decide +kernel, by decide +kernel⟩, by decide +kernel⟩
theorem vf_X5_133 : VF RX5 133 yX5_holds cX5_holds 10 (some .boolean) 4 := ⟨(List.mem_of_getElem? (i := 490) (by decide +kernel)), (List.mem_of_getElem? (i := 5) (by decide +kernel)), (List.mem_of_getElem? (i := 487) (by decide +kernel)), (List.mem_of_getElem? (i := 488) (by decide +kernel)), (List.mem_of_getElem? (i := 489) (by decide +kernel)), ⟨by decide +kernel, by decide +kernel⟩, by decide +kernel⟩
theorem sf_X5_129 : SF RX5 129 yX5_quotient cX5_quotient 8 (some .long) 4 := ⟨(List.mem_of_getElem? (i := 493) (by decide +kernel)), (List.mem_of_getElem? (i := 5) (by decide +kernel)), (List.mem_of_getElem? (i := 491) (by decide +kernel)), (List.mem_of_getElem? (i := 492) (by decide +kernel)), ⟨by decide +kernel, by decide +kernel⟩, by decide +kernel⟩
theorem vf_L_61 : VF RL 61 yX4_value cX4_value 2 (some .int) 1 := ⟨(List.mem_of_getElem? (i := 500) (by decide +kernel)), (List.mem_of_getElem? (i := 2) (by decide +kernel)), (List.mem_of_getElem? (i := 497) (by decide +kernel)), (List.mem_of_getElem? (i := 498) (by decide +kernel)), (List.mem_of_getElem? (i := 499) (by decide +kernel)), ⟨by decide +kernel, by decide +kernel⟩, by decide +kernel⟩
theorem vf_X4_185 : VF RX4 185 yX2_combine cX2_combine 4 (some .int) 1 := ⟨(List.mem_of_getElem? (i := 504) (by decide +kernel)), (List.mem_of_getElem? (i := 23) (by decide +kernel)), (List.mem_of_getElem? (i := 501) (by decide +kernel)), (List.mem_of_getElem? (i := 502) (by decide +kernel)), (List.mem_of_getElem? (i := 503) (by decide +kernel)), ⟨by decide +kernel, by decide +kernel⟩, by decide +kernel⟩
theorem vf_X2_69 : VF RX2 69 yX2_weight cX2_weight 6 (some .int) 2 := ⟨(List.mem_of_getElem? (i := 508) (by decide +kernel)), (List.mem_of_getElem? (i := 23) (by decide +kernel)), (List.mem_of_getElem? (i := 505) (by decide +kernel)), (List.mem_of_getElem? (i := 506) (by decide +kernel)), (List.mem_of_getElem? (i := 507) (by decide +kernel)), ⟨by decide +kernel, by decide +kernel⟩, by decide +kernel⟩
theorem vf_X2_75 : VF RX2 75 yX2_inverse cX2_inverse 2 (some .int) 1 := ⟨(List.mem_of_getElem? (i := 512) (by decide +kernel)), (List.mem_of_getElem? (i := 23) (by decide +kernel)), (List.mem_of_getElem? (i := 509) (by decide +kernel)), (List.mem_of_getElem? (i := 510) (by decide +kernel)), (List.mem_of_getElem? (i := 511) (by decide +kernel)), ⟨by decide +kernel, by decide +kernel⟩, by decide +kernel⟩
theorem sf_X2_72 : SF RX2 72 yX1_power cX1_power 4 (some .int) 2 := ⟨(List.mem_of_getElem? (i := 153) (by decide +kernel)), (List.mem_of_getElem? (i := 45) (by decide +kernel)), (List.mem_of_getElem? (i := 513) (by decide +kernel)), (List.mem_of_getElem? (i := 152) (by decide +kernel)), ⟨by decide +kernel, by decide +kernel⟩, by decide +kernel⟩
theorem vf_L_139 : VF RL 139 yX5_value cX5_value 4 (some .int) 1 := ⟨(List.mem_of_getElem? (i := 517) (by decide +kernel)), (List.mem_of_getElem? (i := 5) (by decide +kernel)), (List.mem_of_getElem? (i := 514) (by decide +kernel)), (List.mem_of_getElem? (i := 515) (by decide +kernel)), (List.mem_of_getElem? (i := 516) (by decide +kernel)), ⟨by decide +kernel, by decide +kernel⟩, by decide +kernel⟩
theorem vf_X5_139 : VF RX5 139 yX5_combined cX5_combined 10 (some .long) 1 := ⟨(List.mem_of_getElem? (i := 521) (by decide +kernel)), (List.mem_of_getElem? (i := 5) (by decide +kernel)), (List.mem_of_getElem? (i := 518) (by decide +kernel)), (List.mem_of_getElem? (i := 519) (by decide +kernel)), (List.mem_of_getElem? (i := 520) (by decide +kernel)), ⟨by decide +kernel, by decide +kernel⟩, by decide +kernel⟩
theorem vf_L_64 : VF RL 64 yX4_publish cX4_publish 2 (some .int) 0 := ⟨(List.mem_of_getElem? (i := 530) (by decide +kernel)), (List.mem_of_getElem? (i := 2) (by decide +kernel)), (List.mem_of_getElem? (i := 527) (by decide +kernel)), (List.mem_of_getElem? (i := 528) (by decide +kernel)), (List.mem_of_getElem? (i := 529) (by decide +kernel)), ⟨by decide +kernel, by decide +kernel⟩, by decide +kernel⟩
theorem vf_X4_195 : VF RX4 195 yX2_leastKept cX2_leastKept 5 (some .int) 1 := ⟨(List.mem_of_getElem? (i := 536) (by decide +kernel)), (List.mem_of_getElem? (i := 23) (by decide +kernel)), (List.mem_of_getElem? (i := 533) (by decide +kernel)), (List.mem_of_getElem? (i := 534) (by decide +kernel)), (List.mem_of_getElem? (i := 535) (by decide +kernel)), ⟨by decide +kernel, by decide +kernel⟩, by decide +kernel⟩
theorem vf_X2_65 : VF RX2 65 yX2_keepsPartOf cX2_keepsPartOf 2 (some .boolean) 1 := ⟨(List.mem_of_getElem? (i := 455) (by decide +kernel)), (List.mem_of_getElem? (i := 23) (by decide +kernel)), (List.mem_of_getElem? (i := 537) (by decide +kernel)), (List.mem_of_getElem? (i := 453) (by decide +kernel)), (List.mem_of_getElem? (i := 454) (by decide +kernel)), ⟨by decide +kernel, by decide +kernel⟩, by decide +kernel⟩
theorem vf_X4_198 : VF RX4 198 yX2_endWith cX2_endWith 2 none 1 := ⟨(List.mem_of_getElem? (i := 541) (by decide +kernel)), (List.mem_of_getElem? (i := 23) (by decide +kernel)), (List.mem_of_getElem? (i := 538) (by decide +kernel)), (List.mem_of_getElem? (i := 539) (by decide +kernel)), (List.mem_of_getElem? (i := 540) (by decide +kernel)), ⟨by decide +kernel, by decide +kernel⟩, by decide +kernel⟩
theorem vf_L_142 : VF RL 142 yX5_publish cX5_publish 5 (some .int) 0 := ⟨(List.mem_of_getElem? (i := 545) (by decide +kernel)), (List.mem_of_getElem? (i := 5) (by decide +kernel)), (List.mem_of_getElem? (i := 542) (by decide +kernel)), (List.mem_of_getElem? (i := 543) (by decide +kernel)), (List.mem_of_getElem? (i := 544) (by decide +kernel)), ⟨by decide +kernel, by decide +kernel⟩, by decide +kernel⟩
theorem vf_L_69 : VF RL 69 yX4_ended cX4_ended 2 (some .long) 1 := ⟨(List.mem_of_getElem? (i := 552) (by decide +kernel)), (List.mem_of_getElem? (i := 2) (by decide +kernel)), (List.mem_of_getElem? (i := 549) (by decide +kernel)), (List.mem_of_getElem? (i := 550) (by decide +kernel)), (List.mem_of_getElem? (i := 551) (by decide +kernel)), ⟨by decide +kernel, by decide +kernel⟩, by decide +kernel⟩
theorem vf_X4_201 : VF RX4 201 yX4_needEnded cX4_needEnded 2 none 1 := ⟨(List.mem_of_getElem? (i := 557) (by decide +kernel)), (List.mem_of_getElem? (i := 2) (by decide +kernel)), (List.mem_of_getElem? (i := 554) (by decide +kernel)), (List.mem_of_getElem? (i := 555) (by decide +kernel)), (List.mem_of_getElem? (i := 556) (by decide +kernel)), ⟨by decide +kernel, by decide +kernel⟩, by decide +kernel⟩
theorem vf_L_145 : VF RL 145 yX5_ended cX5_ended 3 (some .long) 1 := ⟨(List.mem_of_getElem? (i := 561) (by decide +kernel)), (List.mem_of_getElem? (i := 5) (by decide +kernel)), (List.mem_of_getElem? (i := 558) (by decide +kernel)), (List.mem_of_getElem? (i := 559) (by decide +kernel)), (List.mem_of_getElem? (i := 560) (by decide +kernel)), ⟨by decide +kernel, by decide +kernel⟩, by decide +kernel⟩
theorem vf_L_73 : VF RL 73 yX4_random cX4_random 2 (some .long) 1 := ⟨(List.mem_of_getElem? (i := 568) (by decide +kernel)), (List.mem_of_getElem? (i := 2) (by decide +kernel)), (List.mem_of_getElem? (i := 565) (by decide +kernel)), (List.mem_of_getElem? (i := 566) (by decide +kernel)), (List.mem_of_getElem? (i := 567) (by decide +kernel)), ⟨by decide +kernel, by decide +kernel⟩, by decide +kernel⟩
theorem sf_X4_208 : SF RX4 208 yX1_hash cX1_hash 4 (some .long) 2 := ⟨(List.mem_of_getElem? (i := 142) (by decide +kernel)), (List.mem_of_getElem? (i := 45) (by decide +kernel)), (List.mem_of_getElem? (i := 569) (by decide +kernel)), (List.mem_of_getElem? (i := 141) (by decide +kernel)), ⟨by decide +kernel, by decide +kernel⟩, by decide +kernel⟩
theorem vf_L_148 : VF RL 148 yX5_random cX5_random 3 (some .long) 1 := ⟨(List.mem_of_getElem? (i := 573) (by decide +kernel)), (List.mem_of_getElem? (i := 5) (by decide +kernel)), (List.mem_of_getElem? (i := 570) (by decide +kernel)), (List.mem_of_getElem? (i := 571) (by decide +kernel)), (List.mem_of_getElem? (i := 572) (by decide +kernel)), ⟨by decide +kernel, by decide +kernel⟩, by decide +kernel⟩
theorem vf_L_76 : VF RL 76 yX4_about cX4_about 2 (some .int) 1 := ⟨(List.mem_of_getElem? (i := 580) (by decide +kernel)), (List.mem_of_getElem? (i := 2) (by decide +kernel)), (List.mem_of_getElem? (i := 577) (by decide +kernel)), (List.mem_of_getElem? (i := 578) (by decide +kernel)), (List.mem_of_getElem? (i := 579) (by decide +kernel)), ⟨by decide +kernel, by decide +kernel⟩, by decide +kernel⟩
theorem vf_X4_214 : VF RX4 214 yX4_countDealt cX4_countDealt 3 (some .int) 0 := ⟨(List.mem_of_getElem? (i := 584) (by decide +kernel)), (List.mem_of_getElem? (i := 2) (by decide +kernel)), (List.mem_of_getElem? (i := 581) (by decide +kernel)), (List.mem_of_getElem? (i := 582) (by decide +kernel)), (List.mem_of_getElem? (i := 583) (by decide +kernel)), ⟨by decide +kernel, by decide +kernel⟩, by decide +kernel⟩
theorem vf_X4_217 : VF RX4 217 yX4_countOut cX4_countOut 3 (some .int) 0 := ⟨(List.mem_of_getElem? (i := 588) (by decide +kernel)), (List.mem_of_getElem? (i := 2) (by decide +kernel)), (List.mem_of_getElem? (i := 585) (by decide +kernel)), (List.mem_of_getElem? (i := 586) (by decide +kernel)), (List.mem_of_getElem? (i := 587) (by decide +kernel)), ⟨by decide +kernel, by decide +kernel⟩, by decide +kernel⟩
theorem vf_L_151 : VF RL 151 yX5_about cX5_about 4 (some .int) 1 := ⟨(List.mem_of_getElem? (i := 593) (by decide +kernel)), (List.mem_of_getElem? (i := 5) (by decide +kernel)), (List.mem_of_getElem? (i := 590) (by decide +kernel)), (List.mem_of_getElem? (i := 591) (by decide +kernel)), (List.mem_of_getElem? (i := 592) (by decide +kernel)), ⟨by decide +kernel, by decide +kernel⟩, by decide +kernel⟩
theorem ct_L_92 : Cond.constantLong RL 92 (4294967295) ∈ wsL_law := (List.mem_of_getElem? (i := 7) (by decide +kernel))
theorem ct_X2_24 : Cond.constant RX2 24 (nI 1073741789) ∈ wsL_law := (List.mem_of_getElem? (i := 42) (by decide +kernel))
theorem ct_X1_24 : Cond.constantLong RX1 24 (lN 1073741789) ∈ wsL_law := (List.mem_of_getElem? (i := 47) (by decide +kernel))
theorem ct_X1_35 : Cond.constantLong RX1 35 (6364136223846793005) ∈ wsL_law := (List.mem_of_getElem? (i := 146) (by decide +kernel))
theorem ct_X1_37 : Cond.constantLong RX1 37 (1442695040888963407) ∈ wsL_law := (List.mem_of_getElem? (i := 147) (by decide +kernel))
theorem ct_X1_39 : Cond.constantLong RX1 39 (2862933555777941757) ∈ wsL_law := (List.mem_of_getElem? (i := 148) (by decide +kernel))
theorem ct_X1_9 : Cond.constantLong RX1 9 (lN 2147483579) ∈ wsL_law := (List.mem_of_getElem? (i := 157) (by decide +kernel))
theorem ct_X5_62 : Cond.constantLong RX5 62 (lN 1073741789) ∈ wsL_law := (List.mem_of_getElem? (i := 166) (by decide +kernel))
theorem ct_X5_91 : Cond.constantLong RX5 91 (lN 4) ∈ wsL_law := (List.mem_of_getElem? (i := 167) (by decide +kernel))
theorem ct_X5_93 : Cond.constantLong RX5 93 (lN 2147483579) ∈ wsL_law := (List.mem_of_getElem? (i := 168) (by decide +kernel))
theorem ct_X5_49 : Cond.constantLong RX5 49 (6364136223846793005) ∈ wsL_law := (List.mem_of_getElem? (i := 177) (by decide +kernel))
theorem ct_X5_51 : Cond.constantLong RX5 51 (1442695040888963407) ∈ wsL_law := (List.mem_of_getElem? (i := 178) (by decide +kernel))
theorem ct_X5_53 : Cond.constantLong RX5 53 (2862933555777941757) ∈ wsL_law := (List.mem_of_getElem? (i := 179) (by decide +kernel))
theorem ct_X1_19 : Cond.constant RX1 19 (nI 1073741789) ∈ wsL_law := (List.mem_of_getElem? (i := 204) (by decide +kernel))
theorem ct_J6_265 : Cond.constant RJ6 265 (nI 1431655765) ∈ wsL_law := (List.mem_of_getElem? (i := 280) (by decide +kernel))
theorem ct_J6_266 : Cond.constant RJ6 266 (nI 858993459) ∈ wsL_law := (List.mem_of_getElem? (i := 281) (by decide +kernel))
theorem ct_J6_267 : Cond.constant RJ6 267 (nI 252645135) ∈ wsL_law := (List.mem_of_getElem? (i := 282) (by decide +kernel))
theorem ct_X2_47 : Cond.constantLong RX2 47 (lN 2147483578) ∈ wsL_law := (List.mem_of_getElem? (i := 348) (by decide +kernel))
theorem ct_X5_117 : Cond.constantLong RX5 117 (lN 2147483578) ∈ wsL_law := (List.mem_of_getElem? (i := 398) (by decide +kernel))
theorem ct_X3_59 : Cond.constantLong RX3 59 (lN 2147483647) ∈ wsL_law := (List.mem_of_getElem? (i := 464) (by decide +kernel))
theorem ct_X1_23 : Cond.constant RX1 23 (nI 2147483579) ∈ wsL_law := (List.mem_of_getElem? (i := 472) (by decide +kernel))
theorem ct_X5_137 : Cond.constantLong RX5 137 (lN 1073741787) ∈ wsL_law := (List.mem_of_getElem? (i := 522) (by decide +kernel))
end
section
/-! methods over the world: from the cells w they come to cells u with PU, and answer r; nothing else old changes -/
def xA (ad : Nat → Nat) (N sz : Nat) : Nat → Prop := fun q => (∃ k, k < N ∧ q = ad k) ∨ sz ≤ q
theorem wl_D {A : Nat → Prop} {ad : Nat → Nat} {N : Nat} {w u : Nat → va_E} (h : va_D A (wl ad N w)) : va_D A (wl ad N u) := by
  refine ⟨fun i j p q hp hq e => ?_, fun k q hk => ?_⟩
  · obtain ⟨h1, rfl⟩ := wl_inv hp
    obtain ⟨h2, rfl⟩ := wl_inv hq
    exact h.1 i j (ad i, w i) (ad j, w j) (wl_get h1 rfl) (wl_get h2 rfl) e
  · obtain ⟨h1, rfl⟩ := wl_inv hk
    exact h.2 k (ad k, w k) (wl_get h1 rfl)
theorem wl_DA {A : Nat → Prop} {ad : Nat → Nat} {N sz : Nat} {w u : Nat → va_E} (h : va_D A (wl ad N w)) : va_D (xA ad N sz) (wl ad N u) := by
  refine ⟨(wl_D (u := u) h).1, fun k q hk => ?_⟩
  obtain ⟨h1, rfl⟩ := wl_inv hk
  exact Or.inl ⟨k, h1, rfl⟩
def cP (D : va_G) (tys : List (ClassId × FieldType)) (ad : Nat → Nat) (N : Nat) (w : Nat → va_E) (sz : Nat) (U : State) : Prop :=
  U.heap.size = sz ∧ va_P D vwCl (wl ad N w) U.heap ∧ va_K D vwCl tys U ∧ va_D (fun _ => True) (wl ad N w)
theorem cP_blind {av : List Value} {D : va_G} {tys : List (ClassId × FieldType)} {ad : Nat → Nat} {N : Nat} {w : Nat → va_E} {sz : Nat} : FrameBlind (va_Pc av (cP D tys ad N w sz)) := fun a U g mk q => by
  obtain ⟨q0, q1, qP, qK, qD⟩ := q
  exact ⟨q0, q1, qP, va_K.moved (u := U) (U := U.calling g mk a) (Vm.Alike.refl U.vm) qK, qD⟩
def QW (D : va_G) (tys : List (ClassId × FieldType)) (ad : Nat → Nat) (N sz : Nat) (r : Option Value) (PU : (Nat → va_E) → Prop) : Array Value → State → Outcome → State → Prop := fun _ st o t =>
  o = .returned r ∧ ∃ u : Nat → va_E, PU u ∧ va_P D vwCl (wl ad N u) t.heap ∧ va_K D vwCl tys t ∧ va_F (xA ad N sz) st t
def MW (l : Launch) (y : MethodName) (k : Cond) (rm : Room) (av : List Value) (D : va_G) (tys : List (ClassId × FieldType)) (ad : Nat → Nat) (N : Nat) (w : Nat → va_E) (sz : Nat) (r : Option Value) (PU : (Nat → va_E) → Prop) : Prop :=
  Met l y (wq k) rm (va_Pc av (cP D tys ad N w sz)) (QW D tys ad N sz r PU) 0 0 (xA ad N sz)
theorem MW.of {l : Launch} {y : MethodName} {bytes : ByteArray} {maxL : Nat} {ret : Option FieldType} {rm : Room} {av : List Value} {D : va_G} {tys : List (ClassId × FieldType)} {ad : Nat → Nat} {N : Nat} {w : Nat → va_E} {sz : Nat} {r : Option Value} {PU : (Nat → va_E) → Prop} (hy : plainName y.cls = true) (hav : (lg_sl av).length ≤ maxL)
    (body : ∀ (p : Program) (e : Env) (s : State) (m : MethodId) (below : List Frame) (meth : Method) (c : Code) (ls : Array Slot), CallFix p m c bytes maxL s av.toArray wsL_law y.cls → meth.sig.returnType = ret → meth.locks = false → lv_has ls maxL (lv_args 0 av) → WW D vwCl tys (xA ad N s.heap.size) s.heap ad N w s s.heap [] →
      W p l e rm s m av.toArray below meth c s.heap [] 0 0 (MQ below (QW D tys ad N s.heap.size r PU) av.toArray s 0 0 (xA ad N s.heap.size)) (F0 m 0 ls [])) : MW l y (.code y bytes maxL ret) rm av D tys ad N w sz r PU := by
  refine Met.ofW (cc := bytes) (maxL := maxL) (ret := ret) hy rfl ?_
  intro p e s m args below meth c s₁ B hml hv
  obtain ⟨rfl, rfl, hP, hK, hD⟩ := hv
  rw [lg_entry_eq]
  exact body p e s m below meth c _ ⟨B.exec, B.bytes, hml, findClass_of_methodNamed B.named, fun w hw => atoms_spec (ws := wq (.code y bytes maxL ret)) B.pre w (List.mem_cons_of_mem _ hw)⟩ B.returns B.notSynchronized (lv_entry av hav) ⟨hK, hP, wl_DA hD, va_S.rf⟩
section XWR
variable {p : Program} {l : Launch} {e : Env} {R : Room} {s : State} {m : MethodId} {args : Array Value} {below : List Frame} {meth : Method} {c : Code} {H : Heap} {locs : List Loc} {cells slots : Nat} {Q : State → Prop}
variable {y : MethodName} {bytes cc : ByteArray} {maxL nL index : Nat} {ret : Option FieldType} {rm : Room} {own : String} {As rest : List Value} {pc : Nat} {ls : Array Slot}
variable {D : va_G} {tys : List (ClassId × FieldType)} {A : Nat → Prop} {H0 : Heap} {ad : Nat → Nat} {N : Nat} {w u : Nat → va_E} {PU : (Nat → va_E) → Prop}
theorem x_wretV (hx : p.tables.exec = Jvm.exec) (hb : c.code = cc) (hr : meth.sig.returnType = none) (hlocks : meth.locks = false) (hw : WW D vwCl tys (xA ad N s.heap.size) s.heap ad N u s H locs) (hPU : PU u) (hdg : decode cc pc = .ok (.return_, 1)) : W p l e R s m args below meth c H locs 0 0 (MQ below (QW D tys ad N s.heap.size none PU) args s 0 0 (xA ad N s.heap.size)) (F0 m pc ls []) :=
  W.vret hx hb hr (fun t ht hW => ⟨rfl, u, hPU, by rw [ht]; exact hw.2.1, va_K.moved hW.alike hw.1, hw.2.2.2.F ht⟩) hw.2.2.2.2.2 hdg hlocks
theorem x_wretI {v : Int32} (hx : p.tables.exec = Jvm.exec) (hb : c.code = cc) (hr : meth.sig.returnType = some .int) (hlocks : meth.locks = false) (hw : WW D vwCl tys (xA ad N s.heap.size) s.heap ad N u s H locs) (hPU : PU u) (hdg : decode cc pc = .ok (.ireturn, 1)) : W p l e R s m args below meth c H locs 0 0 (MQ below (QW D tys ad N s.heap.size (some (.int v)) PU) args s 0 0 (xA ad N s.heap.size)) (F0 m pc ls [.int v]) :=
  W.iret hx hb hr (fun t ht hW => ⟨rfl, u, hPU, by rw [ht]; exact hw.2.1, va_K.moved hW.alike hw.1, hw.2.2.2.F ht⟩) hw.2.2.2.2.2 hdg hlocks
theorem x_wretZ {v : Int32} (hx : p.tables.exec = Jvm.exec) (hb : c.code = cc) (hr : meth.sig.returnType = some .boolean) (hlocks : meth.locks = false) (hn : narrow .boolean (.int v) = .int v) (hw : WW D vwCl tys (xA ad N s.heap.size) s.heap ad N u s H locs) (hPU : PU u) (hdg : decode cc pc = .ok (.ireturn, 1)) : W p l e R s m args below meth c H locs 0 0 (MQ below (QW D tys ad N s.heap.size (some (.int v)) PU) args s 0 0 (xA ad N s.heap.size)) (F0 m pc ls [.int v]) :=
  W.zret hx hb hr hn (fun t ht hW => ⟨rfl, u, hPU, by rw [ht]; exact hw.2.1, va_K.moved hW.alike hw.1, hw.2.2.2.F ht⟩) hw.2.2.2.2.2 hdg hlocks
theorem x_wretL {v : Int64} (hx : p.tables.exec = Jvm.exec) (hb : c.code = cc) (hr : meth.sig.returnType = some .long) (hlocks : meth.locks = false) (hw : WW D vwCl tys (xA ad N s.heap.size) s.heap ad N u s H locs) (hPU : PU u) (hdg : decode cc pc = .ok (.lreturn, 1)) : W p l e R s m args below meth c H locs 0 0 (MQ below (QW D tys ad N s.heap.size (some (.long v)) PU) args s 0 0 (xA ad N s.heap.size)) (F0 m pc ls [.long v]) :=
  W.lret hx hb hr (fun t ht hW => ⟨rfl, u, hPU, by rw [ht]; exact hw.2.1, va_K.moved hW.alike hw.1, hw.2.2.2.F ht⟩) hw.2.2.2.2.2 hdg hlocks
/-- behind a call that ran over the whole world -/
theorem x_after {r : Option Value} {a : Array Value} {st0 : List Value} (hr : va_Run p l e R s m args below meth c H locs cells slots 0 0 (F0 m pc ls st0) rest (QW D tys ad N H.size r PU a) (xA ad N H.size)) (hw : WW D vwCl tys A H0 ad N w s H locs) (hA : ∀ q, H0.size ≤ q → A q)
    (kk : ∀ (u : Nat → va_E) (H1 : Heap) (locs1 : List Loc), PU u → WW D vwCl tys A H0 ad N u s H1 locs1 → W p l e R s m args below meth c H1 locs1 cells slots Q (F0 m (pc + 3) ls (r.toList ++ rest))) : W p l e R s m args below meth c H locs cells slots Q (F0 m pc ls st0) := by
  intro T hT X
  obtain ⟨v, st₀, t, T', L, h0, X', hL, e1, e2, ⟨hv, u, hpu, hP, hK, hF⟩, st⟩ := hr T hT X
  cases hv
  obtain ⟨hK0, hP0, hD0, hS0⟩ := hw
  have hsub : ∀ q, xA ad N H.size q → A q := by
    intro q hq
    rcases hq with ⟨k, hk, rfl⟩ | hq
    · exact hD0.2 k _ (wl_get hk rfl)
    · exact hA q (Nat.le_trans hS0.1 hq)
  obtain ⟨hz, hk⟩ := hF
  rw [h0] at hz hk
  obtain ⟨t2, a1, b1⟩ := kk u T'.heap (locs ++ L) hpu ⟨hK0, by rw [e1]; exact hP, wl_D hD0, Nat.le_trans hS0.1 (by rw [e1]; exact hz), fun q h1 h2 => by
      rw [e1, hk q (Nat.lt_of_lt_of_le h1 hS0.1) (fun z => h2 (hsub q z))]
      exact hS0.2.1 q h1 h2, fun q hq => by
      rcases List.mem_append.mp hq with h | h
      · exact hS0.2.2 q h
      · exact hsub _ (hL q h)⟩ T' rfl X'
  exact ⟨t2, st t2 a1, b1⟩
theorem x_callW {r : Option Value} (S : CallFix p m c cc nL s args wsL_law own) (hF : VF own index y bytes maxL ret As.length) (hw : WW D vwCl tys A H0 ad N w s H locs) (hA : ∀ q, H0.size ≤ q → A q) {k0 ci : Nat} {fs : List Value} {rC : vw_C} (hk0 : k0 < N) (he : w k0 = .inr (ci, fs)) (hc : vwCl[ci]? = some rC) (hcls : rC.1 = y.cls) (hM : MW l y (.code y bytes maxL ret) rm (.ref (ad k0) :: As) D tys ad N w H.size r PU) (hR : RF R rm 0 0 maxL) (hsize : ls.size = nL) (hW : (rest.map fun v => v.category).sum ≤ 16) (hdg : decode cc pc = .ok (.invokevirtual index, 3)) (hf : cells ≤ R.cells ∧ slots ≤ R.slots) {st0 : List Value} (hst : st0 = As.reverse ++ .ref (ad k0) :: rest)
    (kk : ∀ (u : Nat → va_E) (H1 : Heap) (locs1 : List Loc), PU u → WW D vwCl tys A H0 ad N u s H1 locs1 → W p l e R s m args below meth c H1 locs1 cells slots Q (F0 m (pc + 3) ls (r.toList ++ rest))) : W p l e R s m args below meth c H locs cells slots Q (F0 m pc ls st0) := by
  subst hst
  refine x_after (x_runV (e := e) (below := below) (meth := meth) (H := H) (locs := locs) (cells := cells) (slots := slots) (rest := rest) S hF hM hR ⟨cP_blind, ?_, fun U hU hW => ⟨rfl, by rw [hU], by rw [hU]; exact hw.2.1, va_K.moved hW.alike hw.1, hw.2.2.1.weaken (fun _ _ _ _ => trivial)⟩⟩ hsize hW hdg hf) hw hA kk
  rw [← hcls]
  exact va_recv hw.1 hw.2.1 hc (wl_get hk0 he)
theorem x_callW1 {v : Value} (S : CallFix p m c cc nL s args wsL_law own) (hF : VF own index y bytes maxL ret As.length) (hw : WW D vwCl tys A H0 ad N w s H locs) (hA : ∀ q, H0.size ≤ q → A q) {k0 ci : Nat} {fs : List Value} {rC : vw_C} (hk0 : k0 < N) (he : w k0 = .inr (ci, fs)) (hc : vwCl[ci]? = some rC) (hcls : rC.1 = y.cls) (hM : MW l y (.code y bytes maxL ret) rm (.ref (ad k0) :: As) D tys ad N w H.size (some v) PU) (hR : RF R rm 0 0 maxL) (hsize : ls.size = nL) (hW : (rest.map fun v => v.category).sum ≤ 16) (hdg : decode cc pc = .ok (.invokevirtual index, 3)) (hf : cells ≤ R.cells ∧ slots ≤ R.slots) {st0 : List Value} (hst : st0 = As.reverse ++ .ref (ad k0) :: rest)
    (kk : ∀ (u : Nat → va_E) (H1 : Heap) (locs1 : List Loc), PU u → WW D vwCl tys A H0 ad N u s H1 locs1 → W p l e R s m args below meth c H1 locs1 cells slots Q (F0 m (pc + 3) ls (v :: rest))) : W p l e R s m args below meth c H locs cells slots Q (F0 m pc ls st0) :=
  x_callW S hF hw hA hk0 he hc hcls hM hR hsize hW hdg hf hst kk
theorem x_callW0 (S : CallFix p m c cc nL s args wsL_law own) (hF : VF own index y bytes maxL ret As.length) (hw : WW D vwCl tys A H0 ad N w s H locs) (hA : ∀ q, H0.size ≤ q → A q) {k0 ci : Nat} {fs : List Value} {rC : vw_C} (hk0 : k0 < N) (he : w k0 = .inr (ci, fs)) (hc : vwCl[ci]? = some rC) (hcls : rC.1 = y.cls) (hM : MW l y (.code y bytes maxL ret) rm (.ref (ad k0) :: As) D tys ad N w H.size none PU) (hR : RF R rm 0 0 maxL) (hsize : ls.size = nL) (hW : (rest.map fun v => v.category).sum ≤ 16) (hdg : decode cc pc = .ok (.invokevirtual index, 3)) (hf : cells ≤ R.cells ∧ slots ≤ R.slots) {st0 : List Value} (hst : st0 = As.reverse ++ .ref (ad k0) :: rest)
    (kk : ∀ (u : Nat → va_E) (H1 : Heap) (locs1 : List Loc), PU u → WW D vwCl tys A H0 ad N u s H1 locs1 → W p l e R s m args below meth c H1 locs1 cells slots Q (F0 m (pc + 3) ls rest)) : W p l e R s m args below meth c H locs cells slots Q (F0 m pc ls st0) :=
  x_callW S hF hw hA hk0 he hc hcls hM hR hsize hW hdg hf hst kk
end XWR
end
section
/-! remainders of longs; bits counted -/
theorem emod_of_tmod (x b : Int) : x % b = x.tmod b % b := by
  have h := Int.tmod_def x b
  generalize x.tmod b = r at h ⊢
  generalize x.tdiv b = q at h
  have hx : x = r + b * q := by omega
  rw [hx, Int.add_mul_emod_self_left]
theorem l_nn (x : Int64) : 0 ≤ x ↔ x.toBitVec.msb = false := by
  rw [Int64.le_iff_toInt_le, BitVec.msb_eq_toInt]
  show (0 : Int64).toInt ≤ x.toInt ↔ decide (x.toInt < 0) = false
  rw [show (0 : Int64).toInt = 0 by decide]
  simp
theorem l_xor_nn {x y : Int64} (hy : 0 ≤ y) : 0 ≤ x ^^^ y ↔ 0 ≤ x := by
  rw [l_nn] at hy
  rw [l_nn, l_nn, Int64.toBitVec_xor, BitVec.msb_xor, hy]
  simp
theorem lN_nn {b : Nat} (h : b < 2 ^ 63) : (0 : Int64) ≤ lN b := by
  rw [Int64.le_iff_toInt_le, pk_lT h, show (0 : Int64).toInt = 0 by decide]
  omega
theorem md_int (x : Int64) {b : Nat} (h : 0 < b) : (md x b : Int) = x.toInt % (b : Int) := by
  unfold md
  have h2 := Int.emod_nonneg x.toInt (show (b : Int) ≠ 0 by omega)
  omega
theorem rem_nn {x : Int64} {b : Nat} (h0 : 0 < b) (hb : b < 2 ^ 31) (hx : 0 ≤ x) : x - x / lN b * lN b = lN (md x b) := by
  apply Int64.toInt_inj.mp
  have hm := md_lt x h0
  have hx' : 0 ≤ x.toInt := by
    have := Int64.le_iff_toInt_le.mp hx
    rwa [show (0 : Int64).toInt = 0 by decide] at this
  rw [Jvm.Kit.i64_rem, pk_lT (by omega), pk_lT (by omega), md_int x h0, Int.tmod_eq_emod_of_nonneg hx']
theorem rem_z {x : Int64} {b : Nat} (h0 : 0 < b) (hb : b < 2 ^ 31) (hz : x - x / lN b * lN b = lN 0) : x - x / lN b * lN b = lN (md x b) := by
  have h1 : x.toInt.tmod (b : Int) = 0 := by
    have := congrArg Int64.toInt hz
    rwa [Jvm.Kit.i64_rem, pk_lT (by omega), pk_lT (by decide)] at this
  have h2 : md x b = 0 := by
    have := md_int x h0
    rw [emod_of_tmod, h1] at this
    simpa using this
  rw [hz, h2]
theorem rem_neg {x : Int64} {b : Nat} (h0 : 0 < b) (hb : b < 2 ^ 31) (hx : ¬ 0 ≤ x) (hz : ¬ x - x / lN b * lN b = lN 0) : x - x / lN b * lN b + lN b = lN (md x b) := by
  have hm := md_lt x h0
  have hx' : x.toInt < 0 := by
    have h : ¬ (0 : Int64).toInt ≤ x.toInt := fun q => hx (Int64.le_iff_toInt_le.mpr q)
    rw [show (0 : Int64).toInt = 0 by decide] at h
    omega
  have ht : (x - x / lN b * lN b).toInt = x.toInt.tmod (b : Int) := by rw [Jvm.Kit.i64_rem, pk_lT (by omega)]
  have hlt := tmod_bounds (a := x.toInt) (M := (b : Int)) (by omega)
  have hle : x.toInt.tmod (b : Int) ≤ 0 := by
    have h1 := Int.tmod_nonneg (b : Int) (show 0 ≤ -x.toInt by omega)
    rw [Int.neg_tmod] at h1
    omega
  have hne : x.toInt.tmod (b : Int) ≠ 0 := by
    intro q
    apply hz
    apply Int64.toInt_inj.mp
    rw [ht, q, pk_lT (by decide)]
    rfl
  have hmd : (md x b : Int) = x.toInt.tmod (b : Int) + b := by
    rw [md_int x h0, emod_of_tmod]
    generalize x.toInt.tmod (b : Int) = r at *
    have := Int.emod_eq_of_lt (a := r + b) (b := (b : Int)) (by omega) (by omega)
    rw [← this, Int.add_emod_right]
  apply Int64.toInt_inj.mp
  rw [Int64.toInt_add, ht, pk_lT (by omega), pk_lT (by omega), hmd]
  rw [Int.bmod_def]
  omega
def bcI (x : Int32) : Int32 :=
  let i1 := x - ((x.toUInt32 >>> ((nI 1).toUInt32 &&& Int32.toUInt32 31)).toInt32 &&& nI 1431655765)
  let i2 := (i1 &&& nI 858993459) + ((i1.toUInt32 >>> ((nI 2).toUInt32 &&& Int32.toUInt32 31)).toInt32 &&& nI 858993459)
  let i3 := (i2 + (i2.toUInt32 >>> ((nI 4).toUInt32 &&& Int32.toUInt32 31)).toInt32) &&& nI 252645135
  let i4 := i3 + (i3.toUInt32 >>> ((nI 8).toUInt32 &&& Int32.toUInt32 31)).toInt32
  let i5 := i4 + (i4.toUInt32 >>> ((nI 16).toUInt32 &&& Int32.toUInt32 31)).toInt32
  i5 &&& nI 63
def bN1 (b : Nat) : Nat := b - ((b / 2) &&& 1431655765)
def bN2 (b : Nat) : Nat := (b &&& 858993459) + ((b / 4) &&& 858993459)
def bN3 (b : Nat) : Nat := (b + b / 16) &&& 252645135
def bN4 (b : Nat) : Nat := b + b / 256
def bN5 (b : Nat) : Nat := b + b / 65536
def bcN (b : Nat) : Nat := bN5 (bN4 (bN3 (bN2 (bN1 b)))) &&& 63
def pcN (b : Nat) : Nat := tb b 0 + tb b 1 + tb b 2 + tb b 3 + tb b 4 + tb b 5 + tb b 6 + tb b 7 + tb b 8 + tb b 9 + tb b 10 + tb b 11 + tb b 12 + tb b 13 + tb b 14 + tb b 15 + tb b 16
theorem nI_and (a b : Nat) : nI a &&& nI b = nI (a &&& b) := by
  apply Int32.toBitVec_inj.mp
  rw [Int32.toBitVec_and]
  show BitVec.ofNat 32 a &&& BitVec.ofNat 32 b = BitVec.ofNat 32 (a &&& b)
  rw [BitVec.ofNat_and]
theorem bcI_N {b : Nat} (h : b < 131072) : bcI (nI b) = nI (bcN b) := by
  have u : ∀ {n : Nat} (k : Nat) (s : Int32), n < 2 ^ 32 → ((s.toUInt32 &&& Int32.toUInt32 31).toBitVec % 32).toNat = k → ((nI n).toUInt32 >>> (s.toUInt32 &&& Int32.toUInt32 31)).toInt32 = nI (n / 2 ^ k) := fun k s hn hs => pk_ushrN hn s k hs
  have a1 : (b / 2) &&& 1431655765 ≤ b / 2 := Nat.and_le_left
  have h1 : bN1 b ≤ b := Nat.sub_le _ _
  have a2 : bN1 b &&& 858993459 ≤ bN1 b := Nat.and_le_left
  have a3 : (bN1 b / 4) &&& 858993459 ≤ bN1 b / 4 := Nat.and_le_left
  have h2 : bN2 (bN1 b) ≤ bN1 b + bN1 b / 4 := Nat.add_le_add a2 a3
  have h3 : bN3 (bN2 (bN1 b)) ≤ bN2 (bN1 b) + bN2 (bN1 b) / 16 := Nat.and_le_left
  have h4 : bN4 (bN3 (bN2 (bN1 b))) = bN3 (bN2 (bN1 b)) + bN3 (bN2 (bN1 b)) / 256 := rfl
  have e1 : nI b - (((nI b).toUInt32 >>> ((nI 1).toUInt32 &&& Int32.toUInt32 31)).toInt32 &&& nI 1431655765) = nI (bN1 b) := by
    rw [u 1 (nI 1) (by omega) (by decide), nI_and, pk_sub (Nat.le_trans Nat.and_le_left (Nat.div_le_self _ _))]
    rfl
  have e2 : (nI (bN1 b) &&& nI 858993459) + (((nI (bN1 b)).toUInt32 >>> ((nI 2).toUInt32 &&& Int32.toUInt32 31)).toInt32 &&& nI 858993459) = nI (bN2 (bN1 b)) := by
    rw [u 2 (nI 2) (by omega) (by decide), nI_and, nI_and, nI_add]
    rfl
  have e3 : (nI (bN2 (bN1 b)) + ((nI (bN2 (bN1 b))).toUInt32 >>> ((nI 4).toUInt32 &&& Int32.toUInt32 31)).toInt32) &&& nI 252645135 = nI (bN3 (bN2 (bN1 b))) := by
    rw [u 4 (nI 4) (by omega) (by decide), nI_add, nI_and]
    rfl
  have e4 : nI (bN3 (bN2 (bN1 b))) + ((nI (bN3 (bN2 (bN1 b)))).toUInt32 >>> ((nI 8).toUInt32 &&& Int32.toUInt32 31)).toInt32 = nI (bN4 (bN3 (bN2 (bN1 b)))) := by
    rw [u 8 (nI 8) (by omega) (by decide), nI_add]
    rfl
  have e5 : nI (bN4 (bN3 (bN2 (bN1 b)))) + ((nI (bN4 (bN3 (bN2 (bN1 b))))).toUInt32 >>> ((nI 16).toUInt32 &&& Int32.toUInt32 31)).toInt32 = nI (bN5 (bN4 (bN3 (bN2 (bN1 b))))) := by
    rw [u 16 (nI 16) (by omega) (by decide), nI_add]
    rfl
  unfold bcI
  dsimp only
  rw [e1, e2, e3, e4, e5, nI_and]
  rfl
end
section
/-! the count of bits, looked at for all numbers below 2^17 -/
def bcOk : Nat → Nat → Bool
  | 0, n => Nat.beq (bcN n) (pcN n)
  | d + 1, n => bcOk d n && bcOk d (n + 2 ^ d)
theorem bcOk_at : ∀ (d n b : Nat), bcOk d n = true → n ≤ b → b < n + 2 ^ d → bcN b = pcN b := by
  intro d
  induction d with
  | zero =>
    intro n b h h1 h2
    have : b = n := by
      rw [Nat.pow_zero] at h2
      omega
    subst this
    exact Nat.eq_of_beq_eq_true h
  | succ d ih =>
    intro n b h h1 h2
    have h' : bcOk d n = true ∧ bcOk d (n + 2 ^ d) = true := by
      have h3 : (bcOk d n && bcOk d (n + 2 ^ d)) = true := h
      simpa using h3
    rw [Nat.pow_succ] at h2
    by_cases hb : b < n + 2 ^ d
    · exact ih n b h'.1 h1 hb
    · exact ih (n + 2 ^ d) b h'.2 (by omega) (by omega)
set_option maxRecDepth 100000 in
theorem bcOk_0 : bcOk 15 0 = true := by decide +kernel
set_option maxRecDepth 100000 in
theorem bcOk_1 : bcOk 15 32768 = true := by decide +kernel
set_option maxRecDepth 100000 in
theorem bcOk_2 : bcOk 15 65536 = true := by decide +kernel
set_option maxRecDepth 100000 in
theorem bcOk_3 : bcOk 15 98304 = true := by decide +kernel
theorem bc_pc {b : Nat} (h : b < 131072) : bcI (nI b) = nI (pcN b) := by
  rw [bcI_N h]
  congr 1
  rcases Nat.lt_or_ge b 32768 with h1 | h1
  · exact bcOk_at 15 0 b bcOk_0 (by omega) (by omega)
  rcases Nat.lt_or_ge b 65536 with h2 | h2
  · exact bcOk_at 15 32768 b bcOk_1 (by omega) (by omega)
  rcases Nat.lt_or_ge b 98304 with h3 | h3
  · exact bcOk_at 15 65536 b bcOk_2 (by omega) (by omega)
  · exact bcOk_at 15 98304 b bcOk_3 (by omega) (by omega)
end
section
/-! methods of numbers: BeaconRing.Numbers, Math.floorMod, Integer.bitCount -/
theorem sh_k : ∀ n, n < 32 → ((nI n &&& 31).toBitVec.smod 32).toNat = n := by decide +kernel
theorem hb_val {b k : Nat} (hb : b < 2 ^ 31) (hk : k < 32) : (nI b >>> (nI k &&& 31)) &&& nI 1 = nI (tb b k) := by
  rw [pk_shrN hb _ k (sh_k k hk), pk_andN (by have := Nat.div_le_self b (2 ^ k); omega) 1 (by decide)]
  rfl
theorem MS.ofF {l : Launch} {y : MethodName} {bytes : ByteArray} {maxL : Nat} {ret : Option FieldType} {rm : Room} {av : List Value} {v : Value} (hy : plainFor y = true) (hav : (lg_sl av).length ≤ maxL)
    (body : ∀ (p : Program) (e : Env) (s : State) (m : MethodId) (below : List Frame) (meth : Method) (c : Code) (ls : Array Slot), CallFix p m c bytes maxL s av.toArray wsL_law y.cls → meth.sig.returnType = ret → meth.locks = false → lv_has ls maxL (lv_args 0 av) →
      W p l e rm s m av.toArray below meth c s.heap [] 0 0 (MQ below (QS v) av.toArray s 0 0 (fun _ => False)) (F0 m 0 ls [])) : MS l y (.code y bytes maxL ret) rm av v := by
  refine va_MetF (cc := bytes) (maxL := maxL) (ret := ret) hy rfl ?_
  intro p e s m args below meth c s₁ B hml hv
  obtain ⟨rfl, -⟩ := hv
  rw [lg_entry_eq]
  exact body p e s m below meth c _ ⟨B.exec, B.bytes, hml, findClass_of_methodNamed B.named, fun w hw => atoms_spec (ws := wq (.code y bytes maxL ret)) B.pre w (List.mem_cons_of_mem _ hw)⟩ B.returns B.notSynchronized (lv_entry av hav)
theorem mul_lt62 {a b : Nat} (ha : a < 2 ^ 31) (hb : b < 2 ^ 31) : a * b < 2 ^ 62 := by
  have := Nat.mul_lt_mul'' ha hb
  simpa using this

set_option maxHeartbeats 4000000 in
set_option maxRecDepth 100000 in
theorem k_hasBit (l : Launch) (b k : Nat) (hb0 : b < 2 ^ 31) (hk : k < 32) : MS l yX1_hasBit (.code yX1_hasBit cX1_hasBit 2 (some .boolean)) ({ frames := 0, cells := 0, slots := 0, locals := 0 }) [.int (nI b), .int (nI k)] (.int (nI (tb b k))) := by
  refine MS.of (by decide) (Nat.le_of_ble_eq_true rfl) ?_
  intro p e s m below meth c ls hC hr hlocks hl
  obtain ⟨hx, hb, hml, hown, hts⟩ := id hC
  have hl : lv_has ls 2 [(0, .int (nI b)), (1, .int (nI k))] := hl
  have htb := tb_lt b k
  refine lv_iload_n hx hb dX1_hasBit_0 rfl (lv_at hl 0 rfl) ?_
  refine lv_iload_n hx hb dX1_hasBit_1 rfl (lv_at hl 1 rfl) ?_
  refine lv_ishr hx hb dX1_hasBit_2 ?_
  refine lv_iconst (v := nI 1) hx hb dX1_hasBit_3 (by decide) ?_
  refine lv_iand hx hb dX1_hasBit_4 ?_
  rw [hb_val hb0 hk]
  refine lv_if_eq (tgt := 12) hx hb dX1_hasBit_5 (by decide) (fun hc => ?_) (fun hc => ?_)
  · rw [nI_z (by omega)] at hc
    rw [hc]
    refine lv_iconst (v := nI 0) hx hb dX1_hasBit_12 (by decide) ?_
    exact x_retZ hx hb hr hlocks (by decide) dX1_hasBit_13
  · rw [nI_z (by omega)] at hc
    rw [show tb b k = 1 by omega]
    refine lv_iconst (v := nI 1) hx hb dX1_hasBit_8 (by decide) ?_
    refine lv_goto (tgt := 13) hx hb dX1_hasBit_9 (by decide) ?_
    exact x_retZ hx hb hr hlocks (by decide) dX1_hasBit_13
set_option maxHeartbeats 4000000 in
set_option maxRecDepth 100000 in
theorem k_times (l : Launch) (a b : Nat) (ha : a < 2 ^ 31) (hb0 : b < 2 ^ 31) : MS l yX1_times (.code yX1_times cX1_times 2 (some .int)) ({ frames := 0, cells := 0, slots := 0, locals := 0 }) [.int (nI a), .int (nI b)] (.int (nI (a * b % 2147483579))) := by
  refine MS.of (by decide) (Nat.le_of_ble_eq_true rfl) ?_
  intro p e s m below meth c ls hC hr hlocks hl
  obtain ⟨hx, hb, hml, hown, hts⟩ := id hC
  have hl : lv_has ls 2 [(0, .int (nI a)), (1, .int (nI b))] := hl
  have hab := mul_lt62 ha hb0
  refine lv_iload_n hx hb dX1_times_0 rfl (lv_at hl 0 rfl) ?_
  refine lv_i2l hx hb dX1_times_1 (nI_l (by omega)) ?_
  refine lv_iload_n hx hb dX1_times_2 rfl (lv_at hl 1 rfl) ?_
  refine lv_i2l hx hb dX1_times_3 (nI_l (by omega)) ?_
  refine lv_lmul hx hb dX1_times_4 ?_
  rw [lN_mul]
  refine lv_ldc2 hx hb hown (hts _ ct_X1_9) dX1_times_5 ?_
  refine lv_lrem hx hb dX1_times_8 (by decide) ?_
  rw [pk_lRem (by omega) (by decide) (by decide)]
  refine lv_l2i hx hb dX1_times_9 (lN_i _) ?_
  exact x_retI hx hb hr hlocks dX1_times_10
set_option maxHeartbeats 4000000 in
set_option maxRecDepth 100000 in
theorem k_stir (l : Launch) (h x : Int64) : MS l yX1_stir (.code yX1_stir cX1_stir 6 (some .long)) ({ frames := 0, cells := 0, slots := 0, locals := 0 }) [.long h, .long x] (.long (stirF h x)) := by
  refine MS.of (by decide) (Nat.le_of_ble_eq_true rfl) ?_
  intro p e s m below meth c ls hC hr hlocks hl
  obtain ⟨hx, hb, hml, hown, hts⟩ := id hC
  have hl : lv_has ls 6 [(0, .long h), (2, .long x)] := hl
  refine lv_lload_n hx hb dX1_stir_0 rfl (lv_at hl 0 rfl) ?_
  refine lv_lload_n hx hb dX1_stir_1 rfl (lv_at hl 1 rfl) ?_
  refine lv_ladd hx hb dX1_stir_2 ?_
  refine lv_ldc2 hx hb hown (hts _ ct_X1_35) dX1_stir_3 ?_
  refine lv_lmul hx hb dX1_stir_6 ?_
  refine lv_ldc2 hx hb hown (hts _ ct_X1_37) dX1_stir_7 ?_
  refine lv_ladd hx hb dX1_stir_10 ?_
  refine lv_lstore (lv' := [(4, .long (((h + x) * ((6364136223846793005))) + ((1442695040888963407)))), (0, .long h), (2, .long x)]) hx hb dX1_stir_11 hl (by decide) rfl (fun ls hl => ?_)
  refine lv_lload hx hb dX1_stir_13 (lv_at hl 0 rfl) ?_
  refine lv_lload hx hb dX1_stir_15 (lv_at hl 0 rfl) ?_
  refine lv_bipush (v := nI 29) hx hb dX1_stir_17 (by decide) ?_
  refine lv_lushr hx hb dX1_stir_19 rfl ?_
  refine lv_lxor hx hb dX1_stir_20 ?_
  refine lv_ldc2 hx hb hown (hts _ ct_X1_39) dX1_stir_21 ?_
  refine lv_lmul hx hb dX1_stir_24 ?_
  refine lv_lstore (lv' := [(4, .long (((((h + x) * ((6364136223846793005))) + ((1442695040888963407))) ^^^ (((((h + x) * ((6364136223846793005))) + ((1442695040888963407))).toUInt64 >>> ((nI 29).toInt64.toUInt64 &&& Int64.toUInt64 63)).toInt64)) * ((2862933555777941757)))), (0, .long h), (2, .long x)]) hx hb dX1_stir_25 hl (by decide) rfl (fun ls hl => ?_)
  refine lv_lload hx hb dX1_stir_27 (lv_at hl 0 rfl) ?_
  refine lv_lload hx hb dX1_stir_29 (lv_at hl 0 rfl) ?_
  refine lv_bipush (v := nI 32) hx hb dX1_stir_31 (by decide) ?_
  refine lv_lushr hx hb dX1_stir_33 rfl ?_
  refine lv_lxor hx hb dX1_stir_34 ?_
  exact x_retL hx hb hr hlocks dX1_stir_35
set_option maxHeartbeats 4000000 in
set_option maxRecDepth 100000 in
theorem k_hash (l : Launch) (a b : Int64) : MS l yX1_hash (.code yX1_hash cX1_hash 4 (some .long)) ({ frames := 1, cells := 0, slots := 0, locals := 33 }) [.long a, .long b] (.long (stirF (stirF (lN 0) a) b)) := by
  refine MS.of (by decide) (Nat.le_of_ble_eq_true rfl) ?_
  intro p e s m below meth c ls hC hr hlocks hl
  obtain ⟨hx, hb, hml, hown, hts⟩ := id hC
  have hl : lv_has ls 4 [(0, .long a), (2, .long b)] := hl
  refine lv_lconst (v := lN 0) hx hb dX1_hash_0 (by decide) ?_
  refine lv_lload_n hx hb dX1_hash_1 rfl (lv_at hl 0 rfl) ?_
  refine x_callS (As := [.long (lN 0), .long a]) (rest := []) hC sf_X1_32 (k_stir l (lN 0) a) ⟨rfl, rfl, Nat.le_of_ble_eq_true rfl, Nat.le_of_ble_eq_true rfl⟩ hl.1 (Nat.le_of_ble_eq_true rfl) dX1_hash_2 ⟨Nat.zero_le _, Nat.zero_le _⟩ rfl ?_
  refine lv_lload_n hx hb dX1_hash_5 rfl (lv_at hl 1 rfl) ?_
  refine x_callS (As := [.long (stirF (lN 0) a), .long b]) (rest := []) hC sf_X1_32 (k_stir l (stirF (lN 0) a) b) ⟨rfl, rfl, Nat.le_of_ble_eq_true rfl, Nat.le_of_ble_eq_true rfl⟩ hl.1 (Nat.le_of_ble_eq_true rfl) dX1_hash_6 ⟨Nat.zero_le _, Nat.zero_le _⟩ rfl ?_
  exact x_retL hx hb hr hlocks dX1_hash_9
set_option maxHeartbeats 4000000 in
set_option maxRecDepth 100000 in
theorem k_power_loop {l : Launch} {p : Program} {e : Env} {s : State} {m : MethodId} {args : Array Value} {below : List Frame} {meth : Method} {c : Code} {H : Heap} {locs : List Loc} {Q : State → Prop} (hC : CallFix p m c cX1_power 4 s args wsL_law RX1) (a x : Nat) (ha : a < 2147483579) (hx0 : x < 2 ^ 31)
    (kx : ∀ ls : Array Slot, lv_has ls 4 [(2, .int (nI (a ^ x % 2147483579)))] → W p l e ({ frames := 1, cells := 0, slots := 0, locals := 29 }) s m args below meth c H locs 0 0 Q (F0 m 35 ls [])) :
    ∀ (b r : Nat), b ≤ 31 → r = a ^ (x / 2 ^ b) % 2147483579 → ∀ ls : Array Slot, lv_has ls 4 [(0, .int (nI a)), (1, .int (nI x)), (2, .int (nI r)), (3, .int (nI b - 1))] → W p l e ({ frames := 1, cells := 0, slots := 0, locals := 29 }) s m args below meth c H locs 0 0 Q (F0 m 5 ls []) := by
  obtain ⟨hx, hb, hml, hown, hts⟩ := id hC
  intro b
  induction b with
  | zero =>
    intro r _ hr0 ls hl
    refine lv_iload_n hx hb dX1_power_5 rfl (lv_at hl 3 rfl) ?_
    refine lv_if_lt (tgt := 35) hx hb dX1_power_6 (by decide) (fun hc => ?_) (fun hc => absurd (show nI 0 - 1 < 0 by decide) hc)
    refine kx ls (lv_sub hl [2] ?_)
    rw [hr0, Nat.pow_zero, Nat.div_one]
    rfl
  | succ b ih =>
    intro r hb31 hr0 ls hl
    have hrP : r < 2147483579 := by rw [hr0]; exact Nat.mod_lt _ (by decide)
    have hl : lv_has ls 4 [(0, .int (nI a)), (1, .int (nI x)), (2, .int (nI r)), (3, .int (nI b))] := by rw [nI_pred] at hl; exact hl
    have htb := tb_lt x b
    have hds := div_step x b
    refine lv_iload_n hx hb dX1_power_5 rfl (lv_at hl 3 rfl) ?_
    refine lv_if_lt (tgt := 35) hx hb dX1_power_6 (by decide) (fun hc => absurd hc (nI_pos (by omega))) (fun hc => ?_)
    refine lv_iload_n hx hb dX1_power_9 rfl (lv_at hl 2 rfl) ?_
    refine lv_iload_n hx hb dX1_power_10 rfl (lv_at hl 2 rfl) ?_
    refine x_callS (As := [.int (nI r), .int (nI r)]) (rest := []) hC sf_X1_11 (k_times l r r (by omega) (by omega)) ⟨rfl, rfl, Nat.le_of_ble_eq_true rfl, Nat.le_of_ble_eq_true rfl⟩ hl.1 (Nat.le_of_ble_eq_true rfl) dX1_power_11 ⟨Nat.zero_le _, Nat.zero_le _⟩ rfl ?_
    have hq1 : r * r % 2147483579 < 2147483579 := Nat.mod_lt _ (by decide)
    refine lv_istore_n (lv' := [(2, .int (nI (r * r % 2147483579))), (0, .int (nI a)), (1, .int (nI x)), (3, .int (nI b))]) hx hb dX1_power_14 rfl hl (by decide) rfl (fun ls hl => ?_)
    refine lv_iload_n hx hb dX1_power_15 rfl (lv_at hl 2 rfl) ?_
    refine lv_iload_n hx hb dX1_power_16 rfl (lv_at hl 3 rfl) ?_
    refine x_callS (As := [.int (nI x), .int (nI b)]) (rest := []) hC sf_X1_15 (k_hasBit l x b hx0 (by omega)) ⟨rfl, rfl, Nat.le_of_ble_eq_true rfl, Nat.le_of_ble_eq_true rfl⟩ hl.1 (Nat.le_of_ble_eq_true rfl) dX1_power_17 ⟨Nat.zero_le _, Nat.zero_le _⟩ rfl ?_
    refine lv_if_eq (tgt := 29) hx hb dX1_power_20 (by decide) (fun hc => ?_) (fun hc => ?_)
    · rw [nI_z (by omega)] at hc
      refine lv_iinc (v := nI b - 1) (lv' := [(3, .int (nI b - 1)), (2, .int (nI (r * r % 2147483579))), (0, .int (nI a)), (1, .int (nI x))]) hx hb dX1_power_29 hl (k := 3) rfl (by rw [Int32.sub_eq_add_neg]; rfl) (by decide) rfl (fun ls hl => ?_)
      refine lv_goto (tgt := 5) hx hb dX1_power_32 (by decide) ?_
      exact ih _ (by omega) (by rw [pw_sq hr0]; congr 2; omega) ls (lv_sub hl [2, 3, 1, 0] rfl)
    · rw [nI_z (by omega)] at hc
      refine lv_iload_n hx hb dX1_power_23 rfl (lv_at hl 0 rfl) ?_
      refine lv_iload_n hx hb dX1_power_24 rfl (lv_at hl 1 rfl) ?_
      refine x_callS (As := [.int (nI (r * r % 2147483579)), .int (nI a)]) (rest := []) hC sf_X1_11 (k_times l (r * r % 2147483579) a (by omega) (by omega)) ⟨rfl, rfl, Nat.le_of_ble_eq_true rfl, Nat.le_of_ble_eq_true rfl⟩ hl.1 (Nat.le_of_ble_eq_true rfl) dX1_power_25 ⟨Nat.zero_le _, Nat.zero_le _⟩ rfl ?_
      refine lv_istore_n (lv' := [(2, .int (nI (r * r % 2147483579 * a % 2147483579))), (0, .int (nI a)), (1, .int (nI x)), (3, .int (nI b))]) hx hb dX1_power_28 rfl hl (by decide) rfl (fun ls hl => ?_)
      refine lv_iinc (v := nI b - 1) (lv' := [(3, .int (nI b - 1)), (2, .int (nI (r * r % 2147483579 * a % 2147483579))), (0, .int (nI a)), (1, .int (nI x))]) hx hb dX1_power_29 hl (k := 3) rfl (by rw [Int32.sub_eq_add_neg]; rfl) (by decide) rfl (fun ls hl => ?_)
      refine lv_goto (tgt := 5) hx hb dX1_power_32 (by decide) ?_
      exact ih _ (by omega) (by rw [pw_sm hr0]; congr 2; omega) ls (lv_sub hl [2, 3, 1, 0] rfl)
set_option maxHeartbeats 4000000 in
set_option maxRecDepth 100000 in
theorem k_power (l : Launch) (a x : Nat) (ha : a < 2147483579) (hx0 : x < 2 ^ 31) : MS l yX1_power (.code yX1_power cX1_power 4 (some .int)) ({ frames := 1, cells := 0, slots := 0, locals := 29 }) [.int (nI a), .int (nI x)] (.int (nI (a ^ x % 2147483579))) := by
  refine MS.of (by decide) (Nat.le_of_ble_eq_true rfl) ?_
  intro p e s m below meth c ls hC hr hlocks hl
  obtain ⟨hx, hb, hml, hown, hts⟩ := id hC
  have hl : lv_has ls 4 [(0, .int (nI a)), (1, .int (nI x))] := hl
  refine lv_iconst (v := nI 1) hx hb dX1_power_0 (by decide) ?_
  refine lv_istore_n (lv' := [(2, .int (nI 1)), (0, .int (nI a)), (1, .int (nI x))]) hx hb dX1_power_1 rfl hl (by decide) rfl (fun ls hl => ?_)
  refine lv_bipush (v := nI 30) hx hb dX1_power_2 (by decide) ?_
  refine lv_istore_n (lv' := [(3, .int (nI 30)), (2, .int (nI 1)), (0, .int (nI a)), (1, .int (nI x))]) hx hb dX1_power_4 rfl hl (by decide) rfl (fun ls hl => ?_)
  refine k_power_loop hC a x ha hx0 (fun ls hl => ?_) 31 1 (by decide) (by rw [Nat.div_eq_of_lt hx0]; rfl) ls (lv_sub hl [2, 3, 1, 0] rfl)
  refine lv_iload_n hx hb dX1_power_35 rfl (lv_at hl 0 rfl) ?_
  exact x_retI hx hb hr hlocks dX1_power_36
set_option maxHeartbeats 4000000 in
set_option maxRecDepth 100000 in
theorem k_floorMod (l : Launch) (x : Int64) (b : Nat) (h0 : 0 < b) (hb0 : b < 2 ^ 31) : MS l yJ9_floorMod_f86c9 (.code yJ9_floorMod_f86c9 cJ9_floorMod_f86c9 6 (some .long)) ({ frames := 0, cells := 0, slots := 0, locals := 0 }) [.long x, .long (lN b)] (.long (lN (md x b))) := by
  refine MS.ofF (by decide +kernel) (Nat.le_of_ble_eq_true rfl) ?_
  intro p e s m below meth c ls hC hr hlocks hl
  obtain ⟨hx, hb, hml, hown, hts⟩ := id hC
  have hl : lv_has ls 6 [(0, .long x), (2, .long (lN b))] := hl
  have hne : ¬ lN b = 0 := fun q => by have := congrArg Int64.toInt q; rw [pk_lT (by omega)] at this; simp at this; omega
  refine lv_lload_n hx hb dJ9_floorMod_f86c9_0 rfl (lv_at hl 0 rfl) ?_
  refine lv_lload_n hx hb dJ9_floorMod_f86c9_1 rfl (lv_at hl 1 rfl) ?_
  refine lv_lrem hx hb dJ9_floorMod_f86c9_2 hne ?_
  refine lv_lstore (lv' := [(4, .long (x - x / lN b * lN b)), (0, .long x), (2, .long (lN b))]) hx hb dJ9_floorMod_f86c9_3 hl (by decide) rfl (fun ls hl => ?_)
  refine lv_lload_n hx hb dJ9_floorMod_f86c9_5 rfl (lv_at hl 1 rfl) ?_
  refine lv_lload_n hx hb dJ9_floorMod_f86c9_6 rfl (lv_at hl 2 rfl) ?_
  refine lv_lxor hx hb dJ9_floorMod_f86c9_7 ?_
  refine lv_lconst (v := lN 0) hx hb dJ9_floorMod_f86c9_8 (by decide) ?_
  refine W.lcmp hx hb dJ9_floorMod_f86c9_9 ?_
  refine lv_if_ge (tgt := 25) hx hb dJ9_floorMod_f86c9_10 (by decide) (fun hc => ?_) (fun hc => ?_)
  · rw [lg_cmp_ge] at hc
    rw [show lN 0 = 0 from rfl, l_xor_nn (lN_nn (by omega))] at hc
    refine lv_lload hx hb dJ9_floorMod_f86c9_25 (lv_at hl 0 rfl) ?_
    rw [rem_nn h0 hb0 hc]
    exact x_retL hx hb hr hlocks dJ9_floorMod_f86c9_27
  · rw [lg_cmp_ge] at hc
    rw [show lN 0 = 0 from rfl, l_xor_nn (lN_nn (by omega))] at hc
    refine lv_lload hx hb dJ9_floorMod_f86c9_13 (lv_at hl 0 rfl) ?_
    refine lv_lconst (v := lN 0) hx hb dJ9_floorMod_f86c9_15 (by decide) ?_
    refine W.lcmp hx hb dJ9_floorMod_f86c9_16 ?_
    refine lv_if_eq (tgt := 25) hx hb dJ9_floorMod_f86c9_17 (by decide) (fun hc2 => ?_) (fun hc2 => ?_)
    · rw [lg_cmp_eq] at hc2
      refine lv_lload hx hb dJ9_floorMod_f86c9_25 (lv_at hl 0 rfl) ?_
      rw [rem_z h0 hb0 hc2]
      exact x_retL hx hb hr hlocks dJ9_floorMod_f86c9_27
    · rw [lg_cmp_eq] at hc2
      refine lv_lload hx hb dJ9_floorMod_f86c9_20 (lv_at hl 0 rfl) ?_
      refine lv_lload_n hx hb dJ9_floorMod_f86c9_22 rfl (lv_at hl 2 rfl) ?_
      refine lv_ladd hx hb dJ9_floorMod_f86c9_23 ?_
      rw [rem_neg h0 hb0 hc hc2]
      exact x_retL hx hb hr hlocks dJ9_floorMod_f86c9_24
set_option maxHeartbeats 4000000 in
set_option maxRecDepth 100000 in
theorem k_toExponent (l : Launch) (x : Int64) : MS l yX1_toExponent (.code yX1_toExponent cX1_toExponent 2 (some .int)) ({ frames := 1, cells := 0, slots := 0, locals := 33 }) [.long x] (.int (nI (md x 1073741789))) := by
  refine MS.of (by decide) (Nat.le_of_ble_eq_true rfl) ?_
  intro p e s m below meth c ls hC hr hlocks hl
  obtain ⟨hx, hb, hml, hown, hts⟩ := id hC
  have hl : lv_has ls 2 [(0, .long x)] := hl
  refine lv_lload_n hx hb dX1_toExponent_0 rfl (lv_at hl 0 rfl) ?_
  refine lv_ldc2 hx hb hown (hts _ ct_X1_24) dX1_toExponent_1 ?_
  refine x_callS (As := [.long x, .long (lN 1073741789)]) (rest := []) hC sf_X1_26 (k_floorMod l x 1073741789 (by decide) (by decide)) ⟨rfl, rfl, Nat.le_of_ble_eq_true rfl, Nat.le_of_ble_eq_true rfl⟩ hl.1 (Nat.le_of_ble_eq_true rfl) dX1_toExponent_4 ⟨Nat.zero_le _, Nat.zero_le _⟩ rfl ?_
  refine lv_l2i hx hb dX1_toExponent_7 (lN_i _) ?_
  exact x_retI hx hb hr hlocks dX1_toExponent_8
set_option maxHeartbeats 4000000 in
set_option maxRecDepth 100000 in
theorem k_powerBelow (l : Launch) (a x : Nat) (ha : a < 2147483579) (hx0 : x ≤ 1073741789) : MS l yX1_powerBelow (.code yX1_powerBelow cX1_powerBelow 2 (some .int)) ({ frames := 2, cells := 0, slots := 0, locals := 60 }) [.int (nI a), .int (nI x)] (.int (nI (a ^ (1073741789 - x) % 2147483579))) := by
  refine MS.of (by decide) (Nat.le_of_ble_eq_true rfl) ?_
  intro p e s m below meth c ls hC hr hlocks hl
  obtain ⟨hx, hb, hml, hown, hts⟩ := id hC
  have hl : lv_has ls 2 [(0, .int (nI a)), (1, .int (nI x))] := hl
  refine lv_iload_n hx hb dX1_powerBelow_0 rfl (lv_at hl 0 rfl) ?_
  refine lv_ldc hx hb hown (hts _ ct_X1_19) dX1_powerBelow_1 ?_
  refine lv_iload_n hx hb dX1_powerBelow_3 rfl (lv_at hl 1 rfl) ?_
  refine t_isub hx hb dX1_powerBelow_4 (v := nI (1073741789 - x)) (pk_sub (by omega)) ?_
  refine x_callS (As := [.int (nI a), .int (nI (1073741789 - x))]) (rest := []) hC sf_X1_20 (k_power l a (1073741789 - x) ha (by omega)) ⟨rfl, rfl, Nat.le_of_ble_eq_true rfl, Nat.le_of_ble_eq_true rfl⟩ hl.1 (Nat.le_of_ble_eq_true rfl) dX1_powerBelow_5 ⟨Nat.zero_le _, Nat.zero_le _⟩ rfl ?_
  exact x_retI hx hb hr hlocks dX1_powerBelow_8
set_option maxHeartbeats 4000000 in
set_option maxRecDepth 100000 in
theorem k_isExponent (l : Launch) (x : Nat) (hx0 : x < 1073741789) : MS l yX1_isExponent (.code yX1_isExponent cX1_isExponent 1 (some .boolean)) ({ frames := 0, cells := 0, slots := 0, locals := 0 }) [.int (nI x)] (.int (nI 1)) := by
  refine MS.of (by decide) (Nat.le_of_ble_eq_true rfl) ?_
  intro p e s m below meth c ls hC hr hlocks hl
  obtain ⟨hx, hb, hml, hown, hts⟩ := id hC
  have hl : lv_has ls 1 [(0, .int (nI x))] := hl
  refine lv_iload_n hx hb dX1_isExponent_0 rfl (lv_at hl 0 rfl) ?_
  refine lv_if_lt (tgt := 14) hx hb dX1_isExponent_1 (by decide) (fun hc => absurd hc (nI_pos (by omega))) (fun hc => ?_)
  refine lv_iload_n hx hb dX1_isExponent_4 rfl (lv_at hl 0 rfl) ?_
  refine lv_ldc hx hb hown (hts _ ct_X1_19) dX1_isExponent_5 ?_
  refine lv_icmp_ge (tgt := 14) hx hb dX1_isExponent_7 (by decide) (fun hc => ?_) (fun hc => ?_)
  · rw [nI_leI (by omega) (by omega)] at hc
    omega
  · rw [nI_leI (by omega) (by omega)] at hc
    refine lv_iconst (v := nI 1) hx hb dX1_isExponent_10 (by decide) ?_
    refine lv_goto (tgt := 15) hx hb dX1_isExponent_11 (by decide) ?_
    exact x_retZ hx hb hr hlocks (by decide) dX1_isExponent_15
set_option maxHeartbeats 4000000 in
set_option maxRecDepth 100000 in
theorem k_isExponentN (l : Launch) (x : Int32) (hx0 : x < 0 ∨ nI 1073741789 ≤ x) : MS l yX1_isExponent (.code yX1_isExponent cX1_isExponent 1 (some .boolean)) ({ frames := 0, cells := 0, slots := 0, locals := 0 }) [.int x] (.int (nI 0)) := by
  refine MS.of (by decide) (Nat.le_of_ble_eq_true rfl) ?_
  intro p e s m below meth c ls hC hr hlocks hl
  obtain ⟨hx, hb, hml, hown, hts⟩ := id hC
  have hl : lv_has ls 1 [(0, .int x)] := hl
  refine lv_iload_n hx hb dX1_isExponent_0 rfl (lv_at hl 0 rfl) ?_
  refine lv_if_lt (tgt := 14) hx hb dX1_isExponent_1 (by decide) (fun hc => ?_) (fun hc => ?_)
  · skip
    refine lv_iconst (v := nI 0) hx hb dX1_isExponent_14 (by decide) ?_
    exact x_retZ hx hb hr hlocks (by decide) dX1_isExponent_15
  · skip
    refine lv_iload_n hx hb dX1_isExponent_4 rfl (lv_at hl 0 rfl) ?_
    refine lv_ldc hx hb hown (hts _ ct_X1_19) dX1_isExponent_5 ?_
    refine lv_icmp_ge (tgt := 14) hx hb dX1_isExponent_7 (by decide) (fun hc2 => ?_) (fun hc2 => absurd (hx0.resolve_left hc) hc2)
    refine lv_iconst (v := nI 0) hx hb dX1_isExponent_14 (by decide) ?_
    exact x_retZ hx hb hr hlocks (by decide) dX1_isExponent_15
set_option maxHeartbeats 4000000 in
set_option maxRecDepth 100000 in
theorem k_isInGroup (l : Launch) (a : Nat) (ha : a < 2 ^ 31) : MS l yX1_isInGroup (.code yX1_isInGroup cX1_isInGroup 1 (some .boolean)) ({ frames := 2, cells := 0, slots := 0, locals := 60 }) [.int (nI a)] (.int (if 1 ≤ a ∧ a < 2147483579 ∧ a ^ 1073741789 % 2147483579 = 1 then nI 1 else nI 0)) := by
  refine MS.of (by decide) (Nat.le_of_ble_eq_true rfl) ?_
  intro p e s m below meth c ls hC hr hlocks hl
  obtain ⟨hx, hb, hml, hown, hts⟩ := id hC
  have hl : lv_has ls 1 [(0, .int (nI a))] := hl
  refine lv_iload_n hx hb dX1_isInGroup_0 rfl (lv_at hl 0 rfl) ?_
  refine lv_iconst (v := nI 1) hx hb dX1_isInGroup_1 (by decide) ?_
  refine lv_icmp_lt (tgt := 25) hx hb dX1_isInGroup_2 (by decide) (fun hc => ?_) (fun hc => ?_)
  · rw [nI_ltI (by omega) (by omega)] at hc
    rw [if_neg (by omega)]
    refine lv_iconst (v := nI 0) hx hb dX1_isInGroup_25 (by decide) ?_
    exact x_retZ hx hb hr hlocks (by decide) dX1_isInGroup_26
  · rw [nI_ltI (by omega) (by omega)] at hc
    refine lv_iload_n hx hb dX1_isInGroup_5 rfl (lv_at hl 0 rfl) ?_
    refine lv_ldc hx hb hown (hts _ ct_X1_23) dX1_isInGroup_6 ?_
    refine lv_icmp_ge (tgt := 25) hx hb dX1_isInGroup_8 (by decide) (fun hc2 => ?_) (fun hc2 => ?_)
    · rw [nI_leI (by omega) (by omega)] at hc2
      rw [if_neg (by omega)]
      refine lv_iconst (v := nI 0) hx hb dX1_isInGroup_25 (by decide) ?_
      exact x_retZ hx hb hr hlocks (by decide) dX1_isInGroup_26
    · rw [nI_leI (by omega) (by omega)] at hc2
      refine lv_iload_n hx hb dX1_isInGroup_11 rfl (lv_at hl 0 rfl) ?_
      refine lv_ldc hx hb hown (hts _ ct_X1_19) dX1_isInGroup_12 ?_
      have hp := pw_lt a 1073741789 (show 0 < 2147483579 by decide)
      refine x_callS (As := [.int (nI a), .int (nI 1073741789)]) (rest := []) hC sf_X1_20 (k_power l a 1073741789 (by omega) (by decide)) ⟨rfl, rfl, Nat.le_of_ble_eq_true rfl, Nat.le_of_ble_eq_true rfl⟩ hl.1 (Nat.le_of_ble_eq_true rfl) dX1_isInGroup_14 ⟨Nat.zero_le _, Nat.zero_le _⟩ rfl ?_
      refine lv_iconst (v := nI 1) hx hb dX1_isInGroup_17 (by decide) ?_
      refine lv_icmp_ne (tgt := 25) hx hb dX1_isInGroup_18 (by decide) (fun hc3 => ?_) (fun hc3 => ?_)
      · rw [nI_eq (by omega) (by omega)] at hc3
        rw [if_neg (fun q => hc3 q.2.2)]
        refine lv_iconst (v := nI 0) hx hb dX1_isInGroup_25 (by decide) ?_
        exact x_retZ hx hb hr hlocks (by decide) dX1_isInGroup_26
      · rw [nI_eq (by omega) (by omega)] at hc3
        rw [if_pos ⟨by omega, by omega, hc3⟩]
        refine lv_iconst (v := nI 1) hx hb dX1_isInGroup_21 (by decide) ?_
        refine lv_goto (tgt := 26) hx hb dX1_isInGroup_22 (by decide) ?_
        exact x_retZ hx hb hr hlocks (by decide) dX1_isInGroup_26
set_option maxHeartbeats 4000000 in
set_option maxRecDepth 100000 in
theorem k_bitCount (l : Launch) (x : Int32) : MS l yJ6_bitCount_0f7a4 (.code yJ6_bitCount_0f7a4 cJ6_bitCount_0f7a4 1 (some .int)) ({ frames := 0, cells := 0, slots := 0, locals := 0 }) [.int x] (.int (bcI x)) := by
  refine MS.of (by decide) (Nat.le_of_ble_eq_true rfl) ?_
  intro p e s m below meth c ls hC hr hlocks hl
  obtain ⟨hx, hb, hml, hown, hts⟩ := id hC
  have hl : lv_has ls 1 [(0, .int x)] := hl
  refine lv_iload_n hx hb dJ6_bitCount_0f7a4_0 rfl (lv_at hl 0 rfl) ?_
  refine lv_iload_n hx hb dJ6_bitCount_0f7a4_1 rfl (lv_at hl 0 rfl) ?_
  refine lv_iconst (v := nI 1) hx hb dJ6_bitCount_0f7a4_2 (by decide) ?_
  refine lv_iushr hx hb dJ6_bitCount_0f7a4_3 rfl ?_
  refine lv_ldcw hx hb hown (hts _ ct_J6_265) dJ6_bitCount_0f7a4_4 ?_
  refine lv_iand hx hb dJ6_bitCount_0f7a4_7 ?_
  refine lv_isub hx hb dJ6_bitCount_0f7a4_8 ?_
  refine lv_istore_n (lv' := [(0, .int (x - (((x.toUInt32 >>> ((nI 1).toUInt32 &&& Int32.toUInt32 31)).toInt32) &&& (nI 1431655765))))]) hx hb dJ6_bitCount_0f7a4_9 rfl hl (by decide) rfl (fun ls hl => ?_)
  refine lv_iload_n hx hb dJ6_bitCount_0f7a4_10 rfl (lv_at hl 0 rfl) ?_
  refine lv_ldcw hx hb hown (hts _ ct_J6_266) dJ6_bitCount_0f7a4_11 ?_
  refine lv_iand hx hb dJ6_bitCount_0f7a4_14 ?_
  refine lv_iload_n hx hb dJ6_bitCount_0f7a4_15 rfl (lv_at hl 0 rfl) ?_
  refine lv_iconst (v := nI 2) hx hb dJ6_bitCount_0f7a4_16 (by decide) ?_
  refine lv_iushr hx hb dJ6_bitCount_0f7a4_17 rfl ?_
  refine lv_ldcw hx hb hown (hts _ ct_J6_266) dJ6_bitCount_0f7a4_18 ?_
  refine lv_iand hx hb dJ6_bitCount_0f7a4_21 ?_
  refine lv_iadd hx hb dJ6_bitCount_0f7a4_22 ?_
  refine lv_istore_n (lv' := [(0, .int (((x - (((x.toUInt32 >>> ((nI 1).toUInt32 &&& Int32.toUInt32 31)).toInt32) &&& (nI 1431655765))) &&& (nI 858993459)) + ((((x - (((x.toUInt32 >>> ((nI 1).toUInt32 &&& Int32.toUInt32 31)).toInt32) &&& (nI 1431655765))).toUInt32 >>> ((nI 2).toUInt32 &&& Int32.toUInt32 31)).toInt32) &&& (nI 858993459))))]) hx hb dJ6_bitCount_0f7a4_23 rfl hl (by decide) rfl (fun ls hl => ?_)
  refine lv_iload_n hx hb dJ6_bitCount_0f7a4_24 rfl (lv_at hl 0 rfl) ?_
  refine lv_iload_n hx hb dJ6_bitCount_0f7a4_25 rfl (lv_at hl 0 rfl) ?_
  refine lv_iconst (v := nI 4) hx hb dJ6_bitCount_0f7a4_26 (by decide) ?_
  refine lv_iushr hx hb dJ6_bitCount_0f7a4_27 rfl ?_
  refine lv_iadd hx hb dJ6_bitCount_0f7a4_28 ?_
  refine lv_ldcw hx hb hown (hts _ ct_J6_267) dJ6_bitCount_0f7a4_29 ?_
  refine lv_iand hx hb dJ6_bitCount_0f7a4_32 ?_
  refine lv_istore_n (lv' := [(0, .int (((((x - (((x.toUInt32 >>> ((nI 1).toUInt32 &&& Int32.toUInt32 31)).toInt32) &&& (nI 1431655765))) &&& (nI 858993459)) + ((((x - (((x.toUInt32 >>> ((nI 1).toUInt32 &&& Int32.toUInt32 31)).toInt32) &&& (nI 1431655765))).toUInt32 >>> ((nI 2).toUInt32 &&& Int32.toUInt32 31)).toInt32) &&& (nI 858993459))) + (((((x - (((x.toUInt32 >>> ((nI 1).toUInt32 &&& Int32.toUInt32 31)).toInt32) &&& (nI 1431655765))) &&& (nI 858993459)) + ((((x - (((x.toUInt32 >>> ((nI 1).toUInt32 &&& Int32.toUInt32 31)).toInt32) &&& (nI 1431655765))).toUInt32 >>> ((nI 2).toUInt32 &&& Int32.toUInt32 31)).toInt32) &&& (nI 858993459))).toUInt32 >>> ((nI 4).toUInt32 &&& Int32.toUInt32 31)).toInt32)) &&& (nI 252645135)))]) hx hb dJ6_bitCount_0f7a4_33 rfl hl (by decide) rfl (fun ls hl => ?_)
  refine lv_iload_n hx hb dJ6_bitCount_0f7a4_34 rfl (lv_at hl 0 rfl) ?_
  refine lv_iload_n hx hb dJ6_bitCount_0f7a4_35 rfl (lv_at hl 0 rfl) ?_
  refine lv_bipush (v := nI 8) hx hb dJ6_bitCount_0f7a4_36 (by decide) ?_
  refine lv_iushr hx hb dJ6_bitCount_0f7a4_38 rfl ?_
  refine lv_iadd hx hb dJ6_bitCount_0f7a4_39 ?_
  refine lv_istore_n (lv' := [(0, .int ((((((x - (((x.toUInt32 >>> ((nI 1).toUInt32 &&& Int32.toUInt32 31)).toInt32) &&& (nI 1431655765))) &&& (nI 858993459)) + ((((x - (((x.toUInt32 >>> ((nI 1).toUInt32 &&& Int32.toUInt32 31)).toInt32) &&& (nI 1431655765))).toUInt32 >>> ((nI 2).toUInt32 &&& Int32.toUInt32 31)).toInt32) &&& (nI 858993459))) + (((((x - (((x.toUInt32 >>> ((nI 1).toUInt32 &&& Int32.toUInt32 31)).toInt32) &&& (nI 1431655765))) &&& (nI 858993459)) + ((((x - (((x.toUInt32 >>> ((nI 1).toUInt32 &&& Int32.toUInt32 31)).toInt32) &&& (nI 1431655765))).toUInt32 >>> ((nI 2).toUInt32 &&& Int32.toUInt32 31)).toInt32) &&& (nI 858993459))).toUInt32 >>> ((nI 4).toUInt32 &&& Int32.toUInt32 31)).toInt32)) &&& (nI 252645135)) + (((((((x - (((x.toUInt32 >>> ((nI 1).toUInt32 &&& Int32.toUInt32 31)).toInt32) &&& (nI 1431655765))) &&& (nI 858993459)) + ((((x - (((x.toUInt32 >>> ((nI 1).toUInt32 &&& Int32.toUInt32 31)).toInt32) &&& (nI 1431655765))).toUInt32 >>> ((nI 2).toUInt32 &&& Int32.toUInt32 31)).toInt32) &&& (nI 858993459))) + (((((x - (((x.toUInt32 >>> ((nI 1).toUInt32 &&& Int32.toUInt32 31)).toInt32) &&& (nI 1431655765))) &&& (nI 858993459)) + ((((x - (((x.toUInt32 >>> ((nI 1).toUInt32 &&& Int32.toUInt32 31)).toInt32) &&& (nI 1431655765))).toUInt32 >>> ((nI 2).toUInt32 &&& Int32.toUInt32 31)).toInt32) &&& (nI 858993459))).toUInt32 >>> ((nI 4).toUInt32 &&& Int32.toUInt32 31)).toInt32)) &&& (nI 252645135)).toUInt32 >>> ((nI 8).toUInt32 &&& Int32.toUInt32 31)).toInt32)))]) hx hb dJ6_bitCount_0f7a4_40 rfl hl (by decide) rfl (fun ls hl => ?_)
  refine lv_iload_n hx hb dJ6_bitCount_0f7a4_41 rfl (lv_at hl 0 rfl) ?_
  refine lv_iload_n hx hb dJ6_bitCount_0f7a4_42 rfl (lv_at hl 0 rfl) ?_
  refine lv_bipush (v := nI 16) hx hb dJ6_bitCount_0f7a4_43 (by decide) ?_
  refine lv_iushr hx hb dJ6_bitCount_0f7a4_45 rfl ?_
  refine lv_iadd hx hb dJ6_bitCount_0f7a4_46 ?_
  refine lv_istore_n (lv' := [(0, .int (((((((x - (((x.toUInt32 >>> ((nI 1).toUInt32 &&& Int32.toUInt32 31)).toInt32) &&& (nI 1431655765))) &&& (nI 858993459)) + ((((x - (((x.toUInt32 >>> ((nI 1).toUInt32 &&& Int32.toUInt32 31)).toInt32) &&& (nI 1431655765))).toUInt32 >>> ((nI 2).toUInt32 &&& Int32.toUInt32 31)).toInt32) &&& (nI 858993459))) + (((((x - (((x.toUInt32 >>> ((nI 1).toUInt32 &&& Int32.toUInt32 31)).toInt32) &&& (nI 1431655765))) &&& (nI 858993459)) + ((((x - (((x.toUInt32 >>> ((nI 1).toUInt32 &&& Int32.toUInt32 31)).toInt32) &&& (nI 1431655765))).toUInt32 >>> ((nI 2).toUInt32 &&& Int32.toUInt32 31)).toInt32) &&& (nI 858993459))).toUInt32 >>> ((nI 4).toUInt32 &&& Int32.toUInt32 31)).toInt32)) &&& (nI 252645135)) + (((((((x - (((x.toUInt32 >>> ((nI 1).toUInt32 &&& Int32.toUInt32 31)).toInt32) &&& (nI 1431655765))) &&& (nI 858993459)) + ((((x - (((x.toUInt32 >>> ((nI 1).toUInt32 &&& Int32.toUInt32 31)).toInt32) &&& (nI 1431655765))).toUInt32 >>> ((nI 2).toUInt32 &&& Int32.toUInt32 31)).toInt32) &&& (nI 858993459))) + (((((x - (((x.toUInt32 >>> ((nI 1).toUInt32 &&& Int32.toUInt32 31)).toInt32) &&& (nI 1431655765))) &&& (nI 858993459)) + ((((x - (((x.toUInt32 >>> ((nI 1).toUInt32 &&& Int32.toUInt32 31)).toInt32) &&& (nI 1431655765))).toUInt32 >>> ((nI 2).toUInt32 &&& Int32.toUInt32 31)).toInt32) &&& (nI 858993459))).toUInt32 >>> ((nI 4).toUInt32 &&& Int32.toUInt32 31)).toInt32)) &&& (nI 252645135)).toUInt32 >>> ((nI 8).toUInt32 &&& Int32.toUInt32 31)).toInt32)) + ((((((((x - (((x.toUInt32 >>> ((nI 1).toUInt32 &&& Int32.toUInt32 31)).toInt32) &&& (nI 1431655765))) &&& (nI 858993459)) + ((((x - (((x.toUInt32 >>> ((nI 1).toUInt32 &&& Int32.toUInt32 31)).toInt32) &&& (nI 1431655765))).toUInt32 >>> ((nI 2).toUInt32 &&& Int32.toUInt32 31)).toInt32) &&& (nI 858993459))) + (((((x - (((x.toUInt32 >>> ((nI 1).toUInt32 &&& Int32.toUInt32 31)).toInt32) &&& (nI 1431655765))) &&& (nI 858993459)) + ((((x - (((x.toUInt32 >>> ((nI 1).toUInt32 &&& Int32.toUInt32 31)).toInt32) &&& (nI 1431655765))).toUInt32 >>> ((nI 2).toUInt32 &&& Int32.toUInt32 31)).toInt32) &&& (nI 858993459))).toUInt32 >>> ((nI 4).toUInt32 &&& Int32.toUInt32 31)).toInt32)) &&& (nI 252645135)) + (((((((x - (((x.toUInt32 >>> ((nI 1).toUInt32 &&& Int32.toUInt32 31)).toInt32) &&& (nI 1431655765))) &&& (nI 858993459)) + ((((x - (((x.toUInt32 >>> ((nI 1).toUInt32 &&& Int32.toUInt32 31)).toInt32) &&& (nI 1431655765))).toUInt32 >>> ((nI 2).toUInt32 &&& Int32.toUInt32 31)).toInt32) &&& (nI 858993459))) + (((((x - (((x.toUInt32 >>> ((nI 1).toUInt32 &&& Int32.toUInt32 31)).toInt32) &&& (nI 1431655765))) &&& (nI 858993459)) + ((((x - (((x.toUInt32 >>> ((nI 1).toUInt32 &&& Int32.toUInt32 31)).toInt32) &&& (nI 1431655765))).toUInt32 >>> ((nI 2).toUInt32 &&& Int32.toUInt32 31)).toInt32) &&& (nI 858993459))).toUInt32 >>> ((nI 4).toUInt32 &&& Int32.toUInt32 31)).toInt32)) &&& (nI 252645135)).toUInt32 >>> ((nI 8).toUInt32 &&& Int32.toUInt32 31)).toInt32)).toUInt32 >>> ((nI 16).toUInt32 &&& Int32.toUInt32 31)).toInt32)))]) hx hb dJ6_bitCount_0f7a4_47 rfl hl (by decide) rfl (fun ls hl => ?_)
  refine lv_iload_n hx hb dJ6_bitCount_0f7a4_48 rfl (lv_at hl 0 rfl) ?_
  refine lv_bipush (v := nI 63) hx hb dJ6_bitCount_0f7a4_49 (by decide) ?_
  refine lv_iand hx hb dJ6_bitCount_0f7a4_51 ?_
  exact x_retI hx hb hr hlocks dJ6_bitCount_0f7a4_52
end
section
/-! the reference's methods of numbers -/
theorem lN_and (a b : Nat) : lN a &&& lN b = lN (a &&& b) := by
  apply Int64.toBitVec_inj.mp
  rw [Int64.toBitVec_and]
  show BitVec.ofNat 64 a &&& BitVec.ofNat 64 b = BitVec.ofNat 64 (a &&& b)
  rw [BitVec.ofNat_and]
theorem l_odd (n : Nat) : lN n &&& lN 1 = lN (n % 2) := by
  rw [lN_and, Nat.and_one_is_mod]
theorem l_half {n : Nat} (h : n < 2 ^ 63) : lN n >>> ((nI 1).toInt64 &&& 63) = lN (n / 2) := by
  apply Int64.toInt_inj.mp
  rw [Jvm.Kit.i64_shr _ _ (k := 1) (by decide), pk_lT h, pk_lT (by omega)]
  omega
theorem lN_ne0 {b : Nat} (h0 : 0 < b) (hb : b < 2 ^ 63) : ¬ lN b = 0 := fun q => by
  have := congrArg Int64.toInt q
  rw [pk_lT hb, show (0 : Int64).toInt = 0 by decide] at this
  omega
theorem rest_nn {x : Int64} {b : Nat} (h0 : 0 < b) (hb : b < 2 ^ 31) (h : lN 0 ≤ x - x / lN b * lN b) : x - x / lN b * lN b = lN (md x b) := by
  by_cases hx : 0 ≤ x
  · exact rem_nn h0 hb hx
  · by_cases hz : x - x / lN b * lN b = lN 0
    · exact rem_z h0 hb hz
    · exfalso
      have ht : (x - x / lN b * lN b).toInt = x.toInt.tmod (b : Int) := by rw [Jvm.Kit.i64_rem, pk_lT (by omega)]
      have hx' : x.toInt < 0 := by
        have h : ¬ (0 : Int64).toInt ≤ x.toInt := fun q => hx (Int64.le_iff_toInt_le.mpr q)
        rw [show (0 : Int64).toInt = 0 by decide] at h
        omega
      have h1 := Int.tmod_nonneg (b : Int) (show 0 ≤ -x.toInt by omega)
      rw [Int.neg_tmod] at h1
      have h2 := Int64.le_iff_toInt_le.mp h
      rw [ht, pk_lT (by decide)] at h2
      apply hz
      apply Int64.toInt_inj.mp
      rw [ht, pk_lT (by decide)]
      omega
theorem rest_neg {x : Int64} {b : Nat} (h0 : 0 < b) (hb : b < 2 ^ 31) (h : ¬ lN 0 ≤ x - x / lN b * lN b) : x - x / lN b * lN b + lN b = lN (md x b) := by
  have hz : ¬ x - x / lN b * lN b = lN 0 := fun q => h (by rw [q]; exact Int64.le_refl _)
  have hx : ¬ 0 ≤ x := fun q => h (by rw [rem_nn h0 hb q]; exact lN_nn (by have := md_lt x h0; omega))
  exact rem_neg h0 hb hx hz
theorem pw_inv_odd {b A S L : Nat} (h : L % 2 = 1) : A * S % b * (S * S % b) ^ (L / 2) % b = A * S ^ L % b := by
  have e : S ^ L = S * (S * S) ^ (L / 2) := by
    rw [← Nat.pow_two, ← Nat.pow_mul, Nat.mul_comm S, ← Nat.pow_succ]
    congr 1
    omega
  rw [mm1, Nat.mul_mod, pm1, ← Nat.mul_mod, e, Nat.mul_assoc]
theorem pw_inv_even {b A S L : Nat} (h : L % 2 = 0) : A * (S * S % b) ^ (L / 2) % b = A * S ^ L % b := by
  have e : S ^ L = (S * S) ^ (L / 2) := by
    rw [← Nat.pow_two, ← Nat.pow_mul]
    congr 1
    omega
  rw [Nat.mul_mod, pm1, ← Nat.mul_mod, e]

set_option maxHeartbeats 4000000 in
set_option maxRecDepth 100000 in
theorem k5_rest (l : Launch) (x : Int64) (b : Nat) (h0 : 0 < b) (hb0 : b < 2 ^ 31) : MS l yX5_rest (.code yX5_rest cX5_rest 6 (some .long)) ({ frames := 0, cells := 0, slots := 0, locals := 0 }) [.long x, .long (lN b)] (.long (lN (md x b))) := by
  refine MS.of (by decide) (Nat.le_of_ble_eq_true rfl) ?_
  intro p e s m below meth c ls hC hr hlocks hl
  obtain ⟨hx, hb, hml, hown, hts⟩ := id hC
  have hl : lv_has ls 6 [(0, .long x), (2, .long (lN b))] := hl
  refine lv_lload_n hx hb dX5_rest_0 rfl (lv_at hl 0 rfl) ?_
  refine lv_lload_n hx hb dX5_rest_1 rfl (lv_at hl 1 rfl) ?_
  refine lv_lrem hx hb dX5_rest_2 (lN_ne0 h0 (by omega)) ?_
  refine lv_lstore (lv' := [(4, .long (x - x / lN b * lN b)), (0, .long x), (2, .long (lN b))]) hx hb dX5_rest_3 hl (by decide) rfl (fun ls hl => ?_)
  refine lv_lload hx hb dX5_rest_5 (lv_at hl 0 rfl) ?_
  refine lv_lconst (v := lN 0) hx hb dX5_rest_7 (by decide) ?_
  refine W.lcmp hx hb dX5_rest_8 ?_
  refine lv_if_ge (tgt := 19) hx hb dX5_rest_9 (by decide) (fun hc => ?_) (fun hc => ?_)
  · rw [lg_cmp_ge] at hc
    refine lv_lload hx hb dX5_rest_19 (lv_at hl 0 rfl) ?_
    rw [rest_nn h0 hb0 hc]
    exact x_retL hx hb hr hlocks dX5_rest_21
  · rw [lg_cmp_ge] at hc
    refine lv_lload hx hb dX5_rest_12 (lv_at hl 0 rfl) ?_
    refine lv_lload_n hx hb dX5_rest_14 rfl (lv_at hl 2 rfl) ?_
    refine lv_ladd hx hb dX5_rest_15 ?_
    refine lv_goto (tgt := 21) hx hb dX5_rest_16 (by decide) ?_
    rw [rest_neg h0 hb0 hc]
    exact x_retL hx hb hr hlocks dX5_rest_21
set_option maxHeartbeats 4000000 in
set_option maxRecDepth 100000 in
theorem k5_power_loop {l : Launch} {p : Program} {e : Env} {s : State} {m : MethodId} {args : Array Value} {below : List Frame} {meth : Method} {c : Code} {H : Heap} {locs : List Loc} {Q : State → Prop} (hC : CallFix p m c cX5_power 12 s args wsL_law RX5) (a x b : Nat) (hb1 : 1 < b) (hb0 : b < 2 ^ 31)
    (kx : ∀ ls : Array Slot, lv_has ls 12 [(6, .long (lN (a ^ x % b)))] → W p l e ({ frames := 1, cells := 0, slots := 0, locals := 33 }) s m args below meth c H locs 0 0 Q (F0 m 67 ls [])) :
    ∀ (n A S L : Nat), L ≤ n → L < 2 ^ 62 → A < b → S < b → A * S ^ L % b = a ^ x % b → ∀ ls : Array Slot, lv_has ls 12 [(4, .long (lN b)), (6, .long (lN A)), (8, .long (lN S)), (10, .long (lN L))] → W p l e ({ frames := 1, cells := 0, slots := 0, locals := 33 }) s m args below meth c H locs 0 0 Q (F0 m 17 ls []) := by
  obtain ⟨hx, hb, hml, hown, hts⟩ := id hC
  intro n
  induction n with
  | zero =>
    intro A S L hLn hL62 hA hS hinv ls hl
    have hL0 : L = 0 := by omega
    refine lv_lload hx hb dX5_power_17 (lv_at hl 3 rfl) ?_
    refine lv_lconst (v := lN 0) hx hb dX5_power_19 (by decide) ?_
    refine W.lcmp hx hb dX5_power_20 ?_
    refine lv_if_le (tgt := 67) hx hb dX5_power_21 (by decide) (fun hc => ?_) (fun hc => absurd (by rw [lg_cmp_le, pk_lLE (by omega) (by omega)]; omega) hc)
    refine kx ls (lv_sub hl [1] ?_)
    rw [← hinv, hL0, Nat.pow_zero, Nat.mul_one, Nat.mod_eq_of_lt hA]
    rfl
  | succ n ih =>
    intro A S L hLn hL62 hA hS hinv ls hl
    have hAS := mul_lt62 (show A < 2 ^ 31 by omega) (show S < 2 ^ 31 by omega)
    have hSS := mul_lt62 (show S < 2 ^ 31 by omega) (show S < 2 ^ 31 by omega)
    refine lv_lload hx hb dX5_power_17 (lv_at hl 3 rfl) ?_
    refine lv_lconst (v := lN 0) hx hb dX5_power_19 (by decide) ?_
    refine W.lcmp hx hb dX5_power_20 ?_
    refine lv_if_le (tgt := 67) hx hb dX5_power_21 (by decide) (fun hc => ?_) (fun hc => ?_)
    · rw [lg_cmp_le, pk_lLE (by omega) (by omega)] at hc
      have hL0 : L = 0 := by omega
      refine kx ls (lv_sub hl [1] ?_)
      rw [← hinv, hL0, Nat.pow_zero, Nat.mul_one, Nat.mod_eq_of_lt hA]
      rfl
    · rw [lg_cmp_le, pk_lLE (by omega) (by omega)] at hc
      refine lv_lload hx hb dX5_power_24 (lv_at hl 3 rfl) ?_
      refine lv_lconst (v := lN 1) hx hb dX5_power_26 (by decide) ?_
      refine lv_land hx hb dX5_power_27 ?_
      rw [l_odd L]
      refine lv_lconst (v := lN 1) hx hb dX5_power_28 (by decide) ?_
      refine W.lcmp hx hb dX5_power_29 ?_
      refine lv_if_ne (tgt := 44) hx hb dX5_power_30 (by decide) (fun hc2 => ?_) (fun hc2 => ?_)
      · rw [lg_cmp_eq, pk_lEQ (by omega) (by omega)] at hc2
        refine lv_lload hx hb dX5_power_44 (lv_at hl 1 rfl) ?_
        refine lv_lstore (lv' := [(6, .long (lN A)), (4, .long (lN b)), (8, .long (lN S)), (10, .long (lN L))]) hx hb dX5_power_46 hl (by decide) rfl (fun ls hl => ?_)
        refine lv_lload hx hb dX5_power_48 (lv_at hl 2 rfl) ?_
        refine lv_lload hx hb dX5_power_50 (lv_at hl 2 rfl) ?_
        refine lv_lmul hx hb dX5_power_52 ?_
        rw [lN_mul]
        refine lv_lload hx hb dX5_power_53 (lv_at hl 1 rfl) ?_
        refine lv_lrem hx hb dX5_power_55 (lN_ne0 (by omega) (by omega)) ?_
        rw [pk_lRem (by omega) (by omega) (by omega)]
        refine lv_lstore (lv' := [(8, .long (lN (S * S % b))), (6, .long (lN A)), (4, .long (lN b)), (10, .long (lN L))]) hx hb dX5_power_56 hl (by decide) rfl (fun ls hl => ?_)
        refine lv_lload hx hb dX5_power_58 (lv_at hl 3 rfl) ?_
        refine lv_iconst (v := nI 1) hx hb dX5_power_60 (by decide) ?_
        refine lv_lshr hx hb dX5_power_61 rfl ?_
        rw [l_half (by omega)]
        refine lv_lstore (lv' := [(10, .long (lN (L / 2))), (8, .long (lN (S * S % b))), (6, .long (lN A)), (4, .long (lN b))]) hx hb dX5_power_62 hl (by decide) rfl (fun ls hl => ?_)
        refine lv_goto (tgt := 17) hx hb dX5_power_64 (by decide) ?_
        exact ih (A) (S * S % b) (L / 2) (by omega) (by omega) hA (Nat.mod_lt _ (by omega)) (by rw [pw_inv_even (by omega)]; exact hinv) ls (lv_sub hl [3, 2, 1, 0] rfl)
      · rw [lg_cmp_eq, pk_lEQ (by omega) (by omega)] at hc2
        refine lv_lload hx hb dX5_power_33 (lv_at hl 1 rfl) ?_
        refine lv_lload hx hb dX5_power_35 (lv_at hl 2 rfl) ?_
        refine lv_lmul hx hb dX5_power_37 ?_
        rw [lN_mul]
        refine lv_lload hx hb dX5_power_38 (lv_at hl 0 rfl) ?_
        refine lv_lrem hx hb dX5_power_40 (lN_ne0 (by omega) (by omega)) ?_
        rw [pk_lRem (by omega) (by omega) (by omega)]
        refine lv_goto (tgt := 46) hx hb dX5_power_41 (by decide) ?_
        refine lv_lstore (lv' := [(6, .long (lN (A * S % b))), (4, .long (lN b)), (8, .long (lN S)), (10, .long (lN L))]) hx hb dX5_power_46 hl (by decide) rfl (fun ls hl => ?_)
        refine lv_lload hx hb dX5_power_48 (lv_at hl 2 rfl) ?_
        refine lv_lload hx hb dX5_power_50 (lv_at hl 2 rfl) ?_
        refine lv_lmul hx hb dX5_power_52 ?_
        rw [lN_mul]
        refine lv_lload hx hb dX5_power_53 (lv_at hl 1 rfl) ?_
        refine lv_lrem hx hb dX5_power_55 (lN_ne0 (by omega) (by omega)) ?_
        rw [pk_lRem (by omega) (by omega) (by omega)]
        refine lv_lstore (lv' := [(8, .long (lN (S * S % b))), (6, .long (lN (A * S % b))), (4, .long (lN b)), (10, .long (lN L))]) hx hb dX5_power_56 hl (by decide) rfl (fun ls hl => ?_)
        refine lv_lload hx hb dX5_power_58 (lv_at hl 3 rfl) ?_
        refine lv_iconst (v := nI 1) hx hb dX5_power_60 (by decide) ?_
        refine lv_lshr hx hb dX5_power_61 rfl ?_
        rw [l_half (by omega)]
        refine lv_lstore (lv' := [(10, .long (lN (L / 2))), (8, .long (lN (S * S % b))), (6, .long (lN (A * S % b))), (4, .long (lN b))]) hx hb dX5_power_62 hl (by decide) rfl (fun ls hl => ?_)
        refine lv_goto (tgt := 17) hx hb dX5_power_64 (by decide) ?_
        exact ih (A * S % b) (S * S % b) (L / 2) (by omega) (by omega) (Nat.mod_lt _ (by omega)) (Nat.mod_lt _ (by omega)) (by rw [pw_inv_odd (by omega)]; exact hinv) ls (lv_sub hl [3, 2, 1, 0] rfl)
set_option maxHeartbeats 4000000 in
set_option maxRecDepth 100000 in
theorem k5_power (l : Launch) (a x b : Nat) (ha : a < b) (hx0 : x < 2 ^ 62) (hb1 : 1 < b) (hb0 : b < 2 ^ 31) : MS l yX5_power (.code yX5_power cX5_power 12 (some .long)) ({ frames := 1, cells := 0, slots := 0, locals := 33 }) [.long (lN a), .long (lN x), .long (lN b)] (.long (lN (a ^ x % b))) := by
  refine MS.of (by decide) (Nat.le_of_ble_eq_true rfl) ?_
  intro p e s m below meth c ls hC hr hlocks hl
  obtain ⟨hx, hb, hml, hown, hts⟩ := id hC
  have hl : lv_has ls 12 [(0, .long (lN a)), (2, .long (lN x)), (4, .long (lN b))] := hl
  refine lv_lconst (v := lN 1) hx hb dX5_power_0 (by decide) ?_
  refine lv_lload hx hb dX5_power_1 (lv_at hl 2 rfl) ?_
  refine lv_lrem hx hb dX5_power_3 (lN_ne0 (by omega) (by omega)) ?_
  rw [pk_lRem (by decide) (by omega) (by omega)]
  rw [Nat.mod_eq_of_lt hb1]
  refine lv_lstore (lv' := [(6, .long (lN 1)), (0, .long (lN a)), (2, .long (lN x)), (4, .long (lN b))]) hx hb dX5_power_4 hl (by decide) rfl (fun ls hl => ?_)
  refine lv_lload_n hx hb dX5_power_6 rfl (lv_at hl 1 rfl) ?_
  refine lv_lload hx hb dX5_power_7 (lv_at hl 3 rfl) ?_
  refine x_callS (As := [.long (lN a), .long (lN b)]) (rest := []) hC sf_X5_55 (k5_rest l (lN a) b (by omega) hb0) ⟨rfl, rfl, Nat.le_of_ble_eq_true rfl, Nat.le_of_ble_eq_true rfl⟩ hl.1 (Nat.le_of_ble_eq_true rfl) dX5_power_9 ⟨Nat.zero_le _, Nat.zero_le _⟩ rfl ?_
  rw [md_nat (by omega), Nat.mod_eq_of_lt ha]
  refine lv_lstore (lv' := [(8, .long (lN a)), (6, .long (lN 1)), (0, .long (lN a)), (2, .long (lN x)), (4, .long (lN b))]) hx hb dX5_power_12 hl (by decide) rfl (fun ls hl => ?_)
  refine lv_lload_n hx hb dX5_power_14 rfl (lv_at hl 3 rfl) ?_
  refine lv_lstore (lv' := [(10, .long (lN x)), (8, .long (lN a)), (6, .long (lN 1)), (0, .long (lN a)), (2, .long (lN x)), (4, .long (lN b))]) hx hb dX5_power_15 hl (by decide) rfl (fun ls hl => ?_)
  refine k5_power_loop hC a x b hb1 hb0 (fun ls hl => ?_) x 1 a x (Nat.le_refl _) hx0 hb1 ha (by rw [Nat.one_mul]) ls (lv_sub hl [5, 2, 1, 0] rfl)
  refine lv_lload hx hb dX5_power_67 (lv_at hl 0 rfl) ?_
  exact x_retL hx hb hr hlocks dX5_power_69
set_option maxHeartbeats 4000000 in
set_option maxRecDepth 100000 in
theorem k5_isExponent (l : Launch) (x : Nat) (hx0 : x < 1073741789) : MS l yX5_isExponent (.code yX5_isExponent cX5_isExponent 1 (some .boolean)) ({ frames := 0, cells := 0, slots := 0, locals := 0 }) [.int (nI x)] (.int (nI 1)) := by
  refine MS.of (by decide) (Nat.le_of_ble_eq_true rfl) ?_
  intro p e s m below meth c ls hC hr hlocks hl
  obtain ⟨hx, hb, hml, hown, hts⟩ := id hC
  have hl : lv_has ls 1 [(0, .int (nI x))] := hl
  refine lv_iload_n hx hb dX5_isExponent_0 rfl (lv_at hl 0 rfl) ?_
  refine lv_if_lt (tgt := 17) hx hb dX5_isExponent_1 (by decide) (fun hc => absurd hc (nI_pos (by omega))) (fun hc => ?_)
  refine lv_iload_n hx hb dX5_isExponent_4 rfl (lv_at hl 0 rfl) ?_
  refine lv_i2l hx hb dX5_isExponent_5 (nI_l (by omega)) ?_
  refine lv_ldc2 hx hb hown (hts _ ct_X5_62) dX5_isExponent_6 ?_
  refine W.lcmp hx hb dX5_isExponent_9 ?_
  refine lv_if_ge (tgt := 17) hx hb dX5_isExponent_10 (by decide) (fun hc => ?_) (fun hc => ?_)
  · rw [lg_cmp_ge, pk_lLE (by omega) (by omega)] at hc
    omega
  · rw [lg_cmp_ge, pk_lLE (by omega) (by omega)] at hc
    refine lv_iconst (v := nI 1) hx hb dX5_isExponent_13 (by decide) ?_
    refine lv_goto (tgt := 18) hx hb dX5_isExponent_14 (by decide) ?_
    exact x_retZ hx hb hr hlocks (by decide) dX5_isExponent_18
set_option maxHeartbeats 4000000 in
set_option maxRecDepth 100000 in
theorem k5_isExponentN (l : Launch) (x : Int32) (hx0 : x < 0 ∨ nI 1073741789 ≤ x) : MS l yX5_isExponent (.code yX5_isExponent cX5_isExponent 1 (some .boolean)) ({ frames := 0, cells := 0, slots := 0, locals := 0 }) [.int x] (.int (nI 0)) := by
  refine MS.of (by decide) (Nat.le_of_ble_eq_true rfl) ?_
  intro p e s m below meth c ls hC hr hlocks hl
  obtain ⟨hx, hb, hml, hown, hts⟩ := id hC
  have hl : lv_has ls 1 [(0, .int x)] := hl
  refine lv_iload_n hx hb dX5_isExponent_0 rfl (lv_at hl 0 rfl) ?_
  refine lv_if_lt (tgt := 17) hx hb dX5_isExponent_1 (by decide) (fun hc => ?_) (fun hc => ?_)
  · skip
    refine lv_iconst (v := nI 0) hx hb dX5_isExponent_17 (by decide) ?_
    exact x_retZ hx hb hr hlocks (by decide) dX5_isExponent_18
  · skip
    obtain ⟨j, hj, rfl⟩ := nI_of hc
    have hQ := hx0.resolve_left hc
    rw [nI_leI (by decide) (by omega)] at hQ
    refine lv_iload_n hx hb dX5_isExponent_4 rfl (lv_at hl 0 rfl) ?_
    refine lv_i2l hx hb dX5_isExponent_5 (nI_l (by omega)) ?_
    refine lv_ldc2 hx hb hown (hts _ ct_X5_62) dX5_isExponent_6 ?_
    refine W.lcmp hx hb dX5_isExponent_9 ?_
    refine lv_if_ge (tgt := 17) hx hb dX5_isExponent_10 (by decide) (fun hc2 => ?_) (fun hc2 => ?_)
    · rw [lg_cmp_ge, pk_lLE (by omega) (by omega)] at hc2
      refine lv_iconst (v := nI 0) hx hb dX5_isExponent_17 (by decide) ?_
      exact x_retZ hx hb hr hlocks (by decide) dX5_isExponent_18
    · rw [lg_cmp_ge, pk_lLE (by omega) (by omega)] at hc2
      omega
set_option maxHeartbeats 4000000 in
set_option maxRecDepth 100000 in
theorem k5_quotient (l : Launch) (a z b x : Nat) (ha : a < 2147483579) (hz : z < 2 ^ 62) (hb1 : b < 2147483579) (hx0 : x < 1073741789) : MS l yX5_quotient (.code yX5_quotient cX5_quotient 8 (some .long)) ({ frames := 2, cells := 0, slots := 0, locals := 72 }) [.long (lN a), .long (lN z), .long (lN b), .long (lN x)] (.long (lN (a ^ z % 2147483579 * (b ^ (2147483578 - x) % 2147483579) % 2147483579))) := by
  refine MS.of (by decide) (Nat.le_of_ble_eq_true rfl) ?_
  intro p e s m below meth c ls hC hr hlocks hl
  obtain ⟨hx, hb, hml, hown, hts⟩ := id hC
  have hl : lv_has ls 8 [(0, .long (lN a)), (2, .long (lN z)), (4, .long (lN b)), (6, .long (lN x))] := hl
  have h1 := pw_lt a z (show 0 < 2147483579 by decide)
  have h2 := pw_lt b (2147483578 - x) (show 0 < 2147483579 by decide)
  have h3 := mul_lt62 (show a ^ z % 2147483579 < 2 ^ 31 by omega) (show b ^ (2147483578 - x) % 2147483579 < 2 ^ 31 by omega)
  refine lv_lload_n hx hb dX5_quotient_0 rfl (lv_at hl 0 rfl) ?_
  refine lv_lload_n hx hb dX5_quotient_1 rfl (lv_at hl 1 rfl) ?_
  refine lv_ldc2 hx hb hown (hts _ ct_X5_93) dX5_quotient_2 ?_
  refine x_callS (As := [.long (lN a), .long (lN z), .long (lN 2147483579)]) (rest := []) hC sf_X5_95 (k5_power l a z 2147483579 ha hz (by decide) (by decide)) ⟨rfl, rfl, Nat.le_of_ble_eq_true rfl, Nat.le_of_ble_eq_true rfl⟩ hl.1 (Nat.le_of_ble_eq_true rfl) dX5_quotient_5 ⟨Nat.zero_le _, Nat.zero_le _⟩ rfl ?_
  refine lv_lload hx hb dX5_quotient_8 (lv_at hl 2 rfl) ?_
  refine lv_ldc2 hx hb hown (hts _ ct_X5_117) dX5_quotient_10 ?_
  refine lv_lload hx hb dX5_quotient_13 (lv_at hl 3 rfl) ?_
  refine lv_lsub hx hb dX5_quotient_15 ?_
  rw [lN_sub (by omega)]
  refine lv_ldc2 hx hb hown (hts _ ct_X5_93) dX5_quotient_16 ?_
  refine x_callS (As := [.long (lN b), .long (lN (2147483578 - x)), .long (lN 2147483579)]) (rest := [.long (lN (a ^ z % 2147483579))]) hC sf_X5_95 (k5_power l b (2147483578 - x) 2147483579 hb1 (by omega) (by decide) (by decide)) ⟨rfl, rfl, Nat.le_of_ble_eq_true rfl, Nat.le_of_ble_eq_true rfl⟩ hl.1 (Nat.le_of_ble_eq_true rfl) dX5_quotient_19 ⟨Nat.zero_le _, Nat.zero_le _⟩ rfl ?_
  refine lv_lmul hx hb dX5_quotient_22 ?_
  rw [lN_mul]
  refine lv_ldc2 hx hb hown (hts _ ct_X5_93) dX5_quotient_23 ?_
  refine lv_lrem hx hb dX5_quotient_26 (by decide) ?_
  rw [pk_lRem (by omega) (by decide) (by decide)]
  exact x_retL hx hb hr hlocks dX5_quotient_27
end
section
/-! a dealer's methods (but dealBySeed) -/
abbrev tyL (cI cJ cZ cD : ClassId) : List (ClassId × FieldType) := [(cI, .int), (cJ, .long), (cZ, .boolean), (cD, .object "BeaconRing$Dealer")]
theorem or_bit {a k : Nat} (hk : k < 31) : nI a ||| (nI 1 <<< (nI k &&& 31)) = nI (a ||| 2 ^ k) := by
  rw [pk_shlN _ k (sh_k k (by omega)) (by have := Nat.pow_lt_pow_right (a := 2) (by decide) hk; omega), Nat.one_mul]
  apply Int32.toBitVec_inj.mp
  rw [Int32.toBitVec_or]
  show BitVec.ofNat 32 a ||| BitVec.ofNat 32 (2 ^ k) = BitVec.ofNat 32 (a ||| 2 ^ k)
  rw [BitVec.ofNat_or]

set_option maxHeartbeats 4000000 in
set_option maxRecDepth 100000 in
theorem k_forget (l : Launch) {D : va_G} {cI cJ cZ cD : ClassId} {ad : Nat → Nat} {w : Nat → va_E} {sz : Nat} (i : Nat) (hi : i < 17) (cp hd ou : Int32) (hD : w (2 + 4 * i) = .inr (0, [.ref (ad (3 + 4 * i)), .ref (ad (4 + 4 * i)), .ref (ad (5 + 4 * i)), .int cp, .int hd, .int ou])) : MW l yX0_forget (.code yX0_forget cX0_forget 1 none) ({ frames := 0, cells := 0, slots := 0, locals := 0 }) [.ref (ad (2 + 4 * i))] D (tyL cI cJ cZ cD) ad 89 w sz none (fun u => u = va_up w (2 + 4 * i) (.inr (0, [.ref (ad (3 + 4 * i)), .ref (ad (4 + 4 * i)), .ref (ad (5 + 4 * i)), .int (nI 0), .int (nI 0), .int (nI 0)]))) := by
  refine MW.of (by decide) (Nat.le_of_ble_eq_true rfl) ?_
  intro p e s m below meth c ls hC hr hlocks hl hw
  obtain ⟨hx, hb, hml, hown, hts⟩ := id hC
  have hA : ∀ q, s.heap.size ≤ q → xA ad 89 s.heap.size q := fun q h => Or.inr h
  have hl : lv_has ls 1 [(0, .ref (ad (2 + 4 * i)))] := hl
  refine lv_aload_n hx hb dX0_forget_0 rfl (lv_at hl 0 rfl) ?_
  refine lv_iconst (v := nI 0) hx hb dX0_forget_1 (by decide) ?_
  refine pf_X0_21 (v := .int (nI 0)) hx hb hts hown hw (by omega) hD rfl rfl (Nat.le_of_ble_eq_true rfl) dX0_forget_2 (fun w_1 H locs ew_2 hw => ?_)
  have hc_3 : w_1 (2 + 4 * i) = .inr (0, [.ref (ad (3 + 4 * i)), .ref (ad (4 + 4 * i)), .ref (ad (5 + 4 * i)), .int (nI 0), .int hd, .int ou]) := by rw [ew_2]; exact va_up_self _ _ _
  refine lv_aload_n hx hb dX0_forget_5 rfl (lv_at hl 0 rfl) ?_
  refine lv_iconst (v := nI 0) hx hb dX0_forget_6 (by decide) ?_
  refine pf_X0_25 (v := .int (nI 0)) hx hb hts hown hw (by omega) hc_3 rfl (by decide) (Nat.le_of_ble_eq_true rfl) dX0_forget_7 (fun w_4 H locs ew_5 hw => ?_)
  have hc_6 : w_4 (2 + 4 * i) = .inr (0, [.ref (ad (3 + 4 * i)), .ref (ad (4 + 4 * i)), .ref (ad (5 + 4 * i)), .int (nI 0), .int (nI 0), .int ou]) := by rw [ew_5]; exact va_up_self _ _ _
  refine lv_aload_n hx hb dX0_forget_10 rfl (lv_at hl 0 rfl) ?_
  refine lv_iconst (v := nI 0) hx hb dX0_forget_11 (by decide) ?_
  refine pf_X0_29 (v := .int (nI 0)) hx hb hts hown hw (by omega) hc_6 rfl (by decide) (Nat.le_of_ble_eq_true rfl) dX0_forget_12 (fun w_7 H locs ew_8 hw => ?_)
  have hc_9 : w_7 (2 + 4 * i) = .inr (0, [.ref (ad (3 + 4 * i)), .ref (ad (4 + 4 * i)), .ref (ad (5 + 4 * i)), .int (nI 0), .int (nI 0), .int (nI 0)]) := by rw [ew_8]; exact va_up_self _ _ _
  exact x_wretV hx hb hr hlocks hw (by rw [ew_8, ew_5, ew_2, bx_uu, bx_uu] <;> rfl) dX0_forget_15
set_option maxHeartbeats 4000000 in
set_option maxRecDepth 100000 in
theorem k_isRightShare (l : Launch) {D : va_G} {cI cJ cZ cD : ClassId} {ad : Nat → Nat} {w : Nat → va_E} {sz : Nat} (i : Nat) (hi : i < 17) (cp hd ou : Int32) (rt : Nat → Int32) (k x r : Nat) (hk : k < 17) (hx0 : x < 2 ^ 31) (hr0 : r < 2 ^ 31) (hrt : rt k = nI r) (hD : w (2 + 4 * i) = .inr (0, [.ref (ad (3 + 4 * i)), .ref (ad (4 + 4 * i)), .ref (ad (5 + 4 * i)), .int cp, .int hd, .int ou])) (hRt : w (4 + 4 * i) = .inl (cI, 17, .inl rt)) : MW l yX0_isRightShare (.code yX0_isRightShare cX0_isRightShare 3 (some .boolean)) ({ frames := 0, cells := 0, slots := 0, locals := 0 }) [.ref (ad (2 + 4 * i)), .int (nI k), .int (nI x)] D (tyL cI cJ cZ cD) ad 89 w sz (some (.int (if x = r then nI 1 else nI 0))) (fun u => u = w) := by
  refine MW.of (by decide) (Nat.le_of_ble_eq_true rfl) ?_
  intro p e s m below meth c ls hC hr hlocks hl hw
  obtain ⟨hx, hb, hml, hown, hts⟩ := id hC
  have hA : ∀ q, s.heap.size ≤ q → xA ad 89 s.heap.size q := fun q h => Or.inr h
  have hl : lv_has ls 3 [(0, .ref (ad (2 + 4 * i))), (1, .int (nI k)), (2, .int (nI x))] := hl
  refine lv_iload_n hx hb dX0_isRightShare_0 rfl (lv_at hl 2 rfl) ?_
  refine lv_aload_n hx hb dX0_isRightShare_1 rfl (lv_at hl 0 rfl) ?_
  refine gf_X0_15 hx hb hts hown hw (by omega) hD rfl dX0_isRightShare_2 ?_
  refine lv_iload_n hx hb dX0_isRightShare_5 rfl (lv_at hl 1 rfl) ?_
  refine x_iald hx hb hw (by omega) 0 hRt rfl (j := k) (by omega) (by decide) hrt dX0_isRightShare_6 ?_
  refine lv_icmp_ne (tgt := 14) hx hb dX0_isRightShare_7 (by decide) (fun hc => ?_) (fun hc => ?_)
  · rw [nI_eq (by omega) (by omega)] at hc
    rw [if_neg hc]
    refine lv_iconst (v := nI 0) hx hb dX0_isRightShare_14 (by decide) ?_
    exact x_wretZ hx hb hr hlocks (by decide) hw rfl dX0_isRightShare_15
  · rw [nI_eq (by omega) (by omega)] at hc
    rw [if_pos hc]
    refine lv_iconst (v := nI 1) hx hb dX0_isRightShare_10 (by decide) ?_
    refine lv_goto (tgt := 15) hx hb dX0_isRightShare_11 (by decide) ?_
    exact x_wretZ hx hb hr hlocks (by decide) hw rfl dX0_isRightShare_15
set_option maxHeartbeats 4000000 in
set_option maxRecDepth 100000 in
theorem k_hasComplaintOf (l : Launch) {D : va_G} {cI cJ cZ cD : ClassId} {ad : Nat → Nat} {w : Nat → va_E} {sz : Nat} (i : Nat) (hi : i < 17) (cp : Nat) (hcp : cp < 2 ^ 31) (hd ou : Int32) (k : Nat) (hk : k < 32) (hD : w (2 + 4 * i) = .inr (0, [.ref (ad (3 + 4 * i)), .ref (ad (4 + 4 * i)), .ref (ad (5 + 4 * i)), .int (nI cp), .int hd, .int ou])) : MW l yX0_hasComplaintOf (.code yX0_hasComplaintOf cX0_hasComplaintOf 2 (some .boolean)) ({ frames := 1, cells := 0, slots := 0, locals := 29 }) [.ref (ad (2 + 4 * i)), .int (nI k)] D (tyL cI cJ cZ cD) ad 89 w sz (some (.int (nI (tb cp k)))) (fun u => u = w) := by
  refine MW.of (by decide) (Nat.le_of_ble_eq_true rfl) ?_
  intro p e s m below meth c ls hC hr hlocks hl hw
  obtain ⟨hx, hb, hml, hown, hts⟩ := id hC
  have hA : ∀ q, s.heap.size ≤ q → xA ad 89 s.heap.size q := fun q h => Or.inr h
  have hl : lv_has ls 2 [(0, .ref (ad (2 + 4 * i))), (1, .int (nI k))] := hl
  have htb := tb_lt cp k
  refine lv_aload_n hx hb dX0_hasComplaintOf_0 rfl (lv_at hl 0 rfl) ?_
  refine gf_X0_21 hx hb hts hown hw (by omega) hD rfl dX0_hasComplaintOf_1 ?_
  refine lv_iload_n hx hb dX0_hasComplaintOf_4 rfl (lv_at hl 1 rfl) ?_
  refine x_callS (As := [.int (nI cp), .int (nI k)]) (rest := []) hC sf_X0_53 (k_hasBit l cp k hcp hk) ⟨rfl, rfl, Nat.le_of_ble_eq_true rfl, Nat.le_of_ble_eq_true rfl⟩ hl.1 (Nat.le_of_ble_eq_true rfl) dX0_hasComplaintOf_5 ⟨Nat.zero_le _, Nat.zero_le _⟩ rfl ?_
  have hn : narrow .boolean (.int (nI (tb cp k))) = .int (nI (tb cp k)) := by rcases (show tb cp k = 0 ∨ tb cp k = 1 by omega) with q | q <;> rw [q] <;> rfl
  exact x_wretZ hx hb hr hlocks hn hw rfl dX0_hasComplaintOf_8
set_option maxHeartbeats 4000000 in
set_option maxRecDepth 100000 in
theorem k_mayQualify (l : Launch) {D : va_G} {cI cJ cZ cD : ClassId} {ad : Nat → Nat} {w : Nat → va_E} {sz : Nat} (i : Nat) (hi : i < 17) (cp hd ou : Nat) (hcp : cp < 2 ^ 31) (hhd : hd < 2) (hou : ou < 2) (hD : w (2 + 4 * i) = .inr (0, [.ref (ad (3 + 4 * i)), .ref (ad (4 + 4 * i)), .ref (ad (5 + 4 * i)), .int (nI cp), .int (nI hd), .int (nI ou)])) : MW l yX0_mayQualify (.code yX0_mayQualify cX0_mayQualify 1 (some .boolean)) ({ frames := 0, cells := 0, slots := 0, locals := 0 }) [.ref (ad (2 + 4 * i))] D (tyL cI cJ cZ cD) ad 89 w sz (some (.int (if hd = 1 ∧ ou = 0 ∧ cp = 0 then nI 1 else nI 0))) (fun u => u = w) := by
  refine MW.of (by decide) (Nat.le_of_ble_eq_true rfl) ?_
  intro p e s m below meth c ls hC hr hlocks hl hw
  obtain ⟨hx, hb, hml, hown, hts⟩ := id hC
  have hA : ∀ q, s.heap.size ≤ q → xA ad 89 s.heap.size q := fun q h => Or.inr h
  have hl : lv_has ls 1 [(0, .ref (ad (2 + 4 * i)))] := hl
  refine lv_aload_n hx hb dX0_mayQualify_0 rfl (lv_at hl 0 rfl) ?_
  refine gf_X0_25 hx hb hts hown hw (by omega) hD rfl dX0_mayQualify_1 ?_
  refine lv_if_eq (tgt := 25) hx hb dX0_mayQualify_4 (by decide) (fun hc => ?_) (fun hc => ?_)
  · rw [nI_z (by omega)] at hc
    rw [if_neg (by omega)]
    refine lv_iconst (v := nI 0) hx hb dX0_mayQualify_25 (by decide) ?_
    exact x_wretZ hx hb hr hlocks (by decide) hw rfl dX0_mayQualify_26
  · rw [nI_z (by omega)] at hc
    refine lv_aload_n hx hb dX0_mayQualify_7 rfl (lv_at hl 0 rfl) ?_
    refine gf_X0_29 hx hb hts hown hw (by omega) hD rfl dX0_mayQualify_8 ?_
    refine lv_if_ne (tgt := 25) hx hb dX0_mayQualify_11 (by decide) (fun hc2 => ?_) (fun hc2 => ?_)
    · rw [nI_z (by omega)] at hc2
      rw [if_neg (by omega)]
      refine lv_iconst (v := nI 0) hx hb dX0_mayQualify_25 (by decide) ?_
      exact x_wretZ hx hb hr hlocks (by decide) hw rfl dX0_mayQualify_26
    · rw [nI_z (by omega)] at hc2
      refine lv_aload_n hx hb dX0_mayQualify_14 rfl (lv_at hl 0 rfl) ?_
      refine gf_X0_21 hx hb hts hown hw (by omega) hD rfl dX0_mayQualify_15 ?_
      refine lv_if_ne (tgt := 25) hx hb dX0_mayQualify_18 (by decide) (fun hc3 => ?_) (fun hc3 => ?_)
      · rw [nI_z (by omega)] at hc3
        rw [if_neg (by omega)]
        refine lv_iconst (v := nI 0) hx hb dX0_mayQualify_25 (by decide) ?_
        exact x_wretZ hx hb hr hlocks (by decide) hw rfl dX0_mayQualify_26
      · rw [nI_z (by omega)] at hc3
        rw [if_pos (by omega)]
        refine lv_iconst (v := nI 1) hx hb dX0_mayQualify_21 (by decide) ?_
        refine lv_goto (tgt := 26) hx hb dX0_mayQualify_22 (by decide) ?_
        exact x_wretZ hx hb hr hlocks (by decide) hw rfl dX0_mayQualify_26
set_option maxHeartbeats 4000000 in
set_option maxRecDepth 100000 in
theorem k_addToGiven (l : Launch) {D : va_G} {cI cJ cZ cD : ClassId} {ad : Nat → Nat} {w : Nat → va_E} {sz : Nat} (i : Nat) (hi : i < 17) (cp hd ou : Int32) (gv : Nat → Int32) (k x g : Nat) (hk : k < 17) (hx0 : x < 1073741789) (hg : g < 1073741789) (hgv : gv k = nI g) (hD : w (2 + 4 * i) = .inr (0, [.ref (ad (3 + 4 * i)), .ref (ad (4 + 4 * i)), .ref (ad (5 + 4 * i)), .int cp, .int hd, .int ou])) (hGv : w (5 + 4 * i) = .inl (cI, 17, .inl gv)) : MW l yX0_addToGiven (.code yX0_addToGiven cX0_addToGiven 4 (some .int)) ({ frames := 2, cells := 0, slots := 0, locals := 62 }) [.ref (ad (2 + 4 * i)), .int (nI k), .int (nI x)] D (tyL cI cJ cZ cD) ad 89 w sz (some (.int (nI g))) (fun u => u = va_up w (5 + 4 * i) (.inl (cI, 17, .inl (upd gv k (nI ((g + x) % 1073741789)))))) := by
  refine MW.of (by decide) (Nat.le_of_ble_eq_true rfl) ?_
  intro p e s m below meth c ls hC hr hlocks hl hw
  obtain ⟨hx, hb, hml, hown, hts⟩ := id hC
  have hA : ∀ q, s.heap.size ≤ q → xA ad 89 s.heap.size q := fun q h => Or.inr h
  have hl : lv_has ls 4 [(0, .ref (ad (2 + 4 * i))), (1, .int (nI k)), (2, .int (nI x))] := hl
  refine lv_aload_n hx hb dX0_addToGiven_0 rfl (lv_at hl 0 rfl) ?_
  refine gf_X0_18 hx hb hts hown hw (by omega) hD rfl dX0_addToGiven_1 ?_
  refine lv_iload_n hx hb dX0_addToGiven_4 rfl (lv_at hl 1 rfl) ?_
  refine x_iald hx hb hw (by omega) 0 hGv rfl (j := k) (by omega) (by decide) hgv dX0_addToGiven_5 ?_
  refine lv_istore_n (lv' := [(3, .int (nI g)), (0, .ref (ad (2 + 4 * i))), (1, .int (nI k)), (2, .int (nI x))]) hx hb dX0_addToGiven_6 rfl hl (by decide) rfl (fun ls hl => ?_)
  refine lv_aload_n hx hb dX0_addToGiven_7 rfl (lv_at hl 1 rfl) ?_
  refine gf_X0_18 hx hb hts hown hw (by omega) hD rfl dX0_addToGiven_8 ?_
  refine lv_iload_n hx hb dX0_addToGiven_11 rfl (lv_at hl 2 rfl) ?_
  refine lv_iload_n hx hb dX0_addToGiven_12 rfl (lv_at hl 0 rfl) ?_
  refine lv_i2l hx hb dX0_addToGiven_13 (nI_l (by omega)) ?_
  refine lv_iload_n hx hb dX0_addToGiven_14 rfl (lv_at hl 3 rfl) ?_
  refine lv_i2l hx hb dX0_addToGiven_15 (nI_l (by omega)) ?_
  refine t_ladd hx hb dX0_addToGiven_16 (v := lN (g + x)) (lN_add _ _) ?_
  refine x_callS (As := [.long (lN (g + x))]) (rest := [.int (nI k), .ref (ad (5 + 4 * i))]) hC sf_X0_41 (k_toExponent l (lN (g + x))) ⟨rfl, rfl, Nat.le_of_ble_eq_true rfl, Nat.le_of_ble_eq_true rfl⟩ hl.1 (Nat.le_of_ble_eq_true rfl) dX0_addToGiven_17 ⟨Nat.zero_le _, Nat.zero_le _⟩ rfl ?_
  rw [md_nat (by omega)]
  refine x_iast hx hb hw (by omega) 0 hGv rfl (j := k) (by omega) (by decide) dX0_addToGiven_20 (fun w_1 H locs ew_2 hw => ?_)
  have hc_3 : w_1 (2 + 4 * i) = .inr (0, [.ref (ad (3 + 4 * i)), .ref (ad (4 + 4 * i)), .ref (ad (5 + 4 * i)), .int cp, .int hd, .int ou]) := by rw [ew_2]; exact (va_up_ne _ _ (by omega)).trans hD
  have hc_4 : w_1 (5 + 4 * i) = .inl (cI, 17, .inl (upd gv k (nI ((g + x) % 1073741789)))) := by rw [ew_2]; exact va_up_self _ _ _
  refine lv_iload_n hx hb dX0_addToGiven_21 rfl (lv_at hl 0 rfl) ?_
  exact x_wretI hx hb hr hlocks hw (by rw [ew_2] <;> rfl) dX0_addToGiven_22
theorem and_bit {a k : Nat} (ha : a < 2 ^ 31) (hk : k < 31) : nI a &&& ((nI 1 <<< (nI k &&& 31)) ^^^ (-1)) = nI (a &&& (2 ^ 32 - 1 - 2 ^ k)) := by
  have hp := Nat.pow_lt_pow_right (a := 2) (by decide) hk
  rw [pk_shlN _ k (sh_k k (by omega)) (by omega), Nat.one_mul]
  apply Int32.toBitVec_inj.mp
  rw [Int32.toBitVec_and, Int32.toBitVec_xor]
  show BitVec.ofNat 32 a &&& (BitVec.ofNat 32 (2 ^ k) ^^^ BitVec.allOnes 32) = BitVec.ofNat 32 (a &&& (2 ^ 32 - 1 - 2 ^ k))
  rw [BitVec.ofNat_and, BitVec.xor_allOnes]
  congr 1
  apply BitVec.eq_of_toNat_eq
  rw [BitVec.toNat_not, BitVec.toNat_ofNat, BitVec.toNat_ofNat]
  generalize 2 ^ k = t at hp
  rw [Nat.mod_eq_of_lt (a := t) (by omega), Nat.mod_eq_of_lt (by omega)]
def clr (a k : Nat) : Nat := a &&& (2 ^ 32 - 1 - 2 ^ k)

set_option maxHeartbeats 4000000 in
set_option maxRecDepth 100000 in
theorem k_answer_no (l : Launch) {D : va_G} {cI cJ cZ cD : ClassId} {ad : Nat → Nat} {w : Nat → va_E} {sz : Nat} (i : Nat) (hi : i < 17) (cp : Nat) (hcp : cp < 2 ^ 17) (hd ou : Int32) (rt gv : Nat → Int32) (k r x : Nat) (hk : k < 17) (hr0 : r < 1073741789) (hx0 : x < 1073741789) (hrt : rt k = nI r) (hxp : 0 < x) (hD : w (2 + 4 * i) = .inr (0, [.ref (ad (3 + 4 * i)), .ref (ad (4 + 4 * i)), .ref (ad (5 + 4 * i)), .int (nI cp), .int hd, .int ou])) (hRt : w (4 + 4 * i) = .inl (cI, 17, .inl rt)) (hGv : w (5 + 4 * i) = .inl (cI, 17, .inl gv)) : MW l yX0_answerComplaint (.code yX0_answerComplaint cX0_answerComplaint 4 (some .boolean)) ({ frames := 2, cells := 0, slots := 0, locals := 62 }) [.ref (ad (2 + 4 * i)), .int (nI k), .int (nI x)] D (tyL cI cJ cZ cD) ad 89 w sz (some (.int (nI 0))) (fun u => u = va_up w (2 + 4 * i) (.inr (0, [.ref (ad (3 + 4 * i)), .ref (ad (4 + 4 * i)), .ref (ad (5 + 4 * i)), .int (nI cp), .int hd, .int (nI 1)]))) := by
  refine MW.of (by decide) (Nat.le_of_ble_eq_true rfl) ?_
  intro p e s m below meth c ls hC hr hlocks hl hw
  obtain ⟨hx, hb, hml, hown, hts⟩ := id hC
  have hA : ∀ q, s.heap.size ≤ q → xA ad 89 s.heap.size q := fun q h => Or.inr h
  have hl : lv_has ls 4 [(0, .ref (ad (2 + 4 * i))), (1, .int (nI k)), (2, .int (nI x))] := hl
  refine lv_aload_n hx hb dX0_answerComplaint_0 rfl (lv_at hl 0 rfl) ?_
  refine gf_X0_15 hx hb hts hown hw (by omega) hD rfl dX0_answerComplaint_1 ?_
  refine lv_iload_n hx hb dX0_answerComplaint_4 rfl (lv_at hl 1 rfl) ?_
  refine x_iald hx hb hw (by omega) 0 hRt rfl (j := k) (by omega) (by decide) hrt dX0_answerComplaint_5 ?_
  refine lv_i2l hx hb dX0_answerComplaint_6 (nI_l (by omega)) ?_
  refine lv_iload_n hx hb dX0_answerComplaint_7 rfl (lv_at hl 2 rfl) ?_
  refine lv_i2l hx hb dX0_answerComplaint_8 (nI_l (by omega)) ?_
  refine t_ladd hx hb dX0_answerComplaint_9 (v := lN (r + x)) (lN_add _ _) ?_
  refine x_callS (As := [.long (lN (r + x))]) (rest := []) hC sf_X0_41 (k_toExponent l (lN (r + x))) ⟨rfl, rfl, Nat.le_of_ble_eq_true rfl, Nat.le_of_ble_eq_true rfl⟩ hl.1 (Nat.le_of_ble_eq_true rfl) dX0_answerComplaint_10 ⟨Nat.zero_le _, Nat.zero_le _⟩ rfl ?_
  rw [md_nat (by omega)]
  have hlt : (r + x) % 1073741789 < 1073741789 := Nat.mod_lt _ (by decide)
  have hne : ¬ (r + x) % 1073741789 = r := by omega
  refine lv_istore_n (lv' := [(3, .int (nI ((r + x) % 1073741789))), (0, .ref (ad (2 + 4 * i))), (1, .int (nI k)), (2, .int (nI x))]) hx hb dX0_answerComplaint_13 rfl hl (by decide) rfl (fun ls hl => ?_)
  refine lv_aload_n hx hb dX0_answerComplaint_14 rfl (lv_at hl 1 rfl) ?_
  refine lv_iload_n hx hb dX0_answerComplaint_15 rfl (lv_at hl 2 rfl) ?_
  refine lv_iload_n hx hb dX0_answerComplaint_16 rfl (lv_at hl 0 rfl) ?_
  refine x_callW1 (As := [.int (nI k), .int (nI ((r + x) % 1073741789))]) (rest := []) hC vf_X0_49 hw hA (by omega) hD rfl rfl (k_isRightShare l i hi _ _ _ rt k ((r + x) % 1073741789) r hk (by omega) (by omega) hrt hD hRt) ⟨rfl, rfl, Nat.le_of_ble_eq_true rfl, Nat.le_of_ble_eq_true rfl⟩ hl.1 (Nat.le_of_ble_eq_true rfl) dX0_answerComplaint_17 ⟨Nat.zero_le _, Nat.zero_le _⟩ rfl (fun w_1 H locs hu hw => ?_)
  rw [hu] at hw
  rw [if_neg hne]
  refine lv_if_ne (tgt := 30) hx hb dX0_answerComplaint_20 (by decide) (fun hcq => absurd (by decide) hcq) (fun hcq => ?_)
  refine lv_aload_n hx hb dX0_answerComplaint_23 rfl (lv_at hl 1 rfl) ?_
  refine lv_iconst (v := nI 1) hx hb dX0_answerComplaint_24 (by decide) ?_
  refine pf_X0_29 (v := .int (nI 1)) hx hb hts hown hw (by omega) hD rfl (by decide) (Nat.le_of_ble_eq_true rfl) dX0_answerComplaint_25 (fun w_2 H locs ew_3 hw => ?_)
  have hc_4 : w_2 (2 + 4 * i) = .inr (0, [.ref (ad (3 + 4 * i)), .ref (ad (4 + 4 * i)), .ref (ad (5 + 4 * i)), .int (nI cp), .int hd, .int (nI 1)]) := by rw [ew_3]; exact va_up_self _ _ _
  have hc_5 : w_2 (4 + 4 * i) = .inl (cI, 17, .inl rt) := by rw [ew_3]; exact (va_up_ne _ _ (by omega)).trans hRt
  have hc_6 : w_2 (5 + 4 * i) = .inl (cI, 17, .inl gv) := by rw [ew_3]; exact (va_up_ne _ _ (by omega)).trans hGv
  refine lv_iconst (v := nI 0) hx hb dX0_answerComplaint_28 (by decide) ?_
  exact x_wretZ hx hb hr hlocks (by decide) hw (by rw [ew_3] <;> rfl) dX0_answerComplaint_29
set_option maxHeartbeats 4000000 in
set_option maxRecDepth 100000 in
theorem k_answer_yes (l : Launch) {D : va_G} {cI cJ cZ cD : ClassId} {ad : Nat → Nat} {w : Nat → va_E} {sz : Nat} (i : Nat) (hi : i < 17) (cp : Nat) (hcp : cp < 2 ^ 17) (hd ou : Int32) (rt gv : Nat → Int32) (k r x : Nat) (hk : k < 17) (hr0 : r < 1073741789) (hx0 : x < 1073741789) (hrt : rt k = nI r) (hxp : x = 0) (hD : w (2 + 4 * i) = .inr (0, [.ref (ad (3 + 4 * i)), .ref (ad (4 + 4 * i)), .ref (ad (5 + 4 * i)), .int (nI cp), .int hd, .int ou])) (hRt : w (4 + 4 * i) = .inl (cI, 17, .inl rt)) (hGv : w (5 + 4 * i) = .inl (cI, 17, .inl gv)) : MW l yX0_answerComplaint (.code yX0_answerComplaint cX0_answerComplaint 4 (some .boolean)) ({ frames := 2, cells := 0, slots := 0, locals := 62 }) [.ref (ad (2 + 4 * i)), .int (nI k), .int (nI x)] D (tyL cI cJ cZ cD) ad 89 w sz (some (.int (nI 1))) (fun u => u = va_up (va_up w (5 + 4 * i) (.inl (cI, 17, .inl (upd gv k (nI r))))) (2 + 4 * i) (.inr (0, [.ref (ad (3 + 4 * i)), .ref (ad (4 + 4 * i)), .ref (ad (5 + 4 * i)), .int (nI (clr cp k)), .int hd, .int ou]))) := by
  refine MW.of (by decide) (Nat.le_of_ble_eq_true rfl) ?_
  intro p e s m below meth c ls hC hr hlocks hl hw
  obtain ⟨hx, hb, hml, hown, hts⟩ := id hC
  have hA : ∀ q, s.heap.size ≤ q → xA ad 89 s.heap.size q := fun q h => Or.inr h
  have hl : lv_has ls 4 [(0, .ref (ad (2 + 4 * i))), (1, .int (nI k)), (2, .int (nI x))] := hl
  refine lv_aload_n hx hb dX0_answerComplaint_0 rfl (lv_at hl 0 rfl) ?_
  refine gf_X0_15 hx hb hts hown hw (by omega) hD rfl dX0_answerComplaint_1 ?_
  refine lv_iload_n hx hb dX0_answerComplaint_4 rfl (lv_at hl 1 rfl) ?_
  refine x_iald hx hb hw (by omega) 0 hRt rfl (j := k) (by omega) (by decide) hrt dX0_answerComplaint_5 ?_
  refine lv_i2l hx hb dX0_answerComplaint_6 (nI_l (by omega)) ?_
  refine lv_iload_n hx hb dX0_answerComplaint_7 rfl (lv_at hl 2 rfl) ?_
  refine lv_i2l hx hb dX0_answerComplaint_8 (nI_l (by omega)) ?_
  refine t_ladd hx hb dX0_answerComplaint_9 (v := lN (r + x)) (lN_add _ _) ?_
  refine x_callS (As := [.long (lN (r + x))]) (rest := []) hC sf_X0_41 (k_toExponent l (lN (r + x))) ⟨rfl, rfl, Nat.le_of_ble_eq_true rfl, Nat.le_of_ble_eq_true rfl⟩ hl.1 (Nat.le_of_ble_eq_true rfl) dX0_answerComplaint_10 ⟨Nat.zero_le _, Nat.zero_le _⟩ rfl ?_
  rw [md_nat (by omega)]
  have hlt : (r + x) % 1073741789 < 1073741789 := Nat.mod_lt _ (by decide)
  have hne : (r + x) % 1073741789 = r := by omega
  refine lv_istore_n (lv' := [(3, .int (nI ((r + x) % 1073741789))), (0, .ref (ad (2 + 4 * i))), (1, .int (nI k)), (2, .int (nI x))]) hx hb dX0_answerComplaint_13 rfl hl (by decide) rfl (fun ls hl => ?_)
  refine lv_aload_n hx hb dX0_answerComplaint_14 rfl (lv_at hl 1 rfl) ?_
  refine lv_iload_n hx hb dX0_answerComplaint_15 rfl (lv_at hl 2 rfl) ?_
  refine lv_iload_n hx hb dX0_answerComplaint_16 rfl (lv_at hl 0 rfl) ?_
  refine x_callW1 (As := [.int (nI k), .int (nI ((r + x) % 1073741789))]) (rest := []) hC vf_X0_49 hw hA (by omega) hD rfl rfl (k_isRightShare l i hi _ _ _ rt k ((r + x) % 1073741789) r hk (by omega) (by omega) hrt hD hRt) ⟨rfl, rfl, Nat.le_of_ble_eq_true rfl, Nat.le_of_ble_eq_true rfl⟩ hl.1 (Nat.le_of_ble_eq_true rfl) dX0_answerComplaint_17 ⟨Nat.zero_le _, Nat.zero_le _⟩ rfl (fun w_1 H locs hu hw => ?_)
  rw [hu] at hw
  rw [if_pos hne]
  refine lv_if_ne (tgt := 30) hx hb dX0_answerComplaint_20 (by decide) (fun hcq => ?_) (fun hcq => absurd hcq (by decide))
  refine lv_aload_n hx hb dX0_answerComplaint_30 rfl (lv_at hl 1 rfl) ?_
  refine gf_X0_18 hx hb hts hown hw (by omega) hD rfl dX0_answerComplaint_31 ?_
  refine lv_iload_n hx hb dX0_answerComplaint_34 rfl (lv_at hl 2 rfl) ?_
  refine lv_iload_n hx hb dX0_answerComplaint_35 rfl (lv_at hl 0 rfl) ?_
  rw [hne]
  refine x_iast hx hb hw (by omega) 0 hGv rfl (j := k) (by omega) (by decide) dX0_answerComplaint_36 (fun w_2 H locs ew_3 hw => ?_)
  have hc_4 : w_2 (2 + 4 * i) = .inr (0, [.ref (ad (3 + 4 * i)), .ref (ad (4 + 4 * i)), .ref (ad (5 + 4 * i)), .int (nI cp), .int hd, .int ou]) := by rw [ew_3]; exact (va_up_ne _ _ (by omega)).trans hD
  have hc_5 : w_2 (4 + 4 * i) = .inl (cI, 17, .inl rt) := by rw [ew_3]; exact (va_up_ne _ _ (by omega)).trans hRt
  have hc_6 : w_2 (5 + 4 * i) = .inl (cI, 17, .inl (upd gv k (nI r))) := by rw [ew_3]; exact va_up_self _ _ _
  refine lv_aload_n hx hb dX0_answerComplaint_37 rfl (lv_at hl 1 rfl) ?_
  refine lv_dup hx hb dX0_answerComplaint_38 rfl ?_
  refine gf_X0_21 hx hb hts hown hw (by omega) hc_4 rfl dX0_answerComplaint_39 ?_
  refine lv_iconst (v := nI 1) hx hb dX0_answerComplaint_42 (by decide) ?_
  refine lv_iload_n hx hb dX0_answerComplaint_43 rfl (lv_at hl 2 rfl) ?_
  refine lv_ishl hx hb dX0_answerComplaint_44 ?_
  refine lv_iconst (v := (-1)) hx hb dX0_answerComplaint_45 (by decide) ?_
  refine lv_ixor hx hb dX0_answerComplaint_46 ?_
  refine lv_iand hx hb dX0_answerComplaint_47 ?_
  rw [(show _ = nI (clr cp k) from and_bit (by omega) (by omega))]
  refine pf_X0_21 (v := .int (nI (clr cp k))) hx hb hts hown hw (by omega) hc_4 rfl rfl (Nat.le_of_ble_eq_true rfl) dX0_answerComplaint_48 (fun w_7 H locs ew_8 hw => ?_)
  have hc_9 : w_7 (2 + 4 * i) = .inr (0, [.ref (ad (3 + 4 * i)), .ref (ad (4 + 4 * i)), .ref (ad (5 + 4 * i)), .int (nI (clr cp k)), .int hd, .int ou]) := by rw [ew_8]; exact va_up_self _ _ _
  have hc_10 : w_7 (4 + 4 * i) = .inl (cI, 17, .inl rt) := by rw [ew_8]; exact (va_up_ne _ _ (by omega)).trans hc_5
  have hc_11 : w_7 (5 + 4 * i) = .inl (cI, 17, .inl (upd gv k (nI r))) := by rw [ew_8]; exact (va_up_ne _ _ (by omega)).trans hc_6
  refine lv_iconst (v := nI 1) hx hb dX0_answerComplaint_51 (by decide) ?_
  exact x_wretZ hx hb hr hlocks (by decide) hw (by rw [ew_8, ew_3] <;> rfl) dX0_answerComplaint_52
def gath (cp : Nat) (sh rg : Nat → Nat) : Nat → Nat
  | 0 => cp
  | q + 1 => if sh (q + 1) = rg (q + 1) then gath cp sh rg q else gath cp sh rg q ||| 2 ^ (q + 1)
theorem gath_lt {cp : Nat} {sh rg : Nat → Nat} (h : cp < 2 ^ 17) : ∀ q, q ≤ 16 → gath cp sh rg q < 2 ^ 17 := by
  intro q
  induction q with
  | zero => intro _; exact h
  | succ q ih =>
    intro hq
    show (if _ then _ else _) < _
    by_cases hc : sh (q + 1) = rg (q + 1)
    · rw [if_pos hc]; exact ih (by omega)
    · rw [if_neg hc]; exact or_lt (ih (by omega)) (by omega)

set_option maxHeartbeats 4000000 in
set_option maxRecDepth 100000 in
theorem k_gather_loop {l : Launch} {p : Program} {e : Env} {s : State} {m : MethodId} {args : Array Value} {below : List Frame} {meth : Method} {c : Code} {Q : State → Prop} {D : va_G} {cI cJ cZ cD : ClassId} {ad : Nat → Nat} {A : Nat → Prop} {H0 : Heap} {w0 : Nat → va_E} (hC : CallFix p m c cX0_gatherComplaints 3 s args wsL_law RX0) (hA : ∀ q, H0.size ≤ q → A q) (i : Nat) (hi : i < 17) (cp n : Nat) (hcp : cp < 2 ^ 17) (hn : n ≤ 16) (ou : Int32) (rt gv : Nat → Int32) (sh rg : Nat → Nat) (hrt : ∀ k, 1 ≤ k → k ≤ n → rt k = nI (rg k) ∧ rg k < 1073741789) (hgv : ∀ k, 1 ≤ k → k ≤ n → gv k = nI (sh k) ∧ sh k < 1073741789) (hRt : w0 (4 + 4 * i) = .inl (cI, 17, .inl rt)) (hGv : w0 (5 + 4 * i) = .inl (cI, 17, .inl gv))
    (kx : ∀ (w : Nat → va_E) (ls : Array Slot) (H : Heap) (locs : List Loc), w = va_up w0 (2 + 4 * i) (.inr (0, [.ref (ad (3 + 4 * i)), .ref (ad (4 + 4 * i)), .ref (ad (5 + 4 * i)), .int (nI (gath cp sh rg n)), .int (nI 1), .int ou])) → WW D vwCl (tyL cI cJ cZ cD) A H0 ad 89 w s H locs → W p l e ({ frames := 1, cells := 0, slots := 0, locals := 30 }) s m args below meth c H locs 0 0 Q (F0 m 47 ls [])) :
    ∀ (j q : Nat) (w : Nat → va_E) (ls : Array Slot) (H : Heap) (locs : List Loc), q + j = n → w = va_up w0 (2 + 4 * i) (.inr (0, [.ref (ad (3 + 4 * i)), .ref (ad (4 + 4 * i)), .ref (ad (5 + 4 * i)), .int (nI (gath cp sh rg q)), .int (nI 1), .int ou])) → WW D vwCl (tyL cI cJ cZ cD) A H0 ad 89 w s H locs → lv_has ls 3 [(0, .ref (ad (2 + 4 * i))), (1, .int (nI n)), (2, .int (nI (q + 1)))] → W p l e ({ frames := 1, cells := 0, slots := 0, locals := 30 }) s m args below meth c H locs 0 0 Q (F0 m 10 ls []) := by
  obtain ⟨hx, hb, hml, hown, hts⟩ := id hC
  intro j
  induction j with
  | zero =>
    intro q w ls H locs hq ew hw hl
    obtain rfl : q = n := by omega
    refine lv_iload_n hx hb dX0_gatherComplaints_10 rfl (lv_at hl 2 rfl) ?_
    refine lv_iload_n hx hb dX0_gatherComplaints_11 rfl (lv_at hl 1 rfl) ?_
    refine lv_icmp_gt (tgt := 47) hx hb dX0_gatherComplaints_12 (by decide) (fun hc => ?_) (fun hc => absurd (nI_lt (by omega) (by omega)) hc)
    exact kx w ls H locs ew hw
  | succ j ih =>
    intro q w ls H locs hq ew hw hl
    have hg := gath_lt (sh := sh) (rg := rg) hcp q (by omega)
    have hD : w (2 + 4 * i) = .inr (0, [.ref (ad (3 + 4 * i)), .ref (ad (4 + 4 * i)), .ref (ad (5 + 4 * i)), .int (nI (gath cp sh rg q)), .int (nI 1), .int ou]) := by rw [ew]; exact va_up_self _ _ _
    have hRt : w (4 + 4 * i) = .inl (cI, 17, .inl rt) := by rw [ew]; exact (va_up_ne _ _ (by omega)).trans hRt
    have hGv : w (5 + 4 * i) = .inl (cI, 17, .inl gv) := by rw [ew]; exact (va_up_ne _ _ (by omega)).trans hGv
    obtain ⟨hrt1, hrt2⟩ := hrt (q + 1) (by omega) (by omega)
    obtain ⟨hgv1, hgv2⟩ := hgv (q + 1) (by omega) (by omega)
    refine lv_iload_n hx hb dX0_gatherComplaints_10 rfl (lv_at hl 2 rfl) ?_
    refine lv_iload_n hx hb dX0_gatherComplaints_11 rfl (lv_at hl 1 rfl) ?_
    refine lv_icmp_gt (tgt := 47) hx hb dX0_gatherComplaints_12 (by decide) (fun hc => absurd hc (nI_nlt (by omega) (by omega))) (fun hc => ?_)
    refine lv_aload_n hx hb dX0_gatherComplaints_15 rfl (lv_at hl 0 rfl) ?_
    refine lv_iload_n hx hb dX0_gatherComplaints_16 rfl (lv_at hl 2 rfl) ?_
    refine lv_aload_n hx hb dX0_gatherComplaints_17 rfl (lv_at hl 0 rfl) ?_
    refine gf_X0_18 hx hb hts hown hw (by omega) hD rfl dX0_gatherComplaints_18 ?_
    refine lv_iload_n hx hb dX0_gatherComplaints_21 rfl (lv_at hl 2 rfl) ?_
    refine x_iald hx hb hw (by omega) 0 hGv rfl (j := q + 1) (by omega) (by decide) hgv1 dX0_gatherComplaints_22 ?_
    refine x_callW1 (As := [.int (nI (q + 1)), .int (nI (sh (q + 1)))]) (rest := []) hC vf_X0_49 hw hA (by omega) hD rfl rfl (k_isRightShare l i hi _ _ _ rt (q + 1) (sh (q + 1)) (rg (q + 1)) (by omega) (by omega) (by omega) hrt1 hD hRt) ⟨rfl, rfl, Nat.le_of_ble_eq_true rfl, Nat.le_of_ble_eq_true rfl⟩ hl.1 (Nat.le_of_ble_eq_true rfl) dX0_gatherComplaints_23 ⟨Nat.zero_le _, Nat.zero_le _⟩ rfl (fun w_1 H locs hu hw => ?_)
    rw [hu] at hw
    by_cases hs : sh (q + 1) = rg (q + 1)
    · skip
      rw [if_pos hs]
      refine lv_if_ne (tgt := 41) hx hb dX0_gatherComplaints_26 (by decide) (fun hc2 => ?_) (fun hc2 => absurd hc2 (by decide))
      refine lv_iinc (v := nI (q + 1 + 1)) (lv' := [(2, .int (nI (q + 1 + 1))), (0, .ref (ad (2 + 4 * i))), (1, .int (nI n))]) hx hb dX0_gatherComplaints_41 hl (k := 2) rfl (nI_1 (q + 1)) (by decide) rfl (fun ls hl => ?_)
      refine lv_goto (tgt := 10) hx hb dX0_gatherComplaints_44 (by decide) ?_
      exact ih (q + 1) _ ls H locs (by omega) (by rw [ew, show gath cp sh rg (q + 1) = gath cp sh rg q from if_pos hs]) hw (lv_sub hl [1, 2, 0] rfl)
    · skip
      rw [if_neg hs]
      refine lv_if_ne (tgt := 41) hx hb dX0_gatherComplaints_26 (by decide) (fun hc2 => absurd (by decide) hc2) (fun hc2 => ?_)
      refine lv_aload_n hx hb dX0_gatherComplaints_29 rfl (lv_at hl 0 rfl) ?_
      refine lv_dup hx hb dX0_gatherComplaints_30 rfl ?_
      refine gf_X0_21 hx hb hts hown hw (by omega) hD rfl dX0_gatherComplaints_31 ?_
      refine lv_iconst (v := nI 1) hx hb dX0_gatherComplaints_34 (by decide) ?_
      refine lv_iload_n hx hb dX0_gatherComplaints_35 rfl (lv_at hl 2 rfl) ?_
      refine lv_ishl hx hb dX0_gatherComplaints_36 ?_
      refine lv_ior hx hb dX0_gatherComplaints_37 ?_
      rw [or_bit (by omega)]
      refine pf_X0_21 (v := .int (nI (gath cp sh rg q ||| 2 ^ (q + 1)))) hx hb hts hown hw (by omega) hD rfl rfl (Nat.le_of_ble_eq_true rfl) dX0_gatherComplaints_38 (fun w_2 H locs ew_3 hw => ?_)
      have hc_4 : w_2 (2 + 4 * i) = .inr (0, [.ref (ad (3 + 4 * i)), .ref (ad (4 + 4 * i)), .ref (ad (5 + 4 * i)), .int (nI (gath cp sh rg q ||| 2 ^ (q + 1))), .int (nI 1), .int ou]) := by rw [ew_3]; exact va_up_self _ _ _
      have hc_5 : w_2 (4 + 4 * i) = .inl (cI, 17, .inl rt) := by rw [ew_3]; exact (va_up_ne _ _ (by omega)).trans hRt
      have hc_6 : w_2 (5 + 4 * i) = .inl (cI, 17, .inl gv) := by rw [ew_3]; exact (va_up_ne _ _ (by omega)).trans hGv
      refine lv_iinc (v := nI (q + 1 + 1)) (lv' := [(2, .int (nI (q + 1 + 1))), (0, .ref (ad (2 + 4 * i))), (1, .int (nI n))]) hx hb dX0_gatherComplaints_41 hl (k := 2) rfl (nI_1 (q + 1)) (by decide) rfl (fun ls hl => ?_)
      refine lv_goto (tgt := 10) hx hb dX0_gatherComplaints_44 (by decide) ?_
      exact ih (q + 1) _ ls H locs (by omega) (by rw [ew_3, ew, bx_uu, show gath cp sh rg (q + 1) = _ from if_neg hs] <;> rfl) hw (lv_sub hl [1, 2, 0] rfl)
set_option maxHeartbeats 4000000 in
set_option maxRecDepth 100000 in
theorem k_gather (l : Launch) {D : va_G} {cI cJ cZ cD : ClassId} {ad : Nat → Nat} {w : Nat → va_E} {sz : Nat} (i : Nat) (hi : i < 17) (cp n : Nat) (hcp : cp < 2 ^ 17) (hn : n ≤ 16) (ou : Int32) (rt gv : Nat → Int32) (sh rg : Nat → Nat) (hrt : ∀ k, 1 ≤ k → k ≤ n → rt k = nI (rg k) ∧ rg k < 1073741789) (hgv : ∀ k, 1 ≤ k → k ≤ n → gv k = nI (sh k) ∧ sh k < 1073741789) (hD : w (2 + 4 * i) = .inr (0, [.ref (ad (3 + 4 * i)), .ref (ad (4 + 4 * i)), .ref (ad (5 + 4 * i)), .int (nI cp), .int (nI 1), .int ou])) (hRt : w (4 + 4 * i) = .inl (cI, 17, .inl rt)) (hGv : w (5 + 4 * i) = .inl (cI, 17, .inl gv)) : MW l yX0_gatherComplaints (.code yX0_gatherComplaints cX0_gatherComplaints 3 none) ({ frames := 1, cells := 0, slots := 0, locals := 30 }) [.ref (ad (2 + 4 * i)), .int (nI n)] D (tyL cI cJ cZ cD) ad 89 w sz none (fun u => u = va_up w (2 + 4 * i) (.inr (0, [.ref (ad (3 + 4 * i)), .ref (ad (4 + 4 * i)), .ref (ad (5 + 4 * i)), .int (nI (gath cp sh rg n)), .int (nI 1), .int ou]))) := by
  refine MW.of (by decide) (Nat.le_of_ble_eq_true rfl) ?_
  intro p e s m below meth c ls hC hr hlocks hl hw
  obtain ⟨hx, hb, hml, hown, hts⟩ := id hC
  have hA : ∀ q, s.heap.size ≤ q → xA ad 89 s.heap.size q := fun q h => Or.inr h
  have hl : lv_has ls 3 [(0, .ref (ad (2 + 4 * i))), (1, .int (nI n))] := hl
  refine lv_aload_n hx hb dX0_gatherComplaints_0 rfl (lv_at hl 0 rfl) ?_
  refine gf_X0_25 hx hb hts hown hw (by omega) hD rfl dX0_gatherComplaints_1 ?_
  refine lv_if_ne (tgt := 8) hx hb dX0_gatherComplaints_4 (by decide) (fun hc => ?_) (fun hc => absurd hc (by decide))
  refine lv_iconst (v := nI 1) hx hb dX0_gatherComplaints_8 (by decide) ?_
  refine lv_istore_n (lv' := [(2, .int (nI 1)), (0, .ref (ad (2 + 4 * i))), (1, .int (nI n))]) hx hb dX0_gatherComplaints_9 rfl hl (by decide) rfl (fun ls hl => ?_)
  refine k_gather_loop (w0 := w) hC hA i hi cp n hcp hn ou rt gv sh rg hrt hgv hRt hGv (fun w1 ls H locs ew hw => ?_) n 0 w ls s.heap [] (by omega) ?_ hw (lv_sub hl [1, 2, 0] rfl)
  · skip
    exact x_wretV hx hb hr hlocks hw ew dX0_gatherComplaints_47
  · funext z
    by_cases hz : z = 2 + 4 * i
    · subst hz; rw [va_up_self]; exact hD
    · rw [va_up_ne _ _ hz]
set_option maxHeartbeats 4000000 in
set_option maxRecDepth 100000 in
theorem k_gather_not (l : Launch) {D : va_G} {cI cJ cZ cD : ClassId} {ad : Nat → Nat} {w : Nat → va_E} {sz : Nat} (i : Nat) (hi : i < 17) (cp ou : Int32) (n : Nat) (hD : w (2 + 4 * i) = .inr (0, [.ref (ad (3 + 4 * i)), .ref (ad (4 + 4 * i)), .ref (ad (5 + 4 * i)), .int cp, .int (nI 0), .int ou])) : MW l yX0_gatherComplaints (.code yX0_gatherComplaints cX0_gatherComplaints 3 none) ({ frames := 0, cells := 0, slots := 0, locals := 0 }) [.ref (ad (2 + 4 * i)), .int (nI n)] D (tyL cI cJ cZ cD) ad 89 w sz none (fun u => u = w) := by
  refine MW.of (by decide) (Nat.le_of_ble_eq_true rfl) ?_
  intro p e s m below meth c ls hC hr hlocks hl hw
  obtain ⟨hx, hb, hml, hown, hts⟩ := id hC
  have hA : ∀ q, s.heap.size ≤ q → xA ad 89 s.heap.size q := fun q h => Or.inr h
  have hl : lv_has ls 3 [(0, .ref (ad (2 + 4 * i))), (1, .int (nI n))] := hl
  refine lv_aload_n hx hb dX0_gatherComplaints_0 rfl (lv_at hl 0 rfl) ?_
  refine gf_X0_25 hx hb hts hown hw (by omega) hD rfl dX0_gatherComplaints_1 ?_
  refine lv_if_ne (tgt := 8) hx hb dX0_gatherComplaints_4 (by decide) (fun hc => absurd (by decide) hc) (fun hc => ?_)
  exact x_wretV hx hb hr hlocks hw rfl dX0_gatherComplaints_7
end
section
/-! dealBySeed -/
def setD (ad : Nat → Nat) (cI : ClassId) (w0 : Nat → va_E) (i : Nat) (cm rt gv : Nat → Int32) (cp hd ou : Int32) : Nat → va_E := va_up (va_up (va_up (va_up w0 (2 + 4 * i) (.inr (0, [.ref (ad (3 + 4 * i)), .ref (ad (4 + 4 * i)), .ref (ad (5 + 4 * i)), .int cp, .int hd, .int ou]))) (3 + 4 * i) (.inl (cI, 16, .inl cm))) (4 + 4 * i) (.inl (cI, 17, .inl rt))) (5 + 4 * i) (.inl (cI, 17, .inl gv))
theorem va_up_comm {α : Type} (f : Nat → α) {i j : Nat} (h : i ≠ j) (a b : α) : va_up (va_up f i a) j b = va_up (va_up f j b) i a := by
  funext z
  unfold va_up
  by_cases h1 : z = i
  · subst h1; simp [h]
  · simp [h1]
theorem va_up_id {α : Type} (f : Nat → α) {i : Nat} {a : α} (h : f i = a) : va_up f i a = f := by
  funext z
  unfold va_up
  by_cases h1 : z = i
  · subst h1; simp [h]
  · simp [h1]
section SD
variable {ad : Nat → Nat} {cI : ClassId} {w0 : Nat → va_E} {i : Nat} {cm rt gv : Nat → Int32} {cp hd ou : Int32}
theorem setD_D : setD ad cI w0 i cm rt gv cp hd ou (2 + 4 * i) = .inr (0, [.ref (ad (3 + 4 * i)), .ref (ad (4 + 4 * i)), .ref (ad (5 + 4 * i)), .int cp, .int hd, .int ou]) := by
  unfold setD
  rw [va_up_ne _ _ (by omega), va_up_ne _ _ (by omega), va_up_ne _ _ (by omega), va_up_self]
theorem setD_cm : setD ad cI w0 i cm rt gv cp hd ou (3 + 4 * i) = .inl (cI, 16, .inl cm) := by
  unfold setD
  rw [va_up_ne _ _ (by omega), va_up_ne _ _ (by omega), va_up_self]
theorem setD_rt : setD ad cI w0 i cm rt gv cp hd ou (4 + 4 * i) = .inl (cI, 17, .inl rt) := by
  unfold setD
  rw [va_up_ne _ _ (by omega), va_up_self]
theorem setD_gv : setD ad cI w0 i cm rt gv cp hd ou (5 + 4 * i) = .inl (cI, 17, .inl gv) := by
  unfold setD
  rw [va_up_self]
theorem setD_ne {z : Nat} (h : z < 2 + 4 * i ∨ 5 + 4 * i < z) : setD ad cI w0 i cm rt gv cp hd ou z = w0 z := by
  unfold setD
  rw [va_up_ne _ _ (by omega), va_up_ne _ _ (by omega), va_up_ne _ _ (by omega), va_up_ne _ _ (by omega)]
theorem setD_upD (cp2 hd2 ou2 : Int32) : va_up (setD ad cI w0 i cm rt gv cp hd ou) (2 + 4 * i) (.inr (0, [.ref (ad (3 + 4 * i)), .ref (ad (4 + 4 * i)), .ref (ad (5 + 4 * i)), .int cp2, .int hd2, .int ou2])) = setD ad cI w0 i cm rt gv cp2 hd2 ou2 := by
  unfold setD
  rw [va_up_comm _ (by omega), va_up_comm _ (i := 4 + 4 * i) (by omega), va_up_comm _ (i := 3 + 4 * i) (by omega), bx_uu]
theorem setD_upcm (f : Nat → Int32) : va_up (setD ad cI w0 i cm rt gv cp hd ou) (3 + 4 * i) (.inl (cI, 16, .inl f)) = setD ad cI w0 i f rt gv cp hd ou := by
  unfold setD
  rw [va_up_comm _ (by omega), va_up_comm _ (i := 4 + 4 * i) (by omega), bx_uu]
theorem setD_uprt (f : Nat → Int32) : va_up (setD ad cI w0 i cm rt gv cp hd ou) (4 + 4 * i) (.inl (cI, 17, .inl f)) = setD ad cI w0 i cm f gv cp hd ou := by
  unfold setD
  rw [va_up_comm _ (by omega), bx_uu]
theorem setD_upgv (f : Nat → Int32) : va_up (setD ad cI w0 i cm rt gv cp hd ou) (5 + 4 * i) (.inl (cI, 17, .inl f)) = setD ad cI w0 i cm rt f cp hd ou := by
  unfold setD
  rw [bx_uu]
theorem setD_id (h1 : w0 (2 + 4 * i) = .inr (0, [.ref (ad (3 + 4 * i)), .ref (ad (4 + 4 * i)), .ref (ad (5 + 4 * i)), .int cp, .int hd, .int ou])) (h2 : w0 (3 + 4 * i) = .inl (cI, 16, .inl cm)) (h3 : w0 (4 + 4 * i) = .inl (cI, 17, .inl rt)) (h4 : w0 (5 + 4 * i) = .inl (cI, 17, .inl gv)) : setD ad cI w0 i cm rt gv cp hd ou = w0 := by
  unfold setD
  rw [va_up_id _ h1, va_up_id _ h2, va_up_id _ h3, va_up_id _ h4]
end SD
def coF (seed : Int64) (i j : Nat) : Nat := md (stirF (stirF (stirF (lN 0) seed) (lN i)) (lN j)) 1073741789
theorem coF_lt (seed : Int64) (i j : Nat) : coF seed i j < 1073741789 := md_lt _ (by decide)
def pol (co : Nat → Nat) (k : Nat) : Nat → Nat → Nat
  | _, 0 => 0
  | j, m + 1 => co j + k * pol co k (j + 1) m
def rgt (co : Nat → Nat) (t k : Nat) : Nat := pol co k 0 t % 1073741789
theorem rgt_lt (co : Nat → Nat) (t k : Nat) : rgt co t k < 1073741789 := Nat.mod_lt _ (by decide)
theorem pol_step (co : Nat → Nat) (k j m : Nat) : (pol co k (j + 1) m % 1073741789 * k + co j) % 1073741789 = pol co k j (m + 1) % 1073741789 := by
  show _ = (co j + k * pol co k (j + 1) m) % 1073741789
  rw [Nat.add_mod, mm1, ← Nat.add_mod, Nat.add_comm, Nat.mul_comm]
theorem upd_s (f : Nat → Int32) (k : Nat) (x : Int32) : upd f k x k = x := by simp [upd]
theorem upd_n (f : Nat → Int32) {k j : Nat} (x : Int32) (h : j ≠ k) : upd f k x j = f j := by simp [upd, h]
theorem upd_all {f v : Nat → Int32} {q : Nat} {x : Int32} (hx : x = v (q + 1)) (h : ∀ k, 1 ≤ k → k ≤ q → f k = v k) : ∀ k, 1 ≤ k → k ≤ q + 1 → upd f (q + 1) x k = v k := by
  intro k h1 h2
  by_cases hk : k = q + 1
  · rw [hk, upd_s, hx]
  · rw [upd_n _ _ hk]
    exact h k h1 (by omega)
theorem mulk_lt {a k : Nat} (ha : a < 1073741789) (hk : k ≤ 16) : a * k ≤ 17179868624 := Nat.mul_le_mul (Nat.le_of_lt ha) hk

set_option maxHeartbeats 4000000 in
set_option maxRecDepth 100000 in
theorem k_dealA {l : Launch} {p : Program} {e : Env} {s : State} {m : MethodId} {args : Array Value} {below : List Frame} {meth : Method} {c : Code} {Q : State → Prop} {D : va_G} {cI cJ cZ cD : ClassId} {ad : Nat → Nat} {A : Nat → Prop} {H0 : Heap} {w0 : Nat → va_E} (hC : CallFix p m c cX0_dealBySeed 9 s args wsL_law RX0) (hA : ∀ q, H0.size ≤ q → A q) (i : Nat) (hi : i < 17) (n t : Nat) (hn : n ≤ 16) (ht : t ≤ n) (seed : Int64) 
    (cm gv : Nat → Int32) (cp hd ou : Int32) (kx : ∀ (rt : Nat → Int32) (w : Nat → va_E) (ls : Array Slot) (H : Heap) (locs : List Loc), (∀ k, 1 ≤ k → k ≤ n → rt k = nI 0) → w = setD ad cI w0 i cm rt gv cp hd ou → WW D vwCl (tyL cI cJ cZ cD) A H0 ad 89 w s H locs → lv_has ls 9 [(0, .ref (ad (2 + 4 * i))), (1, .int (nI i)), (2, .long seed), (4, .int (nI n)), (5, .int (nI t))] → W p l e ({ frames := 2, cells := 0, slots := 0, locals := 64 }) s m args below meth c H locs 0 0 Q (F0 m 24 ls [])) :
    ∀ (j : Nat) (q : Nat) (rt : Nat → Int32) (w : Nat → va_E) (ls : Array Slot) (H : Heap) (locs : List Loc), q + j = n → (∀ k, 1 ≤ k → k ≤ q → rt k = nI 0) → w = setD ad cI w0 i cm rt gv cp hd ou → WW D vwCl (tyL cI cJ cZ cD) A H0 ad 89 w s H locs → lv_has ls 9 [(0, .ref (ad (2 + 4 * i))), (1, .int (nI i)), (2, .long seed), (4, .int (nI n)), (5, .int (nI t)), (6, .int (nI (q + 1)))] → W p l e ({ frames := 2, cells := 0, slots := 0, locals := 64 }) s m args below meth c H locs 0 0 Q (F0 m 3 ls []) := by
  obtain ⟨hx, hb, hml, hown, hts⟩ := id hC
  intro j
  induction j with
  | zero =>
    intro q rt w ls H locs hq hz ew hw hl
    obtain rfl : q = n := by omega
    refine lv_iload hx hb dX0_dealBySeed_3 (lv_at hl 5 rfl) ?_
    refine lv_iload hx hb dX0_dealBySeed_5 (lv_at hl 3 rfl) ?_
    refine lv_icmp_gt (tgt := 24) hx hb dX0_dealBySeed_7 (by decide) (fun hc => ?_) (fun hc => absurd (nI_lt (by omega) (by omega)) hc)
    exact kx rt w ls H locs hz ew hw (lv_sub hl [0, 1, 2, 3, 4] rfl)
  | succ j ih =>
    intro q rt w ls H locs hq hz ew hw hl
    have hD : w (2 + 4 * i) = .inr (0, [.ref (ad (3 + 4 * i)), .ref (ad (4 + 4 * i)), .ref (ad (5 + 4 * i)), .int cp, .int hd, .int ou]) := by rw [ew]; exact setD_D
    have hCm : w (3 + 4 * i) = .inl (cI, 16, .inl cm) := by rw [ew]; exact setD_cm
    have hRt : w (4 + 4 * i) = .inl (cI, 17, .inl rt) := by rw [ew]; exact setD_rt
    have hGv : w (5 + 4 * i) = .inl (cI, 17, .inl gv) := by rw [ew]; exact setD_gv
    refine lv_iload hx hb dX0_dealBySeed_3 (lv_at hl 5 rfl) ?_
    refine lv_iload hx hb dX0_dealBySeed_5 (lv_at hl 3 rfl) ?_
    refine lv_icmp_gt (tgt := 24) hx hb dX0_dealBySeed_7 (by decide) (fun hc => absurd hc (nI_nlt (by omega) (by omega))) (fun hc => ?_)
    refine lv_aload_n hx hb dX0_dealBySeed_10 rfl (lv_at hl 0 rfl) ?_
    refine gf_X0_15 hx hb hts hown hw (by omega) hD rfl dX0_dealBySeed_11 ?_
    refine lv_iload hx hb dX0_dealBySeed_14 (lv_at hl 5 rfl) ?_
    refine lv_iconst (v := nI 0) hx hb dX0_dealBySeed_16 (by decide) ?_
    refine x_iast hx hb hw (by omega) 0 hRt rfl (j := q + 1) (by omega) (by decide) dX0_dealBySeed_17 (fun w_1 H locs ew_2 hw => ?_)
    have hc_3 : w_1 (2 + 4 * i) = .inr (0, [.ref (ad (3 + 4 * i)), .ref (ad (4 + 4 * i)), .ref (ad (5 + 4 * i)), .int cp, .int hd, .int ou]) := by rw [ew_2]; exact (va_up_ne _ _ (by omega)).trans hD
    have hc_4 : w_1 (3 + 4 * i) = .inl (cI, 16, .inl cm) := by rw [ew_2]; exact (va_up_ne _ _ (by omega)).trans hCm
    have hc_5 : w_1 (4 + 4 * i) = .inl (cI, 17, .inl (upd rt (q + 1) (nI 0))) := by rw [ew_2]; exact va_up_self _ _ _
    have hc_6 : w_1 (5 + 4 * i) = .inl (cI, 17, .inl gv) := by rw [ew_2]; exact (va_up_ne _ _ (by omega)).trans hGv
    refine lv_iinc (v := nI (q + 1 + 1)) (lv' := [(6, .int (nI (q + 1 + 1))), (0, .ref (ad (2 + 4 * i))), (1, .int (nI i)), (2, .long seed), (4, .int (nI n)), (5, .int (nI t))]) hx hb dX0_dealBySeed_18 hl (k := 5) rfl (nI_1 (q + 1)) (by decide) rfl (fun ls hl => ?_)
    refine lv_goto (tgt := 3) hx hb dX0_dealBySeed_21 (by decide) ?_
    exact ih (q + 1) _ _ ls H locs (by omega) (upd_all (v := fun _ => nI 0) rfl hz) (by rw [ew_2, ew, setD_uprt]) hw (lv_sub hl [1, 2, 3, 4, 5, 0] rfl)
set_option maxHeartbeats 4000000 in
set_option maxRecDepth 100000 in
theorem k_dealC {l : Launch} {p : Program} {e : Env} {s : State} {m : MethodId} {args : Array Value} {below : List Frame} {meth : Method} {c : Code} {Q : State → Prop} {D : va_G} {cI cJ cZ cD : ClassId} {ad : Nat → Nat} {A : Nat → Prop} {H0 : Heap} {w0 : Nat → va_E} (hC : CallFix p m c cX0_dealBySeed 9 s args wsL_law RX0) (hA : ∀ q, H0.size ≤ q → A q) (i : Nat) (hi : i < 17) (n t : Nat) (hn : n ≤ 16) (ht : t ≤ n) (seed : Int64) 
    (cm gv : Nat → Int32) (cp hd ou : Int32) (x a : Nat) (ha : a < 1073741789) (old : Nat → Nat) (hold0 : ∀ k, 1 ≤ k → k ≤ n → True ∧ old k < 1073741789) (kx : ∀ (rt : Nat → Int32) (w : Nat → va_E) (ls : Array Slot) (H : Heap) (locs : List Loc), (∀ k, 1 ≤ k → k ≤ n → rt k = nI ((old k * k + a) % 1073741789)) → w = setD ad cI w0 i cm rt gv cp hd ou → WW D vwCl (tyL cI cJ cZ cD) A H0 ad 89 w s H locs → lv_has ls 9 [(0, .ref (ad (2 + 4 * i))), (1, .int (nI i)), (2, .long seed), (4, .int (nI n)), (5, .int (nI t)), (6, .int (nI x))] → W p l e ({ frames := 2, cells := 0, slots := 0, locals := 64 }) s m args below meth c H locs 0 0 Q (F0 m 107 ls [])) :
    ∀ (j : Nat) (q : Nat) (rt : Nat → Int32) (w : Nat → va_E) (ls : Array Slot) (H : Heap) (locs : List Loc), q + j = n → (∀ k, 1 ≤ k → k ≤ n → (k ≤ q → rt k = nI ((old k * k + a) % 1073741789)) ∧ (q < k → rt k = nI (old k))) → w = setD ad cI w0 i cm rt gv cp hd ou → WW D vwCl (tyL cI cJ cZ cD) A H0 ad 89 w s H locs → lv_has ls 9 [(0, .ref (ad (2 + 4 * i))), (1, .int (nI i)), (2, .long seed), (4, .int (nI n)), (5, .int (nI t)), (6, .int (nI x)), (7, .int (nI a)), (8, .int (nI (q + 1)))] → W p l e ({ frames := 2, cells := 0, slots := 0, locals := 64 }) s m args below meth c H locs 0 0 Q (F0 m 68 ls []) := by
  obtain ⟨hx, hb, hml, hown, hts⟩ := id hC
  intro j
  induction j with
  | zero =>
    intro q rt w ls H locs hq hz ew hw hl
    obtain rfl : q = n := by omega
    refine lv_iload hx hb dX0_dealBySeed_68 (lv_at hl 7 rfl) ?_
    refine lv_iload hx hb dX0_dealBySeed_70 (lv_at hl 3 rfl) ?_
    refine lv_icmp_gt (tgt := 107) hx hb dX0_dealBySeed_72 (by decide) (fun hc => ?_) (fun hc => absurd (nI_lt (by omega) (by omega)) hc)
    exact kx rt w ls H locs (fun k h1 h2 => (hz k h1 h2).1 h2) ew hw (lv_sub hl [0, 1, 2, 3, 4, 5] rfl)
  | succ j ih =>
    intro q rt w ls H locs hq hz ew hw hl
    have hD : w (2 + 4 * i) = .inr (0, [.ref (ad (3 + 4 * i)), .ref (ad (4 + 4 * i)), .ref (ad (5 + 4 * i)), .int cp, .int hd, .int ou]) := by rw [ew]; exact setD_D
    have hCm : w (3 + 4 * i) = .inl (cI, 16, .inl cm) := by rw [ew]; exact setD_cm
    have hRt : w (4 + 4 * i) = .inl (cI, 17, .inl rt) := by rw [ew]; exact setD_rt
    have hGv : w (5 + 4 * i) = .inl (cI, 17, .inl gv) := by rw [ew]; exact setD_gv
    obtain ⟨hold, hold2⟩ := hold0 (q + 1) (by omega) (by omega)
    have hrt1 : rt (q + 1) = nI (old (q + 1)) := (hz (q + 1) (by omega) (by omega)).2 (by omega)
    have hmk := mulk_lt hold2 (show q + 1 ≤ 16 by omega)
    refine lv_iload hx hb dX0_dealBySeed_68 (lv_at hl 7 rfl) ?_
    refine lv_iload hx hb dX0_dealBySeed_70 (lv_at hl 3 rfl) ?_
    refine lv_icmp_gt (tgt := 107) hx hb dX0_dealBySeed_72 (by decide) (fun hc => absurd hc (nI_nlt (by omega) (by omega))) (fun hc => ?_)
    refine lv_aload_n hx hb dX0_dealBySeed_75 rfl (lv_at hl 0 rfl) ?_
    refine gf_X0_15 hx hb hts hown hw (by omega) hD rfl dX0_dealBySeed_76 ?_
    refine lv_iload hx hb dX0_dealBySeed_79 (lv_at hl 7 rfl) ?_
    refine lv_aload_n hx hb dX0_dealBySeed_81 rfl (lv_at hl 0 rfl) ?_
    refine gf_X0_15 hx hb hts hown hw (by omega) hD rfl dX0_dealBySeed_82 ?_
    refine lv_iload hx hb dX0_dealBySeed_85 (lv_at hl 7 rfl) ?_
    refine x_iald hx hb hw (by omega) 0 hRt rfl (j := q + 1) (by omega) (by decide) hrt1 dX0_dealBySeed_87 ?_
    refine lv_i2l hx hb dX0_dealBySeed_88 (nI_l (by omega)) ?_
    refine lv_iload hx hb dX0_dealBySeed_89 (lv_at hl 7 rfl) ?_
    refine lv_i2l hx hb dX0_dealBySeed_91 (nI_l (by omega)) ?_
    refine lv_lmul hx hb dX0_dealBySeed_92 ?_
    rw [lN_mul]
    refine lv_iload hx hb dX0_dealBySeed_93 (lv_at hl 6 rfl) ?_
    refine lv_i2l hx hb dX0_dealBySeed_95 (nI_l (by omega)) ?_
    refine t_ladd hx hb dX0_dealBySeed_96 (v := lN ((old (q + 1)) * (q + 1) + a)) (lN_add _ _) ?_
    refine x_callS (As := [.long (lN ((old (q + 1)) * (q + 1) + a))]) (rest := [.int (nI (q + 1)), .ref (ad (4 + 4 * i))]) hC sf_X0_41 (k_toExponent l (lN (old (q + 1) * (q + 1) + a))) ⟨rfl, rfl, Nat.le_of_ble_eq_true rfl, Nat.le_of_ble_eq_true rfl⟩ hl.1 (Nat.le_of_ble_eq_true rfl) dX0_dealBySeed_97 ⟨Nat.zero_le _, Nat.zero_le _⟩ rfl ?_
    rw [md_nat (by omega)]
    refine x_iast hx hb hw (by omega) 0 hRt rfl (j := q + 1) (by omega) (by decide) dX0_dealBySeed_100 (fun w_1 H locs ew_2 hw => ?_)
    have hc_3 : w_1 (2 + 4 * i) = .inr (0, [.ref (ad (3 + 4 * i)), .ref (ad (4 + 4 * i)), .ref (ad (5 + 4 * i)), .int cp, .int hd, .int ou]) := by rw [ew_2]; exact (va_up_ne _ _ (by omega)).trans hD
    have hc_4 : w_1 (3 + 4 * i) = .inl (cI, 16, .inl cm) := by rw [ew_2]; exact (va_up_ne _ _ (by omega)).trans hCm
    have hc_5 : w_1 (4 + 4 * i) = .inl (cI, 17, .inl (upd rt (q + 1) (nI ((old (q + 1) * (q + 1) + a) % 1073741789)))) := by rw [ew_2]; exact va_up_self _ _ _
    have hc_6 : w_1 (5 + 4 * i) = .inl (cI, 17, .inl gv) := by rw [ew_2]; exact (va_up_ne _ _ (by omega)).trans hGv
    refine lv_iinc (v := nI (q + 1 + 1)) (lv' := [(8, .int (nI (q + 1 + 1))), (0, .ref (ad (2 + 4 * i))), (1, .int (nI i)), (2, .long seed), (4, .int (nI n)), (5, .int (nI t)), (6, .int (nI x)), (7, .int (nI a))]) hx hb dX0_dealBySeed_101 hl (k := 7) rfl (nI_1 (q + 1)) (by decide) rfl (fun ls hl => ?_)
    refine lv_goto (tgt := 68) hx hb dX0_dealBySeed_104 (by decide) ?_
    refine ih (q + 1) _ _ ls H locs (by omega) (fun k h1 h2 => ⟨fun h3 => ?_, fun h3 => ?_⟩) (by rw [ew_2, ew, setD_uprt]) hw (lv_sub hl [1, 2, 3, 4, 5, 6, 7, 0] rfl)
    · by_cases hk : k = q + 1
      · rw [hk, upd_s]
      · rw [upd_n _ _ hk]; exact (hz k h1 h2).1 (by omega)
    · rw [upd_n _ _ (by omega)]; exact (hz k h1 h2).2 (by omega)
set_option maxHeartbeats 4000000 in
set_option maxRecDepth 100000 in
theorem k_dealB {l : Launch} {p : Program} {e : Env} {s : State} {m : MethodId} {args : Array Value} {below : List Frame} {meth : Method} {c : Code} {Q : State → Prop} {D : va_G} {cI cJ cZ cD : ClassId} {ad : Nat → Nat} {A : Nat → Prop} {H0 : Heap} {w0 : Nat → va_E} (hC : CallFix p m c cX0_dealBySeed 9 s args wsL_law RX0) (hA : ∀ q, H0.size ≤ q → A q) (i : Nat) (hi : i < 17) (n t : Nat) (hn : n ≤ 16) (ht : t ≤ n) (seed : Int64) 
    (gv : Nat → Int32) (cp hd ou : Int32) (kx : ∀ (cm rt : Nat → Int32) (w : Nat → va_E) (ls : Array Slot) (H : Heap) (locs : List Loc), (∀ x, x < t → cm x = nI (4 ^ coF seed i x % 2147483579)) → (∀ k, 1 ≤ k → k ≤ n → rt k = nI (rgt (coF seed i) t k)) → w = setD ad cI w0 i cm rt gv cp hd ou → WW D vwCl (tyL cI cJ cZ cD) A H0 ad 89 w s H locs → lv_has ls 9 [(0, .ref (ad (2 + 4 * i))), (1, .int (nI i)), (2, .long seed), (4, .int (nI n)), (5, .int (nI t))] → W p l e ({ frames := 2, cells := 0, slots := 0, locals := 64 }) s m args below meth c H locs 0 0 Q (F0 m 113 ls [])) :
    ∀ (j : Nat) (cm rt : Nat → Int32) (w : Nat → va_E) (ls : Array Slot) (H : Heap) (locs : List Loc), j ≤ t → (∀ x, j ≤ x → x < t → cm x = nI (4 ^ coF seed i x % 2147483579)) → (∀ k, 1 ≤ k → k ≤ n → rt k = nI (pol (coF seed i) k j (t - j) % 1073741789)) → w = setD ad cI w0 i cm rt gv cp hd ou → WW D vwCl (tyL cI cJ cZ cD) A H0 ad 89 w s H locs → lv_has ls 9 [(0, .ref (ad (2 + 4 * i))), (1, .int (nI i)), (2, .long seed), (4, .int (nI n)), (5, .int (nI t)), (6, .int (nI j - 1))] → W p l e ({ frames := 2, cells := 0, slots := 0, locals := 64 }) s m args below meth c H locs 0 0 Q (F0 m 30 ls []) := by
  obtain ⟨hx, hb, hml, hown, hts⟩ := id hC
  intro j
  induction j with
  | zero =>
    intro cm rt w ls H locs hj hcm hz ew hw hl
    refine lv_iload hx hb dX0_dealBySeed_30 (lv_at hl 5 rfl) ?_
    refine lv_if_lt (tgt := 113) hx hb dX0_dealBySeed_32 (by decide) (fun hc => ?_) (fun hc => absurd (show nI 0 - 1 < 0 by decide) hc)
    exact kx cm rt w ls H locs (fun x hx9 => hcm x (Nat.zero_le _) hx9) (fun k h1 h2 => by rw [hz k h1 h2]; rfl) ew hw (lv_sub hl [0, 1, 2, 3, 4] rfl)
  | succ j ih =>
    intro cm rt w ls H locs hj hcm hz ew hw hl
    have hl : lv_has ls 9 [(0, .ref (ad (2 + 4 * i))), (1, .int (nI i)), (2, .long seed), (4, .int (nI n)), (5, .int (nI t)), (6, .int (nI j))] := by rw [nI_pred] at hl; exact hl
    have hD : w (2 + 4 * i) = .inr (0, [.ref (ad (3 + 4 * i)), .ref (ad (4 + 4 * i)), .ref (ad (5 + 4 * i)), .int cp, .int hd, .int ou]) := by rw [ew]; exact setD_D
    have hCm : w (3 + 4 * i) = .inl (cI, 16, .inl cm) := by rw [ew]; exact setD_cm
    have hRt : w (4 + 4 * i) = .inl (cI, 17, .inl rt) := by rw [ew]; exact setD_rt
    have hGv : w (5 + 4 * i) = .inl (cI, 17, .inl gv) := by rw [ew]; exact setD_gv
    have hco := coF_lt seed i j
    refine lv_iload hx hb dX0_dealBySeed_30 (lv_at hl 5 rfl) ?_
    refine lv_if_lt (tgt := 113) hx hb dX0_dealBySeed_32 (by decide) (fun hc => absurd hc (nI_pos (by omega))) (fun hc => ?_)
    refine lv_lload_n hx hb dX0_dealBySeed_35 rfl (lv_at hl 2 rfl) ?_
    refine lv_iload_n hx hb dX0_dealBySeed_36 rfl (lv_at hl 1 rfl) ?_
    refine lv_i2l hx hb dX0_dealBySeed_37 (nI_l (by omega)) ?_
    refine x_callS (As := [.long seed, .long (lN i)]) (rest := []) hC sf_X0_32 (k_hash l seed (lN i)) ⟨rfl, rfl, Nat.le_of_ble_eq_true rfl, Nat.le_of_ble_eq_true rfl⟩ hl.1 (Nat.le_of_ble_eq_true rfl) dX0_dealBySeed_38 ⟨Nat.zero_le _, Nat.zero_le _⟩ rfl ?_
    refine lv_iload hx hb dX0_dealBySeed_41 (lv_at hl 5 rfl) ?_
    refine lv_i2l hx hb dX0_dealBySeed_43 (nI_l (by omega)) ?_
    refine x_callS (As := [.long (stirF (stirF (lN 0) seed) (lN i)), .long (lN j)]) (rest := []) hC sf_X0_38 (k_stir l (stirF (stirF (lN 0) seed) (lN i)) (lN j)) ⟨rfl, rfl, Nat.le_of_ble_eq_true rfl, Nat.le_of_ble_eq_true rfl⟩ hl.1 (Nat.le_of_ble_eq_true rfl) dX0_dealBySeed_44 ⟨Nat.zero_le _, Nat.zero_le _⟩ rfl ?_
    refine x_callS (As := [.long (stirF (stirF (stirF (lN 0) seed) (lN i)) (lN j))]) (rest := []) hC sf_X0_41 (k_toExponent l (stirF (stirF (stirF (lN 0) seed) (lN i)) (lN j))) ⟨rfl, rfl, Nat.le_of_ble_eq_true rfl, Nat.le_of_ble_eq_true rfl⟩ hl.1 (Nat.le_of_ble_eq_true rfl) dX0_dealBySeed_47 ⟨Nat.zero_le _, Nat.zero_le _⟩ rfl ?_
    refine lv_istore (lv' := [(7, .int (nI (coF seed i j))), (0, .ref (ad (2 + 4 * i))), (1, .int (nI i)), (2, .long seed), (4, .int (nI n)), (5, .int (nI t)), (6, .int (nI j))]) hx hb dX0_dealBySeed_50 hl (by decide) rfl (fun ls hl => ?_)
    refine lv_aload_n hx hb dX0_dealBySeed_52 rfl (lv_at hl 1 rfl) ?_
    refine gf_X0_9 hx hb hts hown hw (by omega) hD rfl dX0_dealBySeed_53 ?_
    refine lv_iload hx hb dX0_dealBySeed_56 (lv_at hl 6 rfl) ?_
    refine lv_iconst (v := nI 4) hx hb dX0_dealBySeed_58 (by decide) ?_
    refine lv_iload hx hb dX0_dealBySeed_59 (lv_at hl 0 rfl) ?_
    refine x_callS (As := [.int (nI 4), .int (nI (coF seed i j))]) (rest := [.int (nI j), .ref (ad (3 + 4 * i))]) hC sf_X0_45 (k_power l 4 (coF seed i j) (by decide) (by omega)) ⟨rfl, rfl, Nat.le_of_ble_eq_true rfl, Nat.le_of_ble_eq_true rfl⟩ hl.1 (Nat.le_of_ble_eq_true rfl) dX0_dealBySeed_61 ⟨Nat.zero_le _, Nat.zero_le _⟩ rfl ?_
    refine x_iast hx hb hw (by omega) 0 hCm rfl (j := j) (by omega) (by decide) dX0_dealBySeed_64 (fun w_1 H locs ew_2 hw => ?_)
    have hc_3 : w_1 (2 + 4 * i) = .inr (0, [.ref (ad (3 + 4 * i)), .ref (ad (4 + 4 * i)), .ref (ad (5 + 4 * i)), .int cp, .int hd, .int ou]) := by rw [ew_2]; exact (va_up_ne _ _ (by omega)).trans hD
    have hc_4 : w_1 (3 + 4 * i) = .inl (cI, 16, .inl (upd cm j (nI (4 ^ coF seed i j % 2147483579)))) := by rw [ew_2]; exact va_up_self _ _ _
    have hc_5 : w_1 (4 + 4 * i) = .inl (cI, 17, .inl rt) := by rw [ew_2]; exact (va_up_ne _ _ (by omega)).trans hRt
    have hc_6 : w_1 (5 + 4 * i) = .inl (cI, 17, .inl gv) := by rw [ew_2]; exact (va_up_ne _ _ (by omega)).trans hGv
    refine lv_iconst (v := nI 1) hx hb dX0_dealBySeed_65 (by decide) ?_
    refine lv_istore (lv' := [(8, .int (nI 1)), (7, .int (nI (coF seed i j))), (0, .ref (ad (2 + 4 * i))), (1, .int (nI i)), (2, .long seed), (4, .int (nI n)), (5, .int (nI t)), (6, .int (nI j))]) hx hb dX0_dealBySeed_66 hl (by decide) rfl (fun ls hl => ?_)
    refine k_dealC (w0 := w0) hC hA i hi n t hn ht seed _ gv cp hd ou j (coF seed i j) hco (fun k => pol (coF seed i) k (j + 1) (t - (j + 1)) % 1073741789) (fun k _ _ => ⟨trivial, Nat.mod_lt _ (by decide)⟩) (fun rt2 w ls H locs hz2 ew hw hl => ?_) n 0 rt _ ls H locs (by omega) (fun k h1 h2 => ⟨fun h3 => by omega, fun _ => hz k h1 h2⟩) (by rw [ew_2, ew, setD_upcm]) hw (lv_sub hl [2, 3, 4, 5, 6, 7, 1, 0] rfl)
    refine lv_iinc (v := nI j - 1) (lv' := [(6, .int (nI j - 1)), (0, .ref (ad (2 + 4 * i))), (1, .int (nI i)), (2, .long seed), (4, .int (nI n)), (5, .int (nI t))]) hx hb dX0_dealBySeed_107 hl (k := 5) rfl (by rw [Int32.sub_eq_add_neg]; rfl) (by decide) rfl (fun ls hl => ?_)
    refine lv_goto (tgt := 30) hx hb dX0_dealBySeed_110 (by decide) ?_
    refine ih _ rt2 w ls H locs (by omega) (fun x h1 h2 => ?_) (fun k h1 h2 => ?_) ew hw (lv_sub hl [1, 2, 3, 4, 5, 0] rfl)
    · by_cases hxj : x = j
      · rw [hxj, upd_s]
      · rw [upd_n _ _ hxj]; exact hcm x (by omega) h2
    · rw [hz2 k h1 h2, pol_step, show t - (j + 1) + 1 = t - j by omega]
set_option maxHeartbeats 4000000 in
set_option maxRecDepth 100000 in
theorem k_dealD {l : Launch} {p : Program} {e : Env} {s : State} {m : MethodId} {args : Array Value} {below : List Frame} {meth : Method} {c : Code} {Q : State → Prop} {D : va_G} {cI cJ cZ cD : ClassId} {ad : Nat → Nat} {A : Nat → Prop} {H0 : Heap} {w0 : Nat → va_E} (hC : CallFix p m c cX0_dealBySeed 9 s args wsL_law RX0) (hA : ∀ q, H0.size ≤ q → A q) (i : Nat) (hi : i < 17) (n t : Nat) (hn : n ≤ 16) (ht : t ≤ n) (seed : Int64) 
    (cm rt : Nat → Int32) (cp hd ou : Int32) (kx : ∀ (gv : Nat → Int32) (w : Nat → va_E) (ls : Array Slot) (H : Heap) (locs : List Loc), (∀ k, 1 ≤ k → k ≤ n → gv k = rt k) → w = setD ad cI w0 i cm rt gv cp hd ou → WW D vwCl (tyL cI cJ cZ cD) A H0 ad 89 w s H locs → lv_has ls 9 [(0, .ref (ad (2 + 4 * i)))] → W p l e ({ frames := 2, cells := 0, slots := 0, locals := 64 }) s m args below meth c H locs 0 0 Q (F0 m 143 ls [])) :
    ∀ (j : Nat) (q : Nat) (gv : Nat → Int32) (w : Nat → va_E) (ls : Array Slot) (H : Heap) (locs : List Loc), q + j = n → (∀ k, 1 ≤ k → k ≤ q → gv k = rt k) → w = setD ad cI w0 i cm rt gv cp hd ou → WW D vwCl (tyL cI cJ cZ cD) A H0 ad 89 w s H locs → lv_has ls 9 [(0, .ref (ad (2 + 4 * i))), (1, .int (nI i)), (2, .long seed), (4, .int (nI n)), (5, .int (nI t)), (6, .int (nI (q + 1)))] → W p l e ({ frames := 2, cells := 0, slots := 0, locals := 64 }) s m args below meth c H locs 0 0 Q (F0 m 116 ls []) := by
  obtain ⟨hx, hb, hml, hown, hts⟩ := id hC
  intro j
  induction j with
  | zero =>
    intro q gv w ls H locs hq hz ew hw hl
    obtain rfl : q = n := by omega
    refine lv_iload hx hb dX0_dealBySeed_116 (lv_at hl 5 rfl) ?_
    refine lv_iload hx hb dX0_dealBySeed_118 (lv_at hl 3 rfl) ?_
    refine lv_icmp_gt (tgt := 143) hx hb dX0_dealBySeed_120 (by decide) (fun hc => ?_) (fun hc => absurd (nI_lt (by omega) (by omega)) hc)
    exact kx gv w ls H locs hz ew hw (lv_sub hl [0] rfl)
  | succ j ih =>
    intro q gv w ls H locs hq hz ew hw hl
    have hD : w (2 + 4 * i) = .inr (0, [.ref (ad (3 + 4 * i)), .ref (ad (4 + 4 * i)), .ref (ad (5 + 4 * i)), .int cp, .int hd, .int ou]) := by rw [ew]; exact setD_D
    have hCm : w (3 + 4 * i) = .inl (cI, 16, .inl cm) := by rw [ew]; exact setD_cm
    have hRt : w (4 + 4 * i) = .inl (cI, 17, .inl rt) := by rw [ew]; exact setD_rt
    have hGv : w (5 + 4 * i) = .inl (cI, 17, .inl gv) := by rw [ew]; exact setD_gv
    refine lv_iload hx hb dX0_dealBySeed_116 (lv_at hl 5 rfl) ?_
    refine lv_iload hx hb dX0_dealBySeed_118 (lv_at hl 3 rfl) ?_
    refine lv_icmp_gt (tgt := 143) hx hb dX0_dealBySeed_120 (by decide) (fun hc => absurd hc (nI_nlt (by omega) (by omega))) (fun hc => ?_)
    refine lv_aload_n hx hb dX0_dealBySeed_123 rfl (lv_at hl 0 rfl) ?_
    refine gf_X0_18 hx hb hts hown hw (by omega) hD rfl dX0_dealBySeed_124 ?_
    refine lv_iload hx hb dX0_dealBySeed_127 (lv_at hl 5 rfl) ?_
    refine lv_aload_n hx hb dX0_dealBySeed_129 rfl (lv_at hl 0 rfl) ?_
    refine gf_X0_15 hx hb hts hown hw (by omega) hD rfl dX0_dealBySeed_130 ?_
    refine lv_iload hx hb dX0_dealBySeed_133 (lv_at hl 5 rfl) ?_
    refine x_iald hx hb hw (by omega) 0 hRt rfl (j := q + 1) (by omega) (by decide) rfl dX0_dealBySeed_135 ?_
    refine x_iast hx hb hw (by omega) 0 hGv rfl (j := q + 1) (by omega) (by decide) dX0_dealBySeed_136 (fun w_1 H locs ew_2 hw => ?_)
    have hc_3 : w_1 (2 + 4 * i) = .inr (0, [.ref (ad (3 + 4 * i)), .ref (ad (4 + 4 * i)), .ref (ad (5 + 4 * i)), .int cp, .int hd, .int ou]) := by rw [ew_2]; exact (va_up_ne _ _ (by omega)).trans hD
    have hc_4 : w_1 (3 + 4 * i) = .inl (cI, 16, .inl cm) := by rw [ew_2]; exact (va_up_ne _ _ (by omega)).trans hCm
    have hc_5 : w_1 (4 + 4 * i) = .inl (cI, 17, .inl rt) := by rw [ew_2]; exact (va_up_ne _ _ (by omega)).trans hRt
    have hc_6 : w_1 (5 + 4 * i) = .inl (cI, 17, .inl (upd gv (q + 1) (rt (q + 1)))) := by rw [ew_2]; exact va_up_self _ _ _
    refine lv_iinc (v := nI (q + 1 + 1)) (lv' := [(6, .int (nI (q + 1 + 1))), (0, .ref (ad (2 + 4 * i))), (1, .int (nI i)), (2, .long seed), (4, .int (nI n)), (5, .int (nI t))]) hx hb dX0_dealBySeed_137 hl (k := 5) rfl (nI_1 (q + 1)) (by decide) rfl (fun ls hl => ?_)
    refine lv_goto (tgt := 116) hx hb dX0_dealBySeed_140 (by decide) ?_
    exact ih (q + 1) _ _ ls H locs (by omega) (upd_all (v := rt) rfl hz) (by rw [ew_2, ew, setD_upgv]) hw (lv_sub hl [1, 2, 3, 4, 5, 0] rfl)
set_option maxHeartbeats 4000000 in
set_option maxRecDepth 100000 in
theorem k_dealBySeed (l : Launch) {D : va_G} {cI cJ cZ cD : ClassId} {ad : Nat → Nat} {w : Nat → va_E} {sz : Nat} (i : Nat) (hi : i < 17) (n t : Nat) (hn : n ≤ 16) (ht : t ≤ n) (seed : Int64) (cm rt gv : Nat → Int32) (cp hd ou : Int32) (hD : w (2 + 4 * i) = .inr (0, [.ref (ad (3 + 4 * i)), .ref (ad (4 + 4 * i)), .ref (ad (5 + 4 * i)), .int cp, .int hd, .int ou])) (hCm : w (3 + 4 * i) = .inl (cI, 16, .inl cm)) (hRt : w (4 + 4 * i) = .inl (cI, 17, .inl rt)) (hGv : w (5 + 4 * i) = .inl (cI, 17, .inl gv)) : MW l yX0_dealBySeed (.code yX0_dealBySeed cX0_dealBySeed 9 none) ({ frames := 2, cells := 0, slots := 0, locals := 64 }) [.ref (ad (2 + 4 * i)), .int (nI i), .long seed, .int (nI n), .int (nI t)] D (tyL cI cJ cZ cD) ad 89 w sz none (fun u => ∃ cm2 rt2 gv2 : Nat → Int32, (∀ x, x < t → cm2 x = nI (4 ^ coF seed i x % 2147483579)) ∧ (∀ k, 1 ≤ k → k ≤ n → rt2 k = nI (rgt (coF seed i) t k)) ∧ (∀ k, 1 ≤ k → k ≤ n → gv2 k = nI (rgt (coF seed i) t k)) ∧ u = setD ad cI w i cm2 rt2 gv2 cp (nI 1) ou) := by
  refine MW.of (by decide) (Nat.le_of_ble_eq_true rfl) ?_
  intro p e s m below meth c ls hC hr hlocks hl hw
  obtain ⟨hx, hb, hml, hown, hts⟩ := id hC
  have hA : ∀ q, s.heap.size ≤ q → xA ad 89 s.heap.size q := fun q h => Or.inr h
  have hl : lv_has ls 9 [(0, .ref (ad (2 + 4 * i))), (1, .int (nI i)), (2, .long seed), (4, .int (nI n)), (5, .int (nI t))] := hl
  refine lv_iconst (v := nI 1) hx hb dX0_dealBySeed_0 (by decide) ?_
  refine lv_istore (lv' := [(6, .int (nI 1)), (0, .ref (ad (2 + 4 * i))), (1, .int (nI i)), (2, .long seed), (4, .int (nI n)), (5, .int (nI t))]) hx hb dX0_dealBySeed_1 hl (by decide) rfl (fun ls hl => ?_)
  refine k_dealA (w0 := w) hC hA i hi n t hn ht seed cm gv cp hd ou (fun rt1 w1 ls H locs hz1 ew hw hl => ?_) n 0 rt w ls s.heap [] (by omega) (fun k h1 h2 => by omega) (setD_id hD hCm hRt hGv).symm hw (lv_sub hl [1, 2, 3, 4, 5, 0] rfl)
  refine lv_iload hx hb dX0_dealBySeed_24 (lv_at hl 4 rfl) ?_
  refine lv_iconst (v := nI 1) hx hb dX0_dealBySeed_26 (by decide) ?_
  refine lv_isub hx hb dX0_dealBySeed_27 ?_
  rw [show nI 1 = 1 from rfl]
  refine lv_istore (lv' := [(6, .int (nI t - 1)), (0, .ref (ad (2 + 4 * i))), (1, .int (nI i)), (2, .long seed), (4, .int (nI n)), (5, .int (nI t))]) hx hb dX0_dealBySeed_28 hl (by decide) rfl (fun ls hl => ?_)
  refine k_dealB (w0 := w) hC hA i hi n t hn ht seed gv cp hd ou (fun cm2 rt2 w2 ls H locs hcm2 hrt2 ew hw hl => ?_) t cm rt1 w1 ls H locs (Nat.le_refl _) (fun x h1 h2 => by omega) (fun k h1 h2 => by rw [hz1 k h1 h2, Nat.sub_self]; rfl) ew hw (lv_sub hl [1, 2, 3, 4, 5, 0] rfl)
  refine lv_iconst (v := nI 1) hx hb dX0_dealBySeed_113 (by decide) ?_
  refine lv_istore (lv' := [(6, .int (nI 1)), (0, .ref (ad (2 + 4 * i))), (1, .int (nI i)), (2, .long seed), (4, .int (nI n)), (5, .int (nI t))]) hx hb dX0_dealBySeed_114 hl (by decide) rfl (fun ls hl => ?_)
  refine k_dealD (w0 := w) hC hA i hi n t hn ht seed cm2 rt2 cp hd ou (fun gv2 w3 ls H locs hgv2 ew hw hl => ?_) n 0 gv w2 ls H locs (by omega) (fun k h1 h2 => by omega) ew hw (lv_sub hl [1, 2, 3, 4, 5, 0] rfl)
  have hD : w3 (2 + 4 * i) = .inr (0, [.ref (ad (3 + 4 * i)), .ref (ad (4 + 4 * i)), .ref (ad (5 + 4 * i)), .int cp, .int hd, .int ou]) := by rw [ew]; exact setD_D
  refine lv_aload_n hx hb dX0_dealBySeed_143 rfl (lv_at hl 0 rfl) ?_
  refine lv_iconst (v := nI 1) hx hb dX0_dealBySeed_144 (by decide) ?_
  refine pf_X0_25 (v := .int (nI 1)) hx hb hts hown hw (by omega) hD rfl (by decide) (Nat.le_of_ble_eq_true rfl) dX0_dealBySeed_145 (fun w_1 H locs ew_2 hw => ?_)
  have hc_3 : w_1 (2 + 4 * i) = .inr (0, [.ref (ad (3 + 4 * i)), .ref (ad (4 + 4 * i)), .ref (ad (5 + 4 * i)), .int cp, .int (nI 1), .int ou]) := by rw [ew_2]; exact va_up_self _ _ _
  exact x_wretV hx hb hr hlocks hw ⟨cm2, rt2, gv2, hcm2, hrt2, fun k h1 h2 => (hgv2 k h1 h2).trans (hrt2 k h1 h2), by rw [ew_2, ew]; exact setD_upD _ _ _⟩ dX0_dealBySeed_148
end
section
/-! the rounds' methods -/
def msgF (v : Int64) (e : Nat) : Int64 := stirF (stirF (lN 0) v) (lN (e + 1))
def basF (M : Int64) : Nat := (md M 2147483578 + 1) * (md M 2147483578 + 1) % 2147483579
theorem basF_lt (M : Int64) : basF M < 2147483579 := Nat.mod_lt _ (by decide)
def iv (d : Nat) : Nat := ([0, 1, 536870895, 357913930, 805306342, 214748358, 178956965, 920350105, 402653171, 477218573, 107374179, 97612890, 626349377, 330382089, 997045947, 71582786] : List Nat).getD d 0
theorem iv_lt : ∀ d, d < 16 → iv d < 1073741789 := by decide
theorem iv_pos0 : ∀ d, d < 16 → 1 ≤ d → 1 ≤ iv d := by decide
theorem iv_pos (d : Nat) (h1 : 1 ≤ d) (h2 : d < 16) : 1 ≤ iv d := iv_pos0 d h2 h1
theorem iv_step : ∀ d, d < 16 → 2 ≤ d → (1073741789 - 1073741789 / d) * iv (1073741789 % d) % 1073741789 = iv d := by decide +kernel
def ivc (k m : Nat) : Nat := if k < m then iv (m - k) else 1073741789 - iv (k - m)
theorem ivc_lt {k m : Nat} (h : k ≠ m) (hk : k ≤ 16) (hm : m ≤ 16) (h1 : 1 ≤ k) (h2 : 1 ≤ m) : ivc k m < 1073741789 := by
  unfold ivc
  by_cases hc : k < m
  · rw [if_pos hc]; exact iv_lt _ (by omega)
  · rw [if_neg hc]
    have := iv_pos (k - m) (by omega) (by omega)
    omega
def wgt (b k : Nat) : Nat → Nat
  | 0 => 1
  | m + 1 => if m + 1 ≠ k ∧ tb b (m + 1) = 1 then wgt b k m * ((m + 1) * ivc k (m + 1) % 1073741789) % 1073741789 else wgt b k m
theorem wgt_lt (b k : Nat) : ∀ m, wgt b k m < 1073741789 := by
  intro m
  induction m with
  | zero => exact (by decide : 1 < 1073741789)
  | succ m ih =>
    show (if _ then _ else _) < _
    by_cases h : m + 1 ≠ k ∧ tb b (m + 1) = 1
    · rw [if_pos h]; exact Nat.mod_lt _ (by decide)
    · rw [if_neg h]; exact ih
def cmb (b : Nat) (pt : Nat → Nat) : Nat → Nat
  | 0 => 1
  | k + 1 => if tb b (k + 1) = 1 then cmb b pt k * (pt (k + 1) ^ wgt b (k + 1) 16 % 2147483579) % 2147483579 else cmb b pt k
theorem cmb_lt (b : Nat) (pt : Nat → Nat) : ∀ k, cmb b pt k < 2147483579 := by
  intro k
  induction k with
  | zero => exact (by decide : 1 < 2147483579)
  | succ k ih =>
    show (if _ then _ else _) < _
    by_cases h : tb b (k + 1) = 1
    · rw [if_pos h]; exact Nat.mod_lt _ (by decide)
    · rw [if_neg h]; exact ih
/-- the least t of the bits 1 .. k, and how many they are -/
def lst (b t : Nat) : Nat → Nat × Nat
  | 0 => (0, 0)
  | k + 1 => if (lst b t k).2 < t ∧ tb b (k + 1) = 1 then ((lst b t k).1 ||| 2 ^ (k + 1), (lst b t k).2 + 1) else lst b t k
theorem lst_lt (b t : Nat) : ∀ k, k ≤ 16 → (lst b t k).1 < 2 ^ 17 ∧ (lst b t k).2 ≤ k ∧ (lst b t k).2 ≤ t := by
  intro k
  induction k with
  | zero => intro _; exact ⟨(by decide : (0 : Nat) < 2 ^ 17), Nat.le_refl _, Nat.zero_le _⟩
  | succ k ih =>
    intro hk
    obtain ⟨h1, h2, h3⟩ := ih (by omega)
    show (if _ then _ else _ : Nat × Nat).1 < _ ∧ (if _ then _ else _ : Nat × Nat).2 ≤ _ ∧ (if _ then _ else _ : Nat × Nat).2 ≤ _
    by_cases h : (lst b t k).2 < t ∧ tb b (k + 1) = 1
    · rw [if_pos h]; exact ⟨or_lt h1 (by omega), by simp only; omega, by simp only; omega⟩
    · rw [if_neg h]; exact ⟨h1, by omega, h3⟩
theorem lst_stay {b t : Nat} : ∀ {k : Nat}, (lst b t k).2 = t → ∀ j, lst b t (k + j) = lst b t k := by
  intro k h j
  induction j with
  | zero => rfl
  | succ j ih =>
    have e : lst b t (k + (j + 1)) = if (lst b t (k + j)).2 < t ∧ tb b (k + j + 1) = 1 then ((lst b t (k + j)).1 ||| 2 ^ (k + j + 1), (lst b t (k + j)).2 + 1) else lst b t (k + j) := rfl
    rw [e, if_neg (by rw [ih]; omega)]
    exact ih
theorem neg_sub_nI {a b : Nat} (h : a ≤ b) : -(nI a - nI b) = nI (b - a) := by
  rw [← pk_sub h, Int32.neg_sub]
theorem sub_le0 {a b : Nat} (h : a ≤ b) (hb : b < 2 ^ 30) : nI a - nI b ≤ 0 := by
  rw [Int32.le_iff_toInt_le, pk_sub_toInt (by omega) hb, Int32.toInt_zero]
  omega

set_option maxHeartbeats 4000000 in
set_option maxRecDepth 100000 in
theorem k_rforget (l : Launch) {D : va_G} {cI cJ cZ cD : ClassId} {ad : Nat → Nat} {w : Nat → va_E} {sz : Nat} (en kp bas : Int32) (msg : Int64) (hR : w 72 = .inr (1, [.ref (ad 73), .ref (ad 74), .ref (ad 75), .int en, .int kp, .long msg, .int bas])) : MW l yX2_forget (.code yX2_forget cX2_forget 1 none) ({ frames := 0, cells := 0, slots := 0, locals := 0 }) [.ref (ad 72)] D (tyL cI cJ cZ cD) ad 89 w sz none (fun u => u = va_up w 72 (.inr (1, [.ref (ad 73), .ref (ad 74), .ref (ad 75), .int (nI 0), .int (nI 0), .long msg, .int bas]))) := by
  refine MW.of (by decide) (Nat.le_of_ble_eq_true rfl) ?_
  intro p e s m below meth c ls hC hr hlocks hl hw
  obtain ⟨hx, hb, hml, hown, hts⟩ := id hC
  have hA : ∀ q, s.heap.size ≤ q → xA ad 89 s.heap.size q := fun q h => Or.inr h
  have hl : lv_has ls 1 [(0, .ref (ad 72))] := hl
  refine lv_aload_n hx hb dX2_forget_0 rfl (lv_at hl 0 rfl) ?_
  refine lv_iconst (v := nI 0) hx hb dX2_forget_1 (by decide) ?_
  refine pf_X2_29 (v := .int (nI 0)) hx hb hts hown hw (by decide) hR rfl rfl (Nat.le_of_ble_eq_true rfl) dX2_forget_2 (fun w_1 H locs ew_2 hw => ?_)
  have hc_3 : w_1 72 = .inr (1, [.ref (ad 73), .ref (ad 74), .ref (ad 75), .int (nI 0), .int kp, .long msg, .int bas]) := by rw [ew_2]; exact va_up_self _ _ _
  refine lv_aload_n hx hb dX2_forget_5 rfl (lv_at hl 0 rfl) ?_
  refine lv_iconst (v := nI 0) hx hb dX2_forget_6 (by decide) ?_
  refine pf_X2_33 (v := .int (nI 0)) hx hb hts hown hw (by decide) hc_3 rfl rfl (Nat.le_of_ble_eq_true rfl) dX2_forget_7 (fun w_4 H locs ew_5 hw => ?_)
  have hc_6 : w_4 72 = .inr (1, [.ref (ad 73), .ref (ad 74), .ref (ad 75), .int (nI 0), .int (nI 0), .long msg, .int bas]) := by rw [ew_5]; exact va_up_self _ _ _
  exact x_wretV hx hb hr hlocks hw (by rw [ew_5, ew_2, bx_uu] <;> rfl) dX2_forget_10
set_option maxHeartbeats 4000000 in
set_option maxRecDepth 100000 in
theorem k_startNext (l : Launch) {D : va_G} {cI cJ cZ cD : ClassId} {ad : Nat → Nat} {w : Nat → va_E} {sz : Nat} (en : Nat) (kp bas : Int32) (msg : Int64) (vf : Nat → Int64) (v : Int64) (hen : en ≤ 300) (hv : vf en = v) (hR : w 72 = .inr (1, [.ref (ad 73), .ref (ad 74), .ref (ad 75), .int (nI en), .int kp, .long msg, .int bas])) (hVs : w 73 = .inl (cJ, 301, .inr (.inl vf))) : MW l yX2_startNext (.code yX2_startNext cX2_startNext 2 none) ({ frames := 2, cells := 0, slots := 0, locals := 64 }) [.ref (ad 72)] D (tyL cI cJ cZ cD) ad 89 w sz none (fun u => u = va_up w 72 (.inr (1, [.ref (ad 73), .ref (ad 74), .ref (ad 75), .int (nI en), .int (nI 0), .long (msgF v en), .int (nI (basF (msgF v en)))]))) := by
  refine MW.of (by decide) (Nat.le_of_ble_eq_true rfl) ?_
  intro p e s m below meth c ls hC hr hlocks hl hw
  obtain ⟨hx, hb, hml, hown, hts⟩ := id hC
  have hA : ∀ q, s.heap.size ≤ q → xA ad 89 s.heap.size q := fun q h => Or.inr h
  have hl : lv_has ls 2 [(0, .ref (ad 72))] := hl
  refine lv_aload_n hx hb dX2_startNext_0 rfl (lv_at hl 0 rfl) ?_
  refine lv_iconst (v := nI 0) hx hb dX2_startNext_1 (by decide) ?_
  refine pf_X2_33 (v := .int (nI 0)) hx hb hts hown hw (by decide) hR rfl rfl (Nat.le_of_ble_eq_true rfl) dX2_startNext_2 (fun w_1 H locs ew_2 hw => ?_)
  have hc_3 : w_1 72 = .inr (1, [.ref (ad 73), .ref (ad 74), .ref (ad 75), .int (nI en), .int (nI 0), .long msg, .int bas]) := by rw [ew_2]; exact va_up_self _ _ _
  have hc_4 : w_1 73 = .inl (cJ, 301, .inr (.inl vf)) := by rw [ew_2]; exact (va_up_ne _ _ (by omega)).trans hVs
  refine lv_aload_n hx hb dX2_startNext_5 rfl (lv_at hl 0 rfl) ?_
  refine lv_aload_n hx hb dX2_startNext_6 rfl (lv_at hl 0 rfl) ?_
  refine gf_X2_9 hx hb hts hown hw (by decide) hc_3 rfl dX2_startNext_7 ?_
  refine lv_aload_n hx hb dX2_startNext_10 rfl (lv_at hl 0 rfl) ?_
  refine gf_X2_29 hx hb hts hown hw (by decide) hc_3 rfl dX2_startNext_11 ?_
  refine x_lald hx hb hw (by decide) 1 hc_4 rfl (j := en) (by omega) (by decide) hv dX2_startNext_14 ?_
  refine lv_aload_n hx hb dX2_startNext_15 rfl (lv_at hl 0 rfl) ?_
  refine gf_X2_29 hx hb hts hown hw (by decide) hc_3 rfl dX2_startNext_16 ?_
  refine lv_iconst (v := nI 1) hx hb dX2_startNext_19 (by decide) ?_
  refine t_iadd hx hb dX2_startNext_20 (v := nI (en + 1)) (nI_add _ _) ?_
  refine lv_i2l hx hb dX2_startNext_21 (nI_l (by omega)) ?_
  refine x_callS (As := [.long v, .long (lN (en + 1))]) (rest := [.ref (ad 72)]) hC sf_X2_39 (k_hash l v (lN (en + 1))) ⟨rfl, rfl, Nat.le_of_ble_eq_true rfl, Nat.le_of_ble_eq_true rfl⟩ hl.1 (Nat.le_of_ble_eq_true rfl) dX2_startNext_22 ⟨Nat.zero_le _, Nat.zero_le _⟩ rfl ?_
  have hmd := md_lt (msgF v en) (show 0 < 2147483578 by decide)
  refine pf_X2_43 (v := .long (msgF v en)) hx hb hts hown hw (by decide) hc_3 rfl rfl (Nat.le_of_ble_eq_true rfl) dX2_startNext_25 (fun w_5 H locs ew_6 hw => ?_)
  have hc_7 : w_5 72 = .inr (1, [.ref (ad 73), .ref (ad 74), .ref (ad 75), .int (nI en), .int (nI 0), .long (msgF v en), .int bas]) := by rw [ew_6]; exact va_up_self _ _ _
  have hc_8 : w_5 73 = .inl (cJ, 301, .inr (.inl vf)) := by rw [ew_6]; exact (va_up_ne _ _ (by omega)).trans hc_4
  refine lv_aload_n hx hb dX2_startNext_28 rfl (lv_at hl 0 rfl) ?_
  refine gf_X2_43 hx hb hts hown hw (by decide) hc_7 rfl dX2_startNext_29 ?_
  refine lv_ldc2 hx hb hown (hts _ ct_X2_47) dX2_startNext_32 ?_
  refine x_callS (As := [.long (msgF v en), .long (lN 2147483578)]) (rest := []) hC sf_X2_49 (k_floorMod l (msgF v en) 2147483578 (by decide) (by decide)) ⟨rfl, rfl, Nat.le_of_ble_eq_true rfl, Nat.le_of_ble_eq_true rfl⟩ hl.1 (Nat.le_of_ble_eq_true rfl) dX2_startNext_35 ⟨Nat.zero_le _, Nat.zero_le _⟩ rfl ?_
  refine lv_l2i hx hb dX2_startNext_38 (lN_i _) ?_
  refine lv_iconst (v := nI 1) hx hb dX2_startNext_39 (by decide) ?_
  refine t_iadd hx hb dX2_startNext_40 (v := nI (md (msgF v en) 2147483578 + 1)) (nI_add _ _) ?_
  refine lv_istore_n (lv' := [(1, .int (nI (md (msgF v en) 2147483578 + 1))), (0, .ref (ad 72))]) hx hb dX2_startNext_41 rfl hl (by decide) rfl (fun ls hl => ?_)
  refine lv_aload_n hx hb dX2_startNext_42 rfl (lv_at hl 1 rfl) ?_
  refine lv_iload_n hx hb dX2_startNext_43 rfl (lv_at hl 0 rfl) ?_
  refine lv_iload_n hx hb dX2_startNext_44 rfl (lv_at hl 0 rfl) ?_
  refine x_callS (As := [.int (nI (md (msgF v en) 2147483578 + 1)), .int (nI (md (msgF v en) 2147483578 + 1))]) (rest := [.ref (ad 72)]) hC sf_X2_54 (k_times l (md (msgF v en) 2147483578 + 1) (md (msgF v en) 2147483578 + 1) (by omega) (by omega)) ⟨rfl, rfl, Nat.le_of_ble_eq_true rfl, Nat.le_of_ble_eq_true rfl⟩ hl.1 (Nat.le_of_ble_eq_true rfl) dX2_startNext_45 ⟨Nat.zero_le _, Nat.zero_le _⟩ rfl ?_
  refine pf_X2_58 (v := .int (nI (basF (msgF v en)))) hx hb hts hown hw (by decide) hc_7 rfl rfl (Nat.le_of_ble_eq_true rfl) dX2_startNext_48 (fun w_9 H locs ew_10 hw => ?_)
  have hc_11 : w_9 72 = .inr (1, [.ref (ad 73), .ref (ad 74), .ref (ad 75), .int (nI en), .int (nI 0), .long (msgF v en), .int (nI (basF (msgF v en)))]) := by rw [ew_10]; exact va_up_self _ _ _
  have hc_12 : w_9 73 = .inl (cJ, 301, .inr (.inl vf)) := by rw [ew_10]; exact (va_up_ne _ _ (by omega)).trans hc_8
  exact x_wretV hx hb hr hlocks hw (by rw [ew_10, ew_6, ew_2, bx_uu, bx_uu] <;> rfl) dX2_startNext_51
set_option maxHeartbeats 4000000 in
set_option maxRecDepth 100000 in
theorem k_startFrom (l : Launch) {D : va_G} {cI cJ cZ cD : ClassId} {ad : Nat → Nat} {w : Nat → va_E} {sz : Nat} (en kp bas : Int32) (msg : Int64) (vf : Nat → Int64) (z : Int64) (hR : w 72 = .inr (1, [.ref (ad 73), .ref (ad 74), .ref (ad 75), .int en, .int kp, .long msg, .int bas])) (hVs : w 73 = .inl (cJ, 301, .inr (.inl vf))) : MW l yX2_startFrom (.code yX2_startFrom cX2_startFrom 3 none) ({ frames := 3, cells := 0, slots := 0, locals := 93 }) [.ref (ad 72), .long z] D (tyL cI cJ cZ cD) ad 89 w sz none (fun u => u = va_up (va_up w 73 (.inl (cJ, 301, .inr (.inl (vp_updL vf 0 z))))) 72 (.inr (1, [.ref (ad 73), .ref (ad 74), .ref (ad 75), .int (nI 0), .int (nI 0), .long (msgF z 0), .int (nI (basF (msgF z 0)))]))) := by
  refine MW.of (by decide) (Nat.le_of_ble_eq_true rfl) ?_
  intro p e s m below meth c ls hC hr hlocks hl hw
  obtain ⟨hx, hb, hml, hown, hts⟩ := id hC
  have hA : ∀ q, s.heap.size ≤ q → xA ad 89 s.heap.size q := fun q h => Or.inr h
  have hl : lv_has ls 3 [(0, .ref (ad 72)), (1, .long z)] := hl
  refine lv_aload_n hx hb dX2_startFrom_0 rfl (lv_at hl 0 rfl) ?_
  refine gf_X2_9 hx hb hts hown hw (by decide) hR rfl dX2_startFrom_1 ?_
  refine lv_iconst (v := nI 0) hx hb dX2_startFrom_4 (by decide) ?_
  refine lv_lload_n hx hb dX2_startFrom_5 rfl (lv_at hl 1 rfl) ?_
  refine x_last hx hb hw (by decide) 1 hVs rfl (j := 0) (by omega) (by decide) dX2_startFrom_6 (fun w_1 H locs ew_2 hw => ?_)
  have hc_3 : w_1 72 = .inr (1, [.ref (ad 73), .ref (ad 74), .ref (ad 75), .int en, .int kp, .long msg, .int bas]) := by rw [ew_2]; exact (va_up_ne _ _ (by omega)).trans hR
  have hc_4 : w_1 73 = .inl (cJ, 301, .inr (.inl (vp_updL vf 0 z))) := by rw [ew_2]; exact va_up_self _ _ _
  refine lv_aload_n hx hb dX2_startFrom_7 rfl (lv_at hl 0 rfl) ?_
  refine lv_iconst (v := nI 0) hx hb dX2_startFrom_8 (by decide) ?_
  refine pf_X2_29 (v := .int (nI 0)) hx hb hts hown hw (by decide) hc_3 rfl rfl (Nat.le_of_ble_eq_true rfl) dX2_startFrom_9 (fun w_5 H locs ew_6 hw => ?_)
  have hc_7 : w_5 72 = .inr (1, [.ref (ad 73), .ref (ad 74), .ref (ad 75), .int (nI 0), .int kp, .long msg, .int bas]) := by rw [ew_6]; exact va_up_self _ _ _
  have hc_8 : w_5 73 = .inl (cJ, 301, .inr (.inl (vp_updL vf 0 z))) := by rw [ew_6]; exact (va_up_ne _ _ (by omega)).trans hc_4
  refine lv_aload_n hx hb dX2_startFrom_12 rfl (lv_at hl 0 rfl) ?_
  refine x_callW0 (As := []) (rest := []) hC vf_X2_36 hw hA (by decide) hc_7 rfl rfl (k_startNext l 0 _ _ _ (vp_updL vf 0 z) z (by decide) pk_uLs hc_7 hc_8) ⟨rfl, rfl, Nat.le_of_ble_eq_true rfl, Nat.le_of_ble_eq_true rfl⟩ hl.1 (Nat.le_of_ble_eq_true rfl) dX2_startFrom_13 ⟨Nat.zero_le _, Nat.zero_le _⟩ rfl (fun w_9 H locs hu hw => ?_)
  exact x_wretV hx hb hr hlocks hw (by rw [hu, ew_6, ew_2, bx_uu] <;> rfl) dX2_startFrom_16
set_option maxHeartbeats 4000000 in
set_option maxRecDepth 100000 in
theorem k_endWith (l : Launch) {D : va_G} {cI cJ cZ cD : ClassId} {ad : Nat → Nat} {w : Nat → va_E} {sz : Nat} (en r : Nat) (hen : en < 300) (hr0 : r < 2 ^ 31) (kp bas : Int32) (msg : Int64) (vf : Nat → Int64) (hR : w 72 = .inr (1, [.ref (ad 73), .ref (ad 74), .ref (ad 75), .int (nI en), .int kp, .long msg, .int bas])) (hVs : w 73 = .inl (cJ, 301, .inr (.inl vf))) : MW l yX2_endWith (.code yX2_endWith cX2_endWith 2 none) ({ frames := 3, cells := 0, slots := 0, locals := 93 }) [.ref (ad 72), .int (nI r)] D (tyL cI cJ cZ cD) ad 89 w sz none (fun u => u = va_up (va_up w 73 (.inl (cJ, 301, .inr (.inl (vp_updL vf (en + 1) (lN r)))))) 72 (.inr (1, [.ref (ad 73), .ref (ad 74), .ref (ad 75), .int (nI (en + 1)), .int (nI 0), .long (msgF (lN r) (en + 1)), .int (nI (basF (msgF (lN r) (en + 1))))]))) := by
  refine MW.of (by decide) (Nat.le_of_ble_eq_true rfl) ?_
  intro p e s m below meth c ls hC hr hlocks hl hw
  obtain ⟨hx, hb, hml, hown, hts⟩ := id hC
  have hA : ∀ q, s.heap.size ≤ q → xA ad 89 s.heap.size q := fun q h => Or.inr h
  have hl : lv_has ls 2 [(0, .ref (ad 72)), (1, .int (nI r))] := hl
  refine lv_aload_n hx hb dX2_endWith_0 rfl (lv_at hl 0 rfl) ?_
  refine lv_dup hx hb dX2_endWith_1 rfl ?_
  refine gf_X2_29 hx hb hts hown hw (by decide) hR rfl dX2_endWith_2 ?_
  refine lv_iconst (v := nI 1) hx hb dX2_endWith_5 (by decide) ?_
  refine t_iadd hx hb dX2_endWith_6 (v := nI (en + 1)) (nI_add _ _) ?_
  refine pf_X2_29 (v := .int (nI (en + 1))) hx hb hts hown hw (by decide) hR rfl rfl (Nat.le_of_ble_eq_true rfl) dX2_endWith_7 (fun w_1 H locs ew_2 hw => ?_)
  have hc_3 : w_1 72 = .inr (1, [.ref (ad 73), .ref (ad 74), .ref (ad 75), .int (nI (en + 1)), .int kp, .long msg, .int bas]) := by rw [ew_2]; exact va_up_self _ _ _
  have hc_4 : w_1 73 = .inl (cJ, 301, .inr (.inl vf)) := by rw [ew_2]; exact (va_up_ne _ _ (by omega)).trans hVs
  refine lv_aload_n hx hb dX2_endWith_10 rfl (lv_at hl 0 rfl) ?_
  refine gf_X2_9 hx hb hts hown hw (by decide) hc_3 rfl dX2_endWith_11 ?_
  refine lv_aload_n hx hb dX2_endWith_14 rfl (lv_at hl 0 rfl) ?_
  refine gf_X2_29 hx hb hts hown hw (by decide) hc_3 rfl dX2_endWith_15 ?_
  refine lv_iload_n hx hb dX2_endWith_18 rfl (lv_at hl 1 rfl) ?_
  refine lv_i2l hx hb dX2_endWith_19 (nI_l (by omega)) ?_
  refine x_last hx hb hw (by decide) 1 hc_4 rfl (j := en + 1) (by omega) (by decide) dX2_endWith_20 (fun w_5 H locs ew_6 hw => ?_)
  have hc_7 : w_5 72 = .inr (1, [.ref (ad 73), .ref (ad 74), .ref (ad 75), .int (nI (en + 1)), .int kp, .long msg, .int bas]) := by rw [ew_6]; exact (va_up_ne _ _ (by omega)).trans hc_3
  have hc_8 : w_5 73 = .inl (cJ, 301, .inr (.inl (vp_updL vf (en + 1) (lN r)))) := by rw [ew_6]; exact va_up_self _ _ _
  refine lv_aload_n hx hb dX2_endWith_21 rfl (lv_at hl 0 rfl) ?_
  refine x_callW0 (As := []) (rest := []) hC vf_X2_36 hw hA (by decide) hc_7 rfl rfl (k_startNext l (en + 1) _ _ _ (vp_updL vf (en + 1) (lN r)) (lN r) (by omega) pk_uLs hc_7 hc_8) ⟨rfl, rfl, Nat.le_of_ble_eq_true rfl, Nat.le_of_ble_eq_true rfl⟩ hl.1 (Nat.le_of_ble_eq_true rfl) dX2_endWith_22 ⟨Nat.zero_le _, Nat.zero_le _⟩ rfl (fun w_9 H locs hu hw => ?_)
  exact x_wretV hx hb hr hlocks hw (by rw [hu, ew_6, ew_2, va_up_comm _ (by decide), bx_uu, va_up_comm _ (i := 72) (j := 73) (by decide)] <;> rfl) dX2_endWith_25
set_option maxHeartbeats 4000000 in
set_option maxRecDepth 100000 in
theorem k_keepsPartOf (l : Launch) {D : va_G} {cI cJ cZ cD : ClassId} {ad : Nat → Nat} {w : Nat → va_E} {sz : Nat} (kp : Nat) (hkp : kp < 2 ^ 31) (en bas : Int32) (msg : Int64) (k : Nat) (hk : k < 32) (hR : w 72 = .inr (1, [.ref (ad 73), .ref (ad 74), .ref (ad 75), .int en, .int (nI kp), .long msg, .int bas])) : MW l yX2_keepsPartOf (.code yX2_keepsPartOf cX2_keepsPartOf 2 (some .boolean)) ({ frames := 1, cells := 0, slots := 0, locals := 29 }) [.ref (ad 72), .int (nI k)] D (tyL cI cJ cZ cD) ad 89 w sz (some (.int (nI (tb kp k)))) (fun u => u = w) := by
  refine MW.of (by decide) (Nat.le_of_ble_eq_true rfl) ?_
  intro p e s m below meth c ls hC hr hlocks hl hw
  obtain ⟨hx, hb, hml, hown, hts⟩ := id hC
  have hA : ∀ q, s.heap.size ≤ q → xA ad 89 s.heap.size q := fun q h => Or.inr h
  have hl : lv_has ls 2 [(0, .ref (ad 72)), (1, .int (nI k))] := hl
  have htb := tb_lt kp k
  refine lv_aload_n hx hb dX2_keepsPartOf_0 rfl (lv_at hl 0 rfl) ?_
  refine gf_X2_33 hx hb hts hown hw (by decide) hR rfl dX2_keepsPartOf_1 ?_
  refine lv_iload_n hx hb dX2_keepsPartOf_4 rfl (lv_at hl 1 rfl) ?_
  refine x_callS (As := [.int (nI kp), .int (nI k)]) (rest := []) hC sf_X2_61 (k_hasBit l kp k hkp hk) ⟨rfl, rfl, Nat.le_of_ble_eq_true rfl, Nat.le_of_ble_eq_true rfl⟩ hl.1 (Nat.le_of_ble_eq_true rfl) dX2_keepsPartOf_5 ⟨Nat.zero_le _, Nat.zero_le _⟩ rfl ?_
  have hn : narrow .boolean (.int (nI (tb kp k))) = .int (nI (tb kp k)) := by rcases (show tb kp k = 0 ∨ tb kp k = 1 by omega) with q | q <;> rw [q] <;> rfl
  exact x_wretZ hx hb hr hlocks hn hw rfl dX2_keepsPartOf_8
set_option maxHeartbeats 4000000 in
set_option maxRecDepth 100000 in
theorem k_keep (l : Launch) {D : va_G} {cI cJ cZ cD : ClassId} {ad : Nat → Nat} {w : Nat → va_E} {sz : Nat} (kp : Nat) (en bas : Int32) (msg : Int64) (ptf : Nat → Int32) (k : Nat) (hk : k < 17) (x : Int32) (hR : w 72 = .inr (1, [.ref (ad 73), .ref (ad 74), .ref (ad 75), .int en, .int (nI kp), .long msg, .int bas])) (hPt : w 74 = .inl (cI, 17, .inl ptf)) : MW l yX2_keep (.code yX2_keep cX2_keep 3 none) ({ frames := 0, cells := 0, slots := 0, locals := 0 }) [.ref (ad 72), .int (nI k), .int x] D (tyL cI cJ cZ cD) ad 89 w sz none (fun u => u = va_up (va_up w 74 (.inl (cI, 17, .inl (upd ptf k x)))) 72 (.inr (1, [.ref (ad 73), .ref (ad 74), .ref (ad 75), .int en, .int (nI (kp ||| 2 ^ k)), .long msg, .int bas]))) := by
  refine MW.of (by decide) (Nat.le_of_ble_eq_true rfl) ?_
  intro p e s m below meth c ls hC hr hlocks hl hw
  obtain ⟨hx, hb, hml, hown, hts⟩ := id hC
  have hA : ∀ q, s.heap.size ≤ q → xA ad 89 s.heap.size q := fun q h => Or.inr h
  have hl : lv_has ls 3 [(0, .ref (ad 72)), (1, .int (nI k)), (2, .int x)] := hl
  refine lv_aload_n hx hb dX2_keep_0 rfl (lv_at hl 0 rfl) ?_
  refine gf_X2_15 hx hb hts hown hw (by decide) hR rfl dX2_keep_1 ?_
  refine lv_iload_n hx hb dX2_keep_4 rfl (lv_at hl 1 rfl) ?_
  refine lv_iload_n hx hb dX2_keep_5 rfl (lv_at hl 2 rfl) ?_
  refine x_iast hx hb hw (by decide) 0 hPt rfl (j := k) (by omega) (by decide) dX2_keep_6 (fun w_1 H locs ew_2 hw => ?_)
  have hc_3 : w_1 72 = .inr (1, [.ref (ad 73), .ref (ad 74), .ref (ad 75), .int en, .int (nI kp), .long msg, .int bas]) := by rw [ew_2]; exact (va_up_ne _ _ (by omega)).trans hR
  have hc_4 : w_1 74 = .inl (cI, 17, .inl (upd ptf k x)) := by rw [ew_2]; exact va_up_self _ _ _
  refine lv_aload_n hx hb dX2_keep_7 rfl (lv_at hl 0 rfl) ?_
  refine lv_dup hx hb dX2_keep_8 rfl ?_
  refine gf_X2_33 hx hb hts hown hw (by decide) hc_3 rfl dX2_keep_9 ?_
  refine lv_iconst (v := nI 1) hx hb dX2_keep_12 (by decide) ?_
  refine lv_iload_n hx hb dX2_keep_13 rfl (lv_at hl 1 rfl) ?_
  refine lv_ishl hx hb dX2_keep_14 ?_
  refine lv_ior hx hb dX2_keep_15 ?_
  rw [or_bit (by omega)]
  refine pf_X2_33 (v := .int (nI (kp ||| 2 ^ k))) hx hb hts hown hw (by decide) hc_3 rfl rfl (Nat.le_of_ble_eq_true rfl) dX2_keep_16 (fun w_5 H locs ew_6 hw => ?_)
  have hc_7 : w_5 72 = .inr (1, [.ref (ad 73), .ref (ad 74), .ref (ad 75), .int en, .int (nI (kp ||| 2 ^ k)), .long msg, .int bas]) := by rw [ew_6]; exact va_up_self _ _ _
  have hc_8 : w_5 74 = .inl (cI, 17, .inl (upd ptf k x)) := by rw [ew_6]; exact (va_up_ne _ _ (by omega)).trans hc_4
  exact x_wretV hx hb hr hlocks hw (by rw [ew_6, ew_2] <;> rfl) dX2_keep_19
set_option maxHeartbeats 4000000 in
set_option maxRecDepth 100000 in
theorem k_least_loop {l : Launch} {p : Program} {e : Env} {s : State} {m : MethodId} {args : Array Value} {below : List Frame} {meth : Method} {c : Code} {Q : State → Prop} {D : va_G} {cI cJ cZ cD : ClassId} {ad : Nat → Nat} {A : Nat → Prop} {H0 : Heap} {w : Nat → va_E} (hC : CallFix p m c cX2_leastKept 5 s args wsL_law RX2) (hA : ∀ q, H0.size ≤ q → A q) (kp t : Nat) (hkp : kp < 2 ^ 31) (ht : t ≤ 16) (en bas : Int32) (msg : Int64) (hR : w 72 = .inr (1, [.ref (ad 73), .ref (ad 74), .ref (ad 75), .int en, .int (nI kp), .long msg, .int bas]))
    (kx : ∀ (ls : Array Slot) (H : Heap) (locs : List Loc), WW D vwCl (tyL cI cJ cZ cD) A H0 ad 89 w s H locs → lv_has ls 5 [(2, .int (nI (lst kp t 16).1))] → W p l e ({ frames := 2, cells := 0, slots := 0, locals := 58 }) s m args below meth c H locs 0 0 Q (F0 m 44 ls [])) :
    ∀ (j q : Nat) (ls : Array Slot) (H : Heap) (locs : List Loc), q + j = 16 → WW D vwCl (tyL cI cJ cZ cD) A H0 ad 89 w s H locs → lv_has ls 5 [(0, .ref (ad 72)), (1, .int (nI t)), (2, .int (nI ((lst kp t q).1))), (3, .int (nI ((lst kp t q).2))), (4, .int (nI (q + 1)))] → W p l e ({ frames := 2, cells := 0, slots := 0, locals := 58 }) s m args below meth c H locs 0 0 Q (F0 m 7 ls []) := by
  obtain ⟨hx, hb, hml, hown, hts⟩ := id hC
  intro j
  induction j with
  | zero =>
    intro q ls H locs hq hw hl
    obtain rfl : q = 16 := by omega
    have hl : lv_has ls 5 [(0, .ref (ad 72)), (1, .int (nI t)), (2, .int (nI ((lst kp t 16).1))), (3, .int (nI ((lst kp t 16).2))), (4, .int (nI 17))] := hl
    refine lv_iload hx hb dX2_leastKept_7 (lv_at hl 4 rfl) ?_
    refine lv_bipush (v := nI 16) hx hb dX2_leastKept_9 (by decide) ?_
    refine lv_icmp_gt (tgt := 44) hx hb dX2_leastKept_11 (by decide) (fun hc => ?_) (fun hc => absurd (by decide) hc)
    exact kx ls H locs hw (lv_sub hl [2] rfl)
  | succ j ih =>
    intro q ls H locs hq hw hl
    obtain ⟨hb1, hb2, hb3⟩ := lst_lt kp t q (by omega)
    refine lv_iload hx hb dX2_leastKept_7 (lv_at hl 4 rfl) ?_
    refine lv_bipush (v := nI 16) hx hb dX2_leastKept_9 (by decide) ?_
    refine lv_icmp_gt (tgt := 44) hx hb dX2_leastKept_11 (by decide) (fun hc => absurd hc (nI_nlt (by omega) (by omega))) (fun hc => ?_)
    refine lv_iload_n hx hb dX2_leastKept_14 rfl (lv_at hl 3 rfl) ?_
    refine lv_iload_n hx hb dX2_leastKept_15 rfl (lv_at hl 1 rfl) ?_
    refine lv_icmp_ge (tgt := 44) hx hb dX2_leastKept_16 (by decide) (fun hc2 => ?_) (fun hc2 => ?_)
    · rw [nI_leI (by omega) (by omega)] at hc2
      have hst := lst_stay (b := kp) (t := t) (k := q) (by omega) (16 - q)
      rw [show q + (16 - q) = 16 by omega] at hst
      exact kx ls H locs hw (lv_sub hl [2] (by rw [hst]; rfl))
    · rw [nI_leI (by omega) (by omega)] at hc2
      refine lv_aload_n hx hb dX2_leastKept_19 rfl (lv_at hl 0 rfl) ?_
      refine lv_iload hx hb dX2_leastKept_20 (lv_at hl 4 rfl) ?_
      have htb := tb_lt kp (q + 1)
      refine x_callW1 (As := [.int (nI (q + 1))]) (rest := []) hC vf_X2_65 hw hA (by decide) hR rfl rfl (k_keepsPartOf l kp hkp _ _ _ (q + 1) (by omega) hR) ⟨rfl, rfl, Nat.le_of_ble_eq_true rfl, Nat.le_of_ble_eq_true rfl⟩ hl.1 (Nat.le_of_ble_eq_true rfl) dX2_leastKept_22 ⟨Nat.zero_le _, Nat.zero_le _⟩ rfl (fun w_1 H locs hu hw => ?_)
      rw [hu] at hw
      refine lv_if_eq (tgt := 38) hx hb dX2_leastKept_25 (by decide) (fun hc3 => ?_) (fun hc3 => ?_)
      · rw [nI_z (by omega)] at hc3
        refine lv_iinc (v := nI (q + 1 + 1)) (lv' := [(4, .int (nI (q + 1 + 1))), (0, .ref (ad 72)), (1, .int (nI t)), (2, .int (nI ((lst kp t q).1))), (3, .int (nI ((lst kp t q).2)))]) hx hb dX2_leastKept_38 hl (k := 4) rfl (nI_1 (q + 1)) (by decide) rfl (fun ls hl => ?_)
        refine lv_goto (tgt := 7) hx hb dX2_leastKept_41 (by decide) ?_
        exact ih (q + 1) ls H locs (by omega) hw (lv_sub hl [1, 2, 3, 4, 0] (by rw [show lst kp t (q + 1) = lst kp t q from if_neg (by omega)]; rfl))
      · rw [nI_z (by omega)] at hc3
        refine lv_iload_n hx hb dX2_leastKept_28 rfl (lv_at hl 2 rfl) ?_
        refine lv_iconst (v := nI 1) hx hb dX2_leastKept_29 (by decide) ?_
        refine lv_iload hx hb dX2_leastKept_30 (lv_at hl 4 rfl) ?_
        refine lv_ishl hx hb dX2_leastKept_32 ?_
        refine lv_ior hx hb dX2_leastKept_33 ?_
        rw [or_bit (by omega)]
        refine lv_istore_n (lv' := [(2, .int (nI ((lst kp t q).1 ||| 2 ^ (q + 1)))), (0, .ref (ad 72)), (1, .int (nI t)), (3, .int (nI ((lst kp t q).2))), (4, .int (nI (q + 1)))]) hx hb dX2_leastKept_34 rfl hl (by decide) rfl (fun ls hl => ?_)
        refine lv_iinc (v := nI ((lst kp t q).2 + 1)) (lv' := [(3, .int (nI ((lst kp t q).2 + 1))), (2, .int (nI ((lst kp t q).1 ||| 2 ^ (q + 1)))), (0, .ref (ad 72)), (1, .int (nI t)), (4, .int (nI (q + 1)))]) hx hb dX2_leastKept_35 hl (k := 3) rfl (nI_1 ((lst kp t q).2)) (by decide) rfl (fun ls hl => ?_)
        refine lv_iinc (v := nI (q + 1 + 1)) (lv' := [(4, .int (nI (q + 1 + 1))), (3, .int (nI ((lst kp t q).2 + 1))), (2, .int (nI ((lst kp t q).1 ||| 2 ^ (q + 1)))), (0, .ref (ad 72)), (1, .int (nI t))]) hx hb dX2_leastKept_38 hl (k := 4) rfl (nI_1 (q + 1)) (by decide) rfl (fun ls hl => ?_)
        refine lv_goto (tgt := 7) hx hb dX2_leastKept_41 (by decide) ?_
        exact ih (q + 1) ls H locs (by omega) hw (lv_sub hl [3, 4, 2, 1, 0] (by rw [show lst kp t (q + 1) = _ from if_pos (by omega)]; rfl))
set_option maxHeartbeats 4000000 in
set_option maxRecDepth 100000 in
theorem k_leastKept (l : Launch) {D : va_G} {cI cJ cZ cD : ClassId} {ad : Nat → Nat} {w : Nat → va_E} {sz : Nat} (kp t : Nat) (hkp : kp < 2 ^ 31) (ht : t ≤ 16) (en bas : Int32) (msg : Int64) (hR : w 72 = .inr (1, [.ref (ad 73), .ref (ad 74), .ref (ad 75), .int en, .int (nI kp), .long msg, .int bas])) : MW l yX2_leastKept (.code yX2_leastKept cX2_leastKept 5 (some .int)) ({ frames := 2, cells := 0, slots := 0, locals := 58 }) [.ref (ad 72), .int (nI t)] D (tyL cI cJ cZ cD) ad 89 w sz (some (.int (nI ((lst kp t 16).1)))) (fun u => u = w) := by
  refine MW.of (by decide) (Nat.le_of_ble_eq_true rfl) ?_
  intro p e s m below meth c ls hC hr hlocks hl hw
  obtain ⟨hx, hb, hml, hown, hts⟩ := id hC
  have hA : ∀ q, s.heap.size ≤ q → xA ad 89 s.heap.size q := fun q h => Or.inr h
  have hl : lv_has ls 5 [(0, .ref (ad 72)), (1, .int (nI t))] := hl
  refine lv_iconst (v := nI 0) hx hb dX2_leastKept_0 (by decide) ?_
  refine lv_istore_n (lv' := [(2, .int (nI 0)), (0, .ref (ad 72)), (1, .int (nI t))]) hx hb dX2_leastKept_1 rfl hl (by decide) rfl (fun ls hl => ?_)
  refine lv_iconst (v := nI 0) hx hb dX2_leastKept_2 (by decide) ?_
  refine lv_istore_n (lv' := [(3, .int (nI 0)), (2, .int (nI 0)), (0, .ref (ad 72)), (1, .int (nI t))]) hx hb dX2_leastKept_3 rfl hl (by decide) rfl (fun ls hl => ?_)
  refine lv_iconst (v := nI 1) hx hb dX2_leastKept_4 (by decide) ?_
  refine lv_istore (lv' := [(4, .int (nI 1)), (3, .int (nI 0)), (2, .int (nI 0)), (0, .ref (ad 72)), (1, .int (nI t))]) hx hb dX2_leastKept_5 hl (by decide) rfl (fun ls hl => ?_)
  refine k_least_loop hC hA kp t hkp ht en bas msg hR (fun ls H locs hw hl => ?_) 16 0 ls s.heap [] (by decide) hw (lv_sub hl [3, 4, 2, 1, 0] rfl)
  refine lv_iload_n hx hb dX2_leastKept_44 rfl (lv_at hl 0 rfl) ?_
  exact x_wretI hx hb hr hlocks hw rfl dX2_leastKept_45
set_option maxHeartbeats 4000000 in
set_option maxRecDepth 100000 in
theorem k_inverseP (l : Launch) {D : va_G} {cI cJ cZ cD : ClassId} {ad : Nat → Nat} {w : Nat → va_E} {sz : Nat} (en kp bas : Int32) (msg : Int64) (ivf : Nat → Int32) (hiv : ∀ d, 1 ≤ d → d < 16 → ivf d = nI (iv d)) (d : Nat) (hd1 : 1 ≤ d) (hd2 : d < 16) (hR : w 72 = .inr (1, [.ref (ad 73), .ref (ad 74), .ref (ad 75), .int en, .int kp, .long msg, .int bas])) (hIv : w 75 = .inl (cI, 16, .inl ivf)) : MW l yX2_inverse (.code yX2_inverse cX2_inverse 2 (some .int)) ({ frames := 0, cells := 0, slots := 0, locals := 0 }) [.ref (ad 72), .int (nI d)] D (tyL cI cJ cZ cD) ad 89 w sz (some (.int (nI (iv d)))) (fun u => u = w) := by
  refine MW.of (by decide) (Nat.le_of_ble_eq_true rfl) ?_
  intro p e s m below meth c ls hC hr hlocks hl hw
  obtain ⟨hx, hb, hml, hown, hts⟩ := id hC
  have hA : ∀ q, s.heap.size ≤ q → xA ad 89 s.heap.size q := fun q h => Or.inr h
  have hl : lv_has ls 2 [(0, .ref (ad 72)), (1, .int (nI d))] := hl
  refine lv_iload_n hx hb dX2_inverse_0 rfl (lv_at hl 1 rfl) ?_
  refine lv_if_le (tgt := 13) hx hb dX2_inverse_1 (by decide) (fun hc => absurd hc (nI_nle (by omega) (by omega))) (fun hc => ?_)
  refine lv_aload_n hx hb dX2_inverse_4 rfl (lv_at hl 0 rfl) ?_
  refine gf_X2_19 hx hb hts hown hw (by decide) hR rfl dX2_inverse_5 ?_
  refine lv_iload_n hx hb dX2_inverse_8 rfl (lv_at hl 1 rfl) ?_
  refine x_iald hx hb hw (by decide) 0 hIv rfl (j := d) (by omega) (by decide) (hiv d hd1 hd2) dX2_inverse_9 ?_
  refine lv_goto (tgt := 23) hx hb dX2_inverse_10 (by decide) ?_
  exact x_wretI hx hb hr hlocks hw rfl dX2_inverse_23
set_option maxHeartbeats 4000000 in
set_option maxRecDepth 100000 in
theorem k_inverseN (l : Launch) {D : va_G} {cI cJ cZ cD : ClassId} {ad : Nat → Nat} {w : Nat → va_E} {sz : Nat} (en kp bas : Int32) (msg : Int64) (ivf : Nat → Int32) (hiv : ∀ d, 1 ≤ d → d < 16 → ivf d = nI (iv d)) (a b : Nat) (hab : a < b) (hb0 : b ≤ 16) (ha : 1 ≤ a) (hR : w 72 = .inr (1, [.ref (ad 73), .ref (ad 74), .ref (ad 75), .int en, .int kp, .long msg, .int bas])) (hIv : w 75 = .inl (cI, 16, .inl ivf)) : MW l yX2_inverse (.code yX2_inverse cX2_inverse 2 (some .int)) ({ frames := 0, cells := 0, slots := 0, locals := 0 }) [.ref (ad 72), .int (nI a - nI b)] D (tyL cI cJ cZ cD) ad 89 w sz (some (.int (nI (1073741789 - iv (b - a))))) (fun u => u = w) := by
  refine MW.of (by decide) (Nat.le_of_ble_eq_true rfl) ?_
  intro p e s m below meth c ls hC hr hlocks hl hw
  obtain ⟨hx, hb, hml, hown, hts⟩ := id hC
  have hA : ∀ q, s.heap.size ≤ q → xA ad 89 s.heap.size q := fun q h => Or.inr h
  have hl : lv_has ls 2 [(0, .ref (ad 72)), (1, .int (nI a - nI b))] := hl
  have hlt := iv_lt (b - a) (by omega)
  refine lv_iload_n hx hb dX2_inverse_0 rfl (lv_at hl 1 rfl) ?_
  refine lv_if_le (tgt := 13) hx hb dX2_inverse_1 (by decide) (fun hc => ?_) (fun hc => absurd (sub_le0 (by omega) (by omega)) hc)
  refine lv_ldc hx hb hown (hts _ ct_X2_24) dX2_inverse_13 ?_
  refine lv_aload_n hx hb dX2_inverse_15 rfl (lv_at hl 0 rfl) ?_
  refine gf_X2_19 hx hb hts hown hw (by decide) hR rfl dX2_inverse_16 ?_
  refine lv_iload_n hx hb dX2_inverse_19 rfl (lv_at hl 1 rfl) ?_
  refine lv_ineg hx hb dX2_inverse_20 ?_
  rw [neg_sub_nI (by omega)]
  refine x_iald hx hb hw (by decide) 0 hIv rfl (j := b - a) (by omega) (by decide) (hiv (b - a) (by omega) (by omega)) dX2_inverse_21 ?_
  refine t_isub hx hb dX2_inverse_22 (v := nI (1073741789 - (iv (b - a)))) (pk_sub (by omega)) ?_
  exact x_wretI hx hb hr hlocks hw rfl dX2_inverse_23
set_option maxHeartbeats 4000000 in
set_option maxRecDepth 100000 in
theorem k_weight_loop {l : Launch} {p : Program} {e : Env} {s : State} {m : MethodId} {args : Array Value} {below : List Frame} {meth : Method} {c : Code} {Q : State → Prop} {D : va_G} {cI cJ cZ cD : ClassId} {ad : Nat → Nat} {A : Nat → Prop} {H0 : Heap} {w : Nat → va_E} (hC : CallFix p m c cX2_weight 6 s args wsL_law RX2) (hA : ∀ q, H0.size ≤ q → A q) (en kp bas : Int32) (msg : Int64) (ivf : Nat → Int32) (hiv : ∀ d, 1 ≤ d → d < 16 → ivf d = nI (iv d)) (k b : Nat) (hk1 : 1 ≤ k) (hk2 : k ≤ 16) (hbb : b < 2 ^ 31) (hR : w 72 = .inr (1, [.ref (ad 73), .ref (ad 74), .ref (ad 75), .int en, .int kp, .long msg, .int bas])) (hIv : w 75 = .inl (cI, 16, .inl ivf))
    (kx : ∀ (ls : Array Slot) (H : Heap) (locs : List Loc), WW D vwCl (tyL cI cJ cZ cD) A H0 ad 89 w s H locs → lv_has ls 6 [(3, .int (nI (wgt b k 16)))] → W p l e ({ frames := 2, cells := 0, slots := 0, locals := 62 }) s m args below meth c H locs 0 0 Q (F0 m 61 ls [])) :
    ∀ (j q : Nat) (ls : Array Slot) (H : Heap) (locs : List Loc), q + j = 16 → WW D vwCl (tyL cI cJ cZ cD) A H0 ad 89 w s H locs → lv_has ls 6 [(0, .ref (ad 72)), (1, .int (nI k)), (2, .int (nI b)), (3, .int (nI (wgt b k q))), (4, .int (nI (q + 1)))] → W p l e ({ frames := 2, cells := 0, slots := 0, locals := 62 }) s m args below meth c H locs 0 0 Q (F0 m 5 ls []) := by
  obtain ⟨hx, hb, hml, hown, hts⟩ := id hC
  intro j
  induction j with
  | zero =>
    intro q ls H locs hq hw hl
    obtain rfl : q = 16 := by omega
    have hl : lv_has ls 6 [(0, .ref (ad 72)), (1, .int (nI k)), (2, .int (nI b)), (3, .int (nI (wgt b k 16))), (4, .int (nI 17))] := hl
    refine lv_iload hx hb dX2_weight_5 (lv_at hl 4 rfl) ?_
    refine lv_bipush (v := nI 16) hx hb dX2_weight_7 (by decide) ?_
    refine lv_icmp_gt (tgt := 61) hx hb dX2_weight_9 (by decide) (fun hc => ?_) (fun hc => absurd (by decide) hc)
    exact kx ls H locs hw (lv_sub hl [3] rfl)
  | succ j ih =>
    intro q ls H locs hq hw hl
    have hwl := wgt_lt b k q
    refine lv_iload hx hb dX2_weight_5 (lv_at hl 4 rfl) ?_
    refine lv_bipush (v := nI 16) hx hb dX2_weight_7 (by decide) ?_
    refine lv_icmp_gt (tgt := 61) hx hb dX2_weight_9 (by decide) (fun hc => absurd hc (nI_nlt (by omega) (by omega))) (fun hc => ?_)
    refine lv_iload hx hb dX2_weight_12 (lv_at hl 4 rfl) ?_
    refine lv_iload_n hx hb dX2_weight_14 rfl (lv_at hl 1 rfl) ?_
    refine lv_icmp_eq (tgt := 55) hx hb dX2_weight_15 (by decide) (fun hc2 => ?_) (fun hc2 => ?_)
    · rw [nI_eq (by omega) (by omega)] at hc2
      refine lv_iinc (v := nI (q + 1 + 1)) (lv' := [(4, .int (nI (q + 1 + 1))), (0, .ref (ad 72)), (1, .int (nI k)), (2, .int (nI b)), (3, .int (nI (wgt b k q)))]) hx hb dX2_weight_55 hl (k := 4) rfl (nI_1 (q + 1)) (by decide) rfl (fun ls hl => ?_)
      refine lv_goto (tgt := 5) hx hb dX2_weight_58 (by decide) ?_
      exact ih (q + 1) ls H locs (by omega) hw (lv_sub hl [1, 2, 3, 4, 0] (by rw [show wgt b k (q + 1) = wgt b k q from if_neg (by omega)]; rfl))
    · rw [nI_eq (by omega) (by omega)] at hc2
      refine lv_iload_n hx hb dX2_weight_18 rfl (lv_at hl 2 rfl) ?_
      refine lv_iload hx hb dX2_weight_19 (lv_at hl 4 rfl) ?_
      have htb := tb_lt b (q + 1)
      refine x_callS (As := [.int (nI b), .int (nI (q + 1))]) (rest := []) hC sf_X2_61 (k_hasBit l b (q + 1) hbb (by omega)) ⟨rfl, rfl, Nat.le_of_ble_eq_true rfl, Nat.le_of_ble_eq_true rfl⟩ hl.1 (Nat.le_of_ble_eq_true rfl) dX2_weight_21 ⟨Nat.zero_le _, Nat.zero_le _⟩ rfl ?_
      refine lv_if_eq (tgt := 55) hx hb dX2_weight_24 (by decide) (fun hc3 => ?_) (fun hc3 => ?_)
      · rw [nI_z (by omega)] at hc3
        refine lv_iinc (v := nI (q + 1 + 1)) (lv' := [(4, .int (nI (q + 1 + 1))), (0, .ref (ad 72)), (1, .int (nI k)), (2, .int (nI b)), (3, .int (nI (wgt b k q)))]) hx hb dX2_weight_55 hl (k := 4) rfl (nI_1 (q + 1)) (by decide) rfl (fun ls hl => ?_)
        refine lv_goto (tgt := 5) hx hb dX2_weight_58 (by decide) ?_
        exact ih (q + 1) ls H locs (by omega) hw (lv_sub hl [1, 2, 3, 4, 0] (by rw [show wgt b k (q + 1) = wgt b k q from if_neg (by omega)]; rfl))
      · rw [nI_z (by omega)] at hc3
        have hic := ivc_lt (k := k) (m := q + 1) (by omega) hk2 (by omega) hk1 (by omega)
        have hmm : (q + 1) * ivc k (q + 1) ≤ 16 * 1073741789 := Nat.mul_le_mul (by omega) (by omega)
        have hml2 : (q + 1) * ivc k (q + 1) % 1073741789 < 1073741789 := Nat.mod_lt _ (by decide)
        have hpp := mul_lt62 (show wgt b k q < 2 ^ 31 by omega) (show (q + 1) * ivc k (q + 1) % 1073741789 < 2 ^ 31 by omega)
        refine lv_iload hx hb dX2_weight_27 (lv_at hl 4 rfl) ?_
        refine lv_i2l hx hb dX2_weight_29 (nI_l (by omega)) ?_
        refine lv_aload_n hx hb dX2_weight_30 rfl (lv_at hl 0 rfl) ?_
        refine lv_iload hx hb dX2_weight_31 (lv_at hl 4 rfl) ?_
        refine lv_iload_n hx hb dX2_weight_33 rfl (lv_at hl 1 rfl) ?_
        by_cases hlt : k < q + 1
        · skip
          refine t_isub hx hb dX2_weight_34 (v := nI (q + 1 - k)) (pk_sub (by omega)) ?_
          refine x_callW1 (As := [.int (nI (q + 1 - k))]) (rest := [.long (lN (q + 1))]) hC vf_X2_75 hw hA (by decide) hR rfl rfl (k_inverseP l _ _ _ _ ivf hiv (q + 1 - k) (by omega) (by omega) hR hIv) ⟨rfl, rfl, Nat.le_of_ble_eq_true rfl, Nat.le_of_ble_eq_true rfl⟩ hl.1 (Nat.le_of_ble_eq_true rfl) dX2_weight_35 ⟨Nat.zero_le _, Nat.zero_le _⟩ rfl (fun w_1 H locs hu hw => ?_)
          rw [hu] at hw
          rw [show iv (q + 1 - k) = ivc k (q + 1) from (if_pos hlt).symm]
          refine lv_i2l hx hb dX2_weight_38 (nI_l (by omega)) ?_
          refine lv_lmul hx hb dX2_weight_39 ?_
          rw [lN_mul]
          refine x_callS (As := [.long (lN ((q + 1) * (ivc k (q + 1))))]) (rest := []) hC sf_X2_25 (k_toExponent l (lN ((q + 1) * ivc k (q + 1)))) ⟨rfl, rfl, Nat.le_of_ble_eq_true rfl, Nat.le_of_ble_eq_true rfl⟩ hl.1 (Nat.le_of_ble_eq_true rfl) dX2_weight_40 ⟨Nat.zero_le _, Nat.zero_le _⟩ rfl ?_
          rw [md_nat (by omega)]
          refine lv_istore (lv' := [(5, .int (nI ((q + 1) * ivc k (q + 1) % 1073741789))), (0, .ref (ad 72)), (1, .int (nI k)), (2, .int (nI b)), (3, .int (nI (wgt b k q))), (4, .int (nI (q + 1)))]) hx hb dX2_weight_43 hl (by decide) rfl (fun ls hl => ?_)
          refine lv_iload_n hx hb dX2_weight_45 rfl (lv_at hl 4 rfl) ?_
          refine lv_i2l hx hb dX2_weight_46 (nI_l (by omega)) ?_
          refine lv_iload hx hb dX2_weight_47 (lv_at hl 0 rfl) ?_
          refine lv_i2l hx hb dX2_weight_49 (nI_l (by omega)) ?_
          refine lv_lmul hx hb dX2_weight_50 ?_
          rw [lN_mul]
          refine x_callS (As := [.long (lN ((wgt b k q) * ((q + 1) * ivc k (q + 1) % 1073741789)))]) (rest := []) hC sf_X2_25 (k_toExponent l (lN (wgt b k q * ((q + 1) * ivc k (q + 1) % 1073741789)))) ⟨rfl, rfl, Nat.le_of_ble_eq_true rfl, Nat.le_of_ble_eq_true rfl⟩ hl.1 (Nat.le_of_ble_eq_true rfl) dX2_weight_51 ⟨Nat.zero_le _, Nat.zero_le _⟩ rfl ?_
          rw [md_nat (by omega)]
          refine lv_istore_n (lv' := [(3, .int (nI (wgt b k q * ((q + 1) * ivc k (q + 1) % 1073741789) % 1073741789))), (5, .int (nI ((q + 1) * ivc k (q + 1) % 1073741789))), (0, .ref (ad 72)), (1, .int (nI k)), (2, .int (nI b)), (4, .int (nI (q + 1)))]) hx hb dX2_weight_54 rfl hl (by decide) rfl (fun ls hl => ?_)
          refine lv_iinc (v := nI (q + 1 + 1)) (lv' := [(4, .int (nI (q + 1 + 1))), (3, .int (nI (wgt b k q * ((q + 1) * ivc k (q + 1) % 1073741789) % 1073741789))), (5, .int (nI ((q + 1) * ivc k (q + 1) % 1073741789))), (0, .ref (ad 72)), (1, .int (nI k)), (2, .int (nI b))]) hx hb dX2_weight_55 hl (k := 5) rfl (nI_1 (q + 1)) (by decide) rfl (fun ls hl => ?_)
          refine lv_goto (tgt := 5) hx hb dX2_weight_58 (by decide) ?_
          exact ih (q + 1) ls H locs (by omega) hw (lv_sub hl [3, 4, 5, 1, 0] (by rw [show wgt b k (q + 1) = _ from if_pos ⟨by omega, by omega⟩]; rfl))
        · skip
          refine lv_isub hx hb dX2_weight_34 ?_
          refine x_callW1 (As := [.int (nI (q + 1) - nI k)]) (rest := [.long (lN (q + 1))]) hC vf_X2_75 hw hA (by decide) hR rfl rfl (k_inverseN l _ _ _ _ ivf hiv (q + 1) k (by omega) (by omega) (by omega) hR hIv) ⟨rfl, rfl, Nat.le_of_ble_eq_true rfl, Nat.le_of_ble_eq_true rfl⟩ hl.1 (Nat.le_of_ble_eq_true rfl) dX2_weight_35 ⟨Nat.zero_le _, Nat.zero_le _⟩ rfl (fun w_2 H locs hu hw => ?_)
          rw [hu] at hw
          rw [show 1073741789 - iv (k - (q + 1)) = ivc k (q + 1) from (if_neg hlt).symm]
          refine lv_i2l hx hb dX2_weight_38 (nI_l (by omega)) ?_
          refine lv_lmul hx hb dX2_weight_39 ?_
          rw [lN_mul]
          refine x_callS (As := [.long (lN ((q + 1) * (ivc k (q + 1))))]) (rest := []) hC sf_X2_25 (k_toExponent l (lN ((q + 1) * ivc k (q + 1)))) ⟨rfl, rfl, Nat.le_of_ble_eq_true rfl, Nat.le_of_ble_eq_true rfl⟩ hl.1 (Nat.le_of_ble_eq_true rfl) dX2_weight_40 ⟨Nat.zero_le _, Nat.zero_le _⟩ rfl ?_
          rw [md_nat (by omega)]
          refine lv_istore (lv' := [(5, .int (nI ((q + 1) * ivc k (q + 1) % 1073741789))), (0, .ref (ad 72)), (1, .int (nI k)), (2, .int (nI b)), (3, .int (nI (wgt b k q))), (4, .int (nI (q + 1)))]) hx hb dX2_weight_43 hl (by decide) rfl (fun ls hl => ?_)
          refine lv_iload_n hx hb dX2_weight_45 rfl (lv_at hl 4 rfl) ?_
          refine lv_i2l hx hb dX2_weight_46 (nI_l (by omega)) ?_
          refine lv_iload hx hb dX2_weight_47 (lv_at hl 0 rfl) ?_
          refine lv_i2l hx hb dX2_weight_49 (nI_l (by omega)) ?_
          refine lv_lmul hx hb dX2_weight_50 ?_
          rw [lN_mul]
          refine x_callS (As := [.long (lN ((wgt b k q) * ((q + 1) * ivc k (q + 1) % 1073741789)))]) (rest := []) hC sf_X2_25 (k_toExponent l (lN (wgt b k q * ((q + 1) * ivc k (q + 1) % 1073741789)))) ⟨rfl, rfl, Nat.le_of_ble_eq_true rfl, Nat.le_of_ble_eq_true rfl⟩ hl.1 (Nat.le_of_ble_eq_true rfl) dX2_weight_51 ⟨Nat.zero_le _, Nat.zero_le _⟩ rfl ?_
          rw [md_nat (by omega)]
          refine lv_istore_n (lv' := [(3, .int (nI (wgt b k q * ((q + 1) * ivc k (q + 1) % 1073741789) % 1073741789))), (5, .int (nI ((q + 1) * ivc k (q + 1) % 1073741789))), (0, .ref (ad 72)), (1, .int (nI k)), (2, .int (nI b)), (4, .int (nI (q + 1)))]) hx hb dX2_weight_54 rfl hl (by decide) rfl (fun ls hl => ?_)
          refine lv_iinc (v := nI (q + 1 + 1)) (lv' := [(4, .int (nI (q + 1 + 1))), (3, .int (nI (wgt b k q * ((q + 1) * ivc k (q + 1) % 1073741789) % 1073741789))), (5, .int (nI ((q + 1) * ivc k (q + 1) % 1073741789))), (0, .ref (ad 72)), (1, .int (nI k)), (2, .int (nI b))]) hx hb dX2_weight_55 hl (k := 5) rfl (nI_1 (q + 1)) (by decide) rfl (fun ls hl => ?_)
          refine lv_goto (tgt := 5) hx hb dX2_weight_58 (by decide) ?_
          exact ih (q + 1) ls H locs (by omega) hw (lv_sub hl [3, 4, 5, 1, 0] (by rw [show wgt b k (q + 1) = _ from if_pos ⟨by omega, by omega⟩]; rfl))
set_option maxHeartbeats 4000000 in
set_option maxRecDepth 100000 in
theorem k_weight (l : Launch) {D : va_G} {cI cJ cZ cD : ClassId} {ad : Nat → Nat} {w : Nat → va_E} {sz : Nat} (en kp bas : Int32) (msg : Int64) (ivf : Nat → Int32) (hiv : ∀ d, 1 ≤ d → d < 16 → ivf d = nI (iv d)) (k b : Nat) (hk1 : 1 ≤ k) (hk2 : k ≤ 16) (hbb : b < 2 ^ 31) (hR : w 72 = .inr (1, [.ref (ad 73), .ref (ad 74), .ref (ad 75), .int en, .int kp, .long msg, .int bas])) (hIv : w 75 = .inl (cI, 16, .inl ivf)) : MW l yX2_weight (.code yX2_weight cX2_weight 6 (some .int)) ({ frames := 2, cells := 0, slots := 0, locals := 62 }) [.ref (ad 72), .int (nI k), .int (nI b)] D (tyL cI cJ cZ cD) ad 89 w sz (some (.int (nI (wgt b k 16)))) (fun u => u = w) := by
  refine MW.of (by decide) (Nat.le_of_ble_eq_true rfl) ?_
  intro p e s m below meth c ls hC hr hlocks hl hw
  obtain ⟨hx, hb, hml, hown, hts⟩ := id hC
  have hA : ∀ q, s.heap.size ≤ q → xA ad 89 s.heap.size q := fun q h => Or.inr h
  have hl : lv_has ls 6 [(0, .ref (ad 72)), (1, .int (nI k)), (2, .int (nI b))] := hl
  refine lv_iconst (v := nI 1) hx hb dX2_weight_0 (by decide) ?_
  refine lv_istore_n (lv' := [(3, .int (nI 1)), (0, .ref (ad 72)), (1, .int (nI k)), (2, .int (nI b))]) hx hb dX2_weight_1 rfl hl (by decide) rfl (fun ls hl => ?_)
  refine lv_iconst (v := nI 1) hx hb dX2_weight_2 (by decide) ?_
  refine lv_istore (lv' := [(4, .int (nI 1)), (3, .int (nI 1)), (0, .ref (ad 72)), (1, .int (nI k)), (2, .int (nI b))]) hx hb dX2_weight_3 hl (by decide) rfl (fun ls hl => ?_)
  refine k_weight_loop hC hA en kp bas msg ivf hiv k b hk1 hk2 hbb hR hIv (fun ls H locs hw hl => ?_) 16 0 ls s.heap [] (by decide) hw (lv_sub hl [2, 3, 4, 1, 0] rfl)
  refine lv_iload_n hx hb dX2_weight_61 rfl (lv_at hl 0 rfl) ?_
  exact x_wretI hx hb hr hlocks hw rfl dX2_weight_62
set_option maxHeartbeats 4000000 in
set_option maxRecDepth 100000 in
theorem k_combine_loop {l : Launch} {p : Program} {e : Env} {s : State} {m : MethodId} {args : Array Value} {below : List Frame} {meth : Method} {c : Code} {Q : State → Prop} {D : va_G} {cI cJ cZ cD : ClassId} {ad : Nat → Nat} {A : Nat → Prop} {H0 : Heap} {w : Nat → va_E} (hC : CallFix p m c cX2_combine 4 s args wsL_law RX2) (hA : ∀ q, H0.size ≤ q → A q) (en kp bas : Int32) (msg : Int64) (ivf : Nat → Int32) (hiv : ∀ d, 1 ≤ d → d < 16 → ivf d = nI (iv d)) (ptf : Nat → Int32) (pt : Nat → Nat) (b : Nat) (hbb : b < 2 ^ 31) (hpt : ∀ k, 1 ≤ k → k ≤ 16 → tb b k = 1 → ptf k = nI (pt k) ∧ pt k < 2147483579) (hR : w 72 = .inr (1, [.ref (ad 73), .ref (ad 74), .ref (ad 75), .int en, .int kp, .long msg, .int bas])) (hPt : w 74 = .inl (cI, 17, .inl ptf)) (hIv : w 75 = .inl (cI, 16, .inl ivf))
    (kx : ∀ (ls : Array Slot) (H : Heap) (locs : List Loc), WW D vwCl (tyL cI cJ cZ cD) A H0 ad 89 w s H locs → lv_has ls 4 [(2, .int (nI (cmb b pt 16)))] → W p l e ({ frames := 3, cells := 0, slots := 0, locals := 95 }) s m args below meth c H locs 0 0 Q (F0 m 44 ls [])) :
    ∀ (j q : Nat) (ls : Array Slot) (H : Heap) (locs : List Loc), q + j = 16 → WW D vwCl (tyL cI cJ cZ cD) A H0 ad 89 w s H locs → lv_has ls 4 [(0, .ref (ad 72)), (1, .int (nI b)), (2, .int (nI (cmb b pt q))), (3, .int (nI (q + 1)))] → W p l e ({ frames := 3, cells := 0, slots := 0, locals := 95 }) s m args below meth c H locs 0 0 Q (F0 m 4 ls []) := by
  obtain ⟨hx, hb, hml, hown, hts⟩ := id hC
  intro j
  induction j with
  | zero =>
    intro q ls H locs hq hw hl
    obtain rfl : q = 16 := by omega
    have hl : lv_has ls 4 [(0, .ref (ad 72)), (1, .int (nI b)), (2, .int (nI (cmb b pt 16))), (3, .int (nI 17))] := hl
    refine lv_iload_n hx hb dX2_combine_4 rfl (lv_at hl 3 rfl) ?_
    refine lv_bipush (v := nI 16) hx hb dX2_combine_5 (by decide) ?_
    refine lv_icmp_gt (tgt := 44) hx hb dX2_combine_7 (by decide) (fun hc => ?_) (fun hc => absurd (by decide) hc)
    exact kx ls H locs hw (lv_sub hl [2] rfl)
  | succ j ih =>
    intro q ls H locs hq hw hl
    have hcl := cmb_lt b pt q
    have hwl := wgt_lt b (q + 1) 16
    refine lv_iload_n hx hb dX2_combine_4 rfl (lv_at hl 3 rfl) ?_
    refine lv_bipush (v := nI 16) hx hb dX2_combine_5 (by decide) ?_
    refine lv_icmp_gt (tgt := 44) hx hb dX2_combine_7 (by decide) (fun hc => absurd hc (nI_nlt (by omega) (by omega))) (fun hc => ?_)
    refine lv_iload_n hx hb dX2_combine_10 rfl (lv_at hl 1 rfl) ?_
    refine lv_iload_n hx hb dX2_combine_11 rfl (lv_at hl 3 rfl) ?_
    have htb := tb_lt b (q + 1)
    refine x_callS (As := [.int (nI b), .int (nI (q + 1))]) (rest := []) hC sf_X2_61 (k_hasBit l b (q + 1) hbb (by omega)) ⟨rfl, rfl, Nat.le_of_ble_eq_true rfl, Nat.le_of_ble_eq_true rfl⟩ hl.1 (Nat.le_of_ble_eq_true rfl) dX2_combine_12 ⟨Nat.zero_le _, Nat.zero_le _⟩ rfl ?_
    refine lv_if_eq (tgt := 38) hx hb dX2_combine_15 (by decide) (fun hc3 => ?_) (fun hc3 => ?_)
    · rw [nI_z (by omega)] at hc3
      refine lv_iinc (v := nI (q + 1 + 1)) (lv' := [(3, .int (nI (q + 1 + 1))), (0, .ref (ad 72)), (1, .int (nI b)), (2, .int (nI (cmb b pt q)))]) hx hb dX2_combine_38 hl (k := 3) rfl (nI_1 (q + 1)) (by decide) rfl (fun ls hl => ?_)
      refine lv_goto (tgt := 4) hx hb dX2_combine_41 (by decide) ?_
      exact ih (q + 1) ls H locs (by omega) hw (lv_sub hl [1, 2, 3, 0] (by rw [show cmb b pt (q + 1) = cmb b pt q from if_neg (by omega)]; rfl))
    · rw [nI_z (by omega)] at hc3
      obtain ⟨hp1, hp2⟩ := hpt (q + 1) (by omega) (by omega) (by omega)
      refine lv_iload_n hx hb dX2_combine_18 rfl (lv_at hl 2 rfl) ?_
      refine lv_aload_n hx hb dX2_combine_19 rfl (lv_at hl 0 rfl) ?_
      refine gf_X2_15 hx hb hts hown hw (by decide) hR rfl dX2_combine_20 ?_
      refine lv_iload_n hx hb dX2_combine_23 rfl (lv_at hl 3 rfl) ?_
      refine x_iald hx hb hw (by decide) 0 hPt rfl (j := q + 1) (by omega) (by decide) hp1 dX2_combine_24 ?_
      refine lv_aload_n hx hb dX2_combine_25 rfl (lv_at hl 0 rfl) ?_
      refine lv_iload_n hx hb dX2_combine_26 rfl (lv_at hl 3 rfl) ?_
      refine lv_iload_n hx hb dX2_combine_27 rfl (lv_at hl 1 rfl) ?_
      refine x_callW1 (As := [.int (nI (q + 1)), .int (nI b)]) (rest := [.int (nI (pt (q + 1))), .int (nI (cmb b pt q))]) hC vf_X2_69 hw hA (by decide) hR rfl rfl (k_weight l _ _ _ _ ivf hiv (q + 1) b (by omega) (by omega) hbb hR hIv) ⟨rfl, rfl, Nat.le_of_ble_eq_true rfl, Nat.le_of_ble_eq_true rfl⟩ hl.1 (Nat.le_of_ble_eq_true rfl) dX2_combine_28 ⟨Nat.zero_le _, Nat.zero_le _⟩ rfl (fun w_1 H locs hu hw => ?_)
      rw [hu] at hw
      refine x_callS (As := [.int (nI (pt (q + 1))), .int (nI (wgt b (q + 1) 16))]) (rest := [.int (nI (cmb b pt q))]) hC sf_X2_72 (k_power l (pt (q + 1)) (wgt b (q + 1) 16) hp2 (by omega)) ⟨rfl, rfl, Nat.le_of_ble_eq_true rfl, Nat.le_of_ble_eq_true rfl⟩ hl.1 (Nat.le_of_ble_eq_true rfl) dX2_combine_31 ⟨Nat.zero_le _, Nat.zero_le _⟩ rfl ?_
      have hpw := pw_lt (pt (q + 1)) (wgt b (q + 1) 16) (show 0 < 2147483579 by decide)
      refine x_callS (As := [.int (nI (cmb b pt q)), .int (nI (pt (q + 1) ^ wgt b (q + 1) 16 % 2147483579))]) (rest := []) hC sf_X2_54 (k_times l (cmb b pt q) (pt (q + 1) ^ wgt b (q + 1) 16 % 2147483579) (by omega) (by omega)) ⟨rfl, rfl, Nat.le_of_ble_eq_true rfl, Nat.le_of_ble_eq_true rfl⟩ hl.1 (Nat.le_of_ble_eq_true rfl) dX2_combine_34 ⟨Nat.zero_le _, Nat.zero_le _⟩ rfl ?_
      refine lv_istore_n (lv' := [(2, .int (nI (cmb b pt q * (pt (q + 1) ^ wgt b (q + 1) 16 % 2147483579) % 2147483579))), (0, .ref (ad 72)), (1, .int (nI b)), (3, .int (nI (q + 1)))]) hx hb dX2_combine_37 rfl hl (by decide) rfl (fun ls hl => ?_)
      refine lv_iinc (v := nI (q + 1 + 1)) (lv' := [(3, .int (nI (q + 1 + 1))), (2, .int (nI (cmb b pt q * (pt (q + 1) ^ wgt b (q + 1) 16 % 2147483579) % 2147483579))), (0, .ref (ad 72)), (1, .int (nI b))]) hx hb dX2_combine_38 hl (k := 3) rfl (nI_1 (q + 1)) (by decide) rfl (fun ls hl => ?_)
      refine lv_goto (tgt := 4) hx hb dX2_combine_41 (by decide) ?_
      exact ih (q + 1) ls H locs (by omega) hw (lv_sub hl [2, 3, 1, 0] (by rw [show cmb b pt (q + 1) = _ from if_pos (by omega)]; rfl))
set_option maxHeartbeats 4000000 in
set_option maxRecDepth 100000 in
theorem k_combine (l : Launch) {D : va_G} {cI cJ cZ cD : ClassId} {ad : Nat → Nat} {w : Nat → va_E} {sz : Nat} (en kp bas : Int32) (msg : Int64) (ivf : Nat → Int32) (hiv : ∀ d, 1 ≤ d → d < 16 → ivf d = nI (iv d)) (ptf : Nat → Int32) (pt : Nat → Nat) (b : Nat) (hbb : b < 2 ^ 31) (hpt : ∀ k, 1 ≤ k → k ≤ 16 → tb b k = 1 → ptf k = nI (pt k) ∧ pt k < 2147483579) (hR : w 72 = .inr (1, [.ref (ad 73), .ref (ad 74), .ref (ad 75), .int en, .int kp, .long msg, .int bas])) (hPt : w 74 = .inl (cI, 17, .inl ptf)) (hIv : w 75 = .inl (cI, 16, .inl ivf)) : MW l yX2_combine (.code yX2_combine cX2_combine 4 (some .int)) ({ frames := 3, cells := 0, slots := 0, locals := 95 }) [.ref (ad 72), .int (nI b)] D (tyL cI cJ cZ cD) ad 89 w sz (some (.int (nI (cmb b pt 16)))) (fun u => u = w) := by
  refine MW.of (by decide) (Nat.le_of_ble_eq_true rfl) ?_
  intro p e s m below meth c ls hC hr hlocks hl hw
  obtain ⟨hx, hb, hml, hown, hts⟩ := id hC
  have hA : ∀ q, s.heap.size ≤ q → xA ad 89 s.heap.size q := fun q h => Or.inr h
  have hl : lv_has ls 4 [(0, .ref (ad 72)), (1, .int (nI b))] := hl
  refine lv_iconst (v := nI 1) hx hb dX2_combine_0 (by decide) ?_
  refine lv_istore_n (lv' := [(2, .int (nI 1)), (0, .ref (ad 72)), (1, .int (nI b))]) hx hb dX2_combine_1 rfl hl (by decide) rfl (fun ls hl => ?_)
  refine lv_iconst (v := nI 1) hx hb dX2_combine_2 (by decide) ?_
  refine lv_istore_n (lv' := [(3, .int (nI 1)), (2, .int (nI 1)), (0, .ref (ad 72)), (1, .int (nI b))]) hx hb dX2_combine_3 rfl hl (by decide) rfl (fun ls hl => ?_)
  refine k_combine_loop hC hA en kp bas msg ivf hiv ptf pt b hbb hpt hR hPt hIv (fun ls H locs hw hl => ?_) 16 0 ls s.heap [] (by decide) hw (lv_sub hl [2, 3, 1, 0] rfl)
  refine lv_iload_n hx hb dX2_combine_44 rfl (lv_at hl 0 rfl) ?_
  exact x_wretI hx hb hr hlocks hw rfl dX2_combine_45
end
section
/-! the statement's methods -/
def inr (a : Nat) (b : Int32) : Prop := 0 ≤ (a : Int) + b.toInt ∧ (a : Int) + b.toInt < 2147483648
theorem inr_of {a : Nat} {b : Int32} (h : inr a b) : ∃ x : Nat, x < 2147483648 ∧ (a : Int) + b.toInt = (x : Int) := ⟨((a : Int) + b.toInt).toNat, by have := h.1; have := h.2; omega, by have := h.1; omega⟩
theorem i32_lo (b : Int32) : -2147483648 ≤ b.toInt ∧ b.toInt < 2147483648 := ⟨b.le_toInt, b.toInt_lt⟩
theorem sumL {a : Nat} (ha : a < 2147483648) (b : Int32) : (lN a + b.toInt64).toInt = (a : Int) + b.toInt := by
  have := i32_lo b
  rw [Int64.toInt_add, pk_lT (by omega), Int32.toInt_toInt64, Int.bmod_def]
  omega
theorem sumI {a x : Nat} (ha : a < 2147483648) {b : Int32} (hx : x < 2147483648) (h : (a : Int) + b.toInt = (x : Int)) : nI a + b = nI x := by
  apply Int32.toInt_inj.mp
  rw [Int32.toInt_add, nI_toInt (by omega), nI_toInt (by omega), h, Int.bmod_def]
  omega
def chF (b p a f s : Nat) : Nat := md (stirF (stirF (stirF (stirF (stirF (lN 0) (lN b)) (lN p)) (lN a)) (lN f)) (lN s)) 1073741789
theorem chF_lt (b p a f s : Nat) : chF b p a f s < 1073741789 := md_lt _ (by decide)
def saW (key : Nat) (M : Int64) : Nat := md (stirF (stirF (lN 0) (lN key)) M) 1073741789
theorem saW_lt (key : Nat) (M : Int64) : saW key M < 1073741789 := md_lt _ (by decide)
def saC (key pub base : Nat) (M : Int64) : Nat := chF base pub (base ^ key % 2147483579) (4 ^ saW key M % 2147483579) (base ^ saW key M % 2147483579)
def saZ (key pub base : Nat) (M : Int64) : Nat := (saC key pub base M * key + saW key M) % 1073741789
def hldF (a x y pub base : Nat) : Prop := 1 ≤ a ∧ a < 2147483579 ∧ a ^ 1073741789 % 2147483579 = 1 ∧ x < 1073741789 ∧ y < 1073741789 ∧ x = chF base pub a (4 ^ y % 2147483579 * (pub ^ (1073741789 - x) % 2147483579) % 2147483579) (base ^ y % 2147483579 * (a ^ (1073741789 - x) % 2147483579) % 2147483579)
theorem mul_lt60 {a b : Nat} (ha : a < 1073741789) (hb : b < 1073741789) : a * b < 2 ^ 60 := by
  have := Nat.mul_lt_mul'' ha hb
  have h2 : 1073741789 * 1073741789 < 2 ^ 60 := by decide
  omega

set_option maxHeartbeats 4000000 in
set_option maxRecDepth 100000 in
theorem k_canAdd (l : Launch) (a : Nat) (b : Int32) (ha : a < 2147483648) (inst : Decidable (inr a b)) : MS l yX3_canAdd (.code yX3_canAdd cX3_canAdd 4 (some .boolean)) ({ frames := 0, cells := 0, slots := 0, locals := 0 }) [.int (nI a), .int b] (.int (if inr a b then nI 1 else nI 0)) := by
  refine MS.of (by decide) (Nat.le_of_ble_eq_true rfl) ?_
  intro p e s m below meth c ls hC hr hlocks hl
  obtain ⟨hx, hb, hml, hown, hts⟩ := id hC
  have hl : lv_has ls 4 [(0, .int (nI a)), (1, .int b)] := hl
  have hs := sumL ha b
  refine lv_iload_n hx hb dX3_canAdd_0 rfl (lv_at hl 0 rfl) ?_
  refine lv_i2l hx hb dX3_canAdd_1 (nI_l (by omega)) ?_
  refine lv_iload_n hx hb dX3_canAdd_2 rfl (lv_at hl 1 rfl) ?_
  refine lv_i2l hx hb dX3_canAdd_3 rfl ?_
  refine lv_ladd hx hb dX3_canAdd_4 ?_
  refine lv_lstore_n (lv' := [(2, .long ((lN a) + b.toInt64)), (0, .int (nI a)), (1, .int b)]) hx hb dX3_canAdd_5 rfl hl (by decide) rfl (fun ls hl => ?_)
  refine lv_lload_n hx hb dX3_canAdd_6 rfl (lv_at hl 0 rfl) ?_
  refine lv_lconst (v := lN 0) hx hb dX3_canAdd_7 (by decide) ?_
  refine W.lcmp hx hb dX3_canAdd_8 ?_
  refine lv_if_lt (tgt := 24) hx hb dX3_canAdd_9 (by decide) (fun hc => ?_) (fun hc => ?_)
  · rw [lg_cmp_lt] at hc
    rw [Int64.lt_iff_toInt_lt, hs, pk_lT (by decide)] at hc
    rw [if_neg (fun q => by have := q.1; omega)]
    refine lv_iconst (v := nI 0) hx hb dX3_canAdd_24 (by decide) ?_
    exact x_retZ hx hb hr hlocks (by decide) dX3_canAdd_25
  · rw [lg_cmp_lt] at hc
    rw [Int64.lt_iff_toInt_lt, hs, pk_lT (by decide)] at hc
    refine lv_lload_n hx hb dX3_canAdd_12 rfl (lv_at hl 0 rfl) ?_
    refine lv_ldc2 hx hb hown (hts _ ct_X3_59) dX3_canAdd_13 ?_
    refine W.lcmp hx hb dX3_canAdd_16 ?_
    refine lv_if_gt (tgt := 24) hx hb dX3_canAdd_17 (by decide) (fun hc2 => ?_) (fun hc2 => ?_)
    · rw [lg_cmp_gt] at hc2
      rw [Int64.lt_iff_toInt_lt, hs, pk_lT (by decide)] at hc2
      rw [if_neg (fun q => by have := q.2; omega)]
      refine lv_iconst (v := nI 0) hx hb dX3_canAdd_24 (by decide) ?_
      exact x_retZ hx hb hr hlocks (by decide) dX3_canAdd_25
    · rw [lg_cmp_gt] at hc2
      rw [Int64.lt_iff_toInt_lt, hs, pk_lT (by decide)] at hc2
      rw [if_pos ⟨by omega, by omega⟩]
      refine lv_iconst (v := nI 1) hx hb dX3_canAdd_20 (by decide) ?_
      refine lv_goto (tgt := 25) hx hb dX3_canAdd_21 (by decide) ?_
      exact x_retZ hx hb hr hlocks (by decide) dX3_canAdd_25
set_option maxHeartbeats 4000000 in
set_option maxRecDepth 100000 in
theorem k_challenge (l : Launch) {D : va_G} {cI cJ cZ cD : ClassId} {ad : Nat → Nat} {w : Nat → va_E} {sz : Nat} (a : Nat) (ha : a < 2 ^ 31) (x y : Int32) (pub base f g : Nat) (h1 : pub < 2 ^ 31) (h2 : base < 2 ^ 31) (h3 : f < 2 ^ 31) (h4 : g < 2 ^ 31) (hSt : w 76 = .inr (2, [.int (nI a), .int x, .int y])) : MW l yX3_challenge (.code yX3_challenge cX3_challenge 7 (some .int)) ({ frames := 2, cells := 0, slots := 0, locals := 64 }) [.ref (ad 76), .int (nI pub), .int (nI base), .int (nI f), .int (nI g)] D (tyL cI cJ cZ cD) ad 89 w sz (some (.int (nI (chF base pub a f g)))) (fun u => u = w) := by
  refine MW.of (by decide) (Nat.le_of_ble_eq_true rfl) ?_
  intro p e s m below meth c ls hC hr hlocks hl hw
  obtain ⟨hx, hb, hml, hown, hts⟩ := id hC
  have hA : ∀ q, s.heap.size ≤ q → xA ad 89 s.heap.size q := fun q h => Or.inr h
  have hl : lv_has ls 7 [(0, .ref (ad 76)), (1, .int (nI pub)), (2, .int (nI base)), (3, .int (nI f)), (4, .int (nI g))] := hl
  refine lv_iload_n hx hb dX3_challenge_0 rfl (lv_at hl 2 rfl) ?_
  refine lv_i2l hx hb dX3_challenge_1 (nI_l (by omega)) ?_
  refine lv_iload_n hx hb dX3_challenge_2 rfl (lv_at hl 1 rfl) ?_
  refine lv_i2l hx hb dX3_challenge_3 (nI_l (by omega)) ?_
  refine x_callS (As := [.long (lN base), .long (lN pub)]) (rest := []) hC sf_X3_9 (k_hash l (lN base) (lN pub)) ⟨rfl, rfl, Nat.le_of_ble_eq_true rfl, Nat.le_of_ble_eq_true rfl⟩ hl.1 (Nat.le_of_ble_eq_true rfl) dX3_challenge_4 ⟨Nat.zero_le _, Nat.zero_le _⟩ rfl ?_
  refine lv_aload_n hx hb dX3_challenge_7 rfl (lv_at hl 0 rfl) ?_
  refine gf_X3_23 hx hb hts hown hw (by decide) hSt rfl dX3_challenge_8 ?_
  refine lv_i2l hx hb dX3_challenge_11 (nI_l (by omega)) ?_
  refine x_callS (As := [.long (stirF (stirF (lN 0) (lN base)) (lN pub)), .long (lN a)]) (rest := []) hC sf_X3_56 (k_stir l (stirF (stirF (lN 0) (lN base)) (lN pub)) (lN a)) ⟨rfl, rfl, Nat.le_of_ble_eq_true rfl, Nat.le_of_ble_eq_true rfl⟩ hl.1 (Nat.le_of_ble_eq_true rfl) dX3_challenge_12 ⟨Nat.zero_le _, Nat.zero_le _⟩ rfl ?_
  refine lv_lstore (lv' := [(5, .long (stirF (stirF (stirF (lN 0) (lN base)) (lN pub)) (lN a))), (0, .ref (ad 76)), (1, .int (nI pub)), (2, .int (nI base)), (3, .int (nI f)), (4, .int (nI g))]) hx hb dX3_challenge_15 hl (by decide) rfl (fun ls hl => ?_)
  refine lv_lload hx hb dX3_challenge_17 (lv_at hl 0 rfl) ?_
  refine lv_iload_n hx hb dX3_challenge_19 rfl (lv_at hl 4 rfl) ?_
  refine lv_i2l hx hb dX3_challenge_20 (nI_l (by omega)) ?_
  refine x_callS (As := [.long (stirF (stirF (stirF (lN 0) (lN base)) (lN pub)) (lN a)), .long (lN f)]) (rest := []) hC sf_X3_56 (k_stir l (stirF (stirF (stirF (lN 0) (lN base)) (lN pub)) (lN a)) (lN f)) ⟨rfl, rfl, Nat.le_of_ble_eq_true rfl, Nat.le_of_ble_eq_true rfl⟩ hl.1 (Nat.le_of_ble_eq_true rfl) dX3_challenge_21 ⟨Nat.zero_le _, Nat.zero_le _⟩ rfl ?_
  refine lv_iload hx hb dX3_challenge_24 (lv_at hl 5 rfl) ?_
  refine lv_i2l hx hb dX3_challenge_26 (nI_l (by omega)) ?_
  refine x_callS (As := [.long (stirF (stirF (stirF (stirF (lN 0) (lN base)) (lN pub)) (lN a)) (lN f)), .long (lN g)]) (rest := []) hC sf_X3_56 (k_stir l (stirF (stirF (stirF (stirF (lN 0) (lN base)) (lN pub)) (lN a)) (lN f)) (lN g)) ⟨rfl, rfl, Nat.le_of_ble_eq_true rfl, Nat.le_of_ble_eq_true rfl⟩ hl.1 (Nat.le_of_ble_eq_true rfl) dX3_challenge_27 ⟨Nat.zero_le _, Nat.zero_le _⟩ rfl ?_
  refine x_callS (As := [.long (stirF (stirF (stirF (stirF (stirF (lN 0) (lN base)) (lN pub)) (lN a)) (lN f)) (lN g))]) (rest := []) hC sf_X3_15 (k_toExponent l (stirF (stirF (stirF (stirF (stirF (lN 0) (lN base)) (lN pub)) (lN a)) (lN f)) (lN g))) ⟨rfl, rfl, Nat.le_of_ble_eq_true rfl, Nat.le_of_ble_eq_true rfl⟩ hl.1 (Nat.le_of_ble_eq_true rfl) dX3_challenge_30 ⟨Nat.zero_le _, Nat.zero_le _⟩ rfl ?_
  exact x_wretI hx hb hr hlocks hw rfl dX3_challenge_33
set_option maxHeartbeats 4000000 in
set_option maxRecDepth 100000 in
theorem k_state (l : Launch) {D : va_G} {cI cJ cZ cD : ClassId} {ad : Nat → Nat} {w : Nat → va_E} {sz : Nat} (a x y : Int32) (key pub base : Nat) (M : Int64) (h1 : key < 1073741789) (h2 : pub < 2 ^ 31) (h3 : base < 2147483579) (hSt : w 76 = .inr (2, [.int a, .int x, .int y])) : MW l yX3_state (.code yX3_state cX3_state 7 none) ({ frames := 3, cells := 0, slots := 0, locals := 98 }) [.ref (ad 76), .int (nI key), .int (nI pub), .int (nI base), .long M] D (tyL cI cJ cZ cD) ad 89 w sz none (fun u => u = va_up w 76 (.inr (2, [.int (nI (base ^ key % 2147483579)), .int (nI (saC key pub base M)), .int (nI (saZ key pub base M))]))) := by
  refine MW.of (by decide) (Nat.le_of_ble_eq_true rfl) ?_
  intro p e s m below meth c ls hC hr hlocks hl hw
  obtain ⟨hx, hb, hml, hown, hts⟩ := id hC
  have hA : ∀ q, s.heap.size ≤ q → xA ad 89 s.heap.size q := fun q h => Or.inr h
  have hl : lv_has ls 7 [(0, .ref (ad 76)), (1, .int (nI key)), (2, .int (nI pub)), (3, .int (nI base)), (4, .long M)] := hl
  have hw1 := saW_lt key M
  have hp1 := pw_lt base key (show 0 < 2147483579 by decide)
  have hp2 := pw_lt 4 (saW key M) (show 0 < 2147483579 by decide)
  have hp3 := pw_lt base (saW key M) (show 0 < 2147483579 by decide)
  have hc1 : saC key pub base M < 1073741789 := chF_lt _ _ _ _ _
  have hck := mul_lt60 hc1 h1
  refine lv_iload_n hx hb dX3_state_0 rfl (lv_at hl 1 rfl) ?_
  refine lv_i2l hx hb dX3_state_1 (nI_l (by omega)) ?_
  refine lv_lload hx hb dX3_state_2 (lv_at hl 4 rfl) ?_
  refine x_callS (As := [.long (lN key), .long M]) (rest := []) hC sf_X3_9 (k_hash l (lN key) M) ⟨rfl, rfl, Nat.le_of_ble_eq_true rfl, Nat.le_of_ble_eq_true rfl⟩ hl.1 (Nat.le_of_ble_eq_true rfl) dX3_state_4 ⟨Nat.zero_le _, Nat.zero_le _⟩ rfl ?_
  refine x_callS (As := [.long (stirF (stirF (lN 0) (lN key)) M)]) (rest := []) hC sf_X3_15 (k_toExponent l (stirF (stirF (lN 0) (lN key)) M)) ⟨rfl, rfl, Nat.le_of_ble_eq_true rfl, Nat.le_of_ble_eq_true rfl⟩ hl.1 (Nat.le_of_ble_eq_true rfl) dX3_state_7 ⟨Nat.zero_le _, Nat.zero_le _⟩ rfl ?_
  refine lv_istore (lv' := [(6, .int (nI (saW key M))), (0, .ref (ad 76)), (1, .int (nI key)), (2, .int (nI pub)), (3, .int (nI base)), (4, .long M)]) hx hb dX3_state_10 hl (by decide) rfl (fun ls hl => ?_)
  refine lv_aload_n hx hb dX3_state_12 rfl (lv_at hl 1 rfl) ?_
  refine lv_iload_n hx hb dX3_state_13 rfl (lv_at hl 4 rfl) ?_
  refine lv_iload_n hx hb dX3_state_14 rfl (lv_at hl 2 rfl) ?_
  refine x_callS (As := [.int (nI base), .int (nI key)]) (rest := [.ref (ad 76)]) hC sf_X3_19 (k_power l base key h3 (by omega)) ⟨rfl, rfl, Nat.le_of_ble_eq_true rfl, Nat.le_of_ble_eq_true rfl⟩ hl.1 (Nat.le_of_ble_eq_true rfl) dX3_state_15 ⟨Nat.zero_le _, Nat.zero_le _⟩ rfl ?_
  refine pf_X3_23 (v := .int (nI (base ^ key % 2147483579))) hx hb hts hown hw (by decide) hSt rfl rfl (Nat.le_of_ble_eq_true rfl) dX3_state_18 (fun w_1 H locs ew_2 hw => ?_)
  have hc_3 : w_1 76 = .inr (2, [.int (nI (base ^ key % 2147483579)), .int x, .int y]) := by rw [ew_2]; exact va_up_self _ _ _
  refine lv_aload_n hx hb dX3_state_21 rfl (lv_at hl 1 rfl) ?_
  refine lv_aload_n hx hb dX3_state_22 rfl (lv_at hl 1 rfl) ?_
  refine lv_iload_n hx hb dX3_state_23 rfl (lv_at hl 3 rfl) ?_
  refine lv_iload_n hx hb dX3_state_24 rfl (lv_at hl 4 rfl) ?_
  refine lv_iconst (v := nI 4) hx hb dX3_state_25 (by decide) ?_
  refine lv_iload hx hb dX3_state_26 (lv_at hl 0 rfl) ?_
  refine x_callS (As := [.int (nI 4), .int (nI (saW key M))]) (rest := [.int (nI base), .int (nI pub), .ref (ad 76), .ref (ad 76)]) hC sf_X3_19 (k_power l 4 (saW key M) (by decide) (by omega)) ⟨rfl, rfl, Nat.le_of_ble_eq_true rfl, Nat.le_of_ble_eq_true rfl⟩ hl.1 (Nat.le_of_ble_eq_true rfl) dX3_state_28 ⟨Nat.zero_le _, Nat.zero_le _⟩ rfl ?_
  refine lv_iload_n hx hb dX3_state_31 rfl (lv_at hl 4 rfl) ?_
  refine lv_iload hx hb dX3_state_32 (lv_at hl 0 rfl) ?_
  refine x_callS (As := [.int (nI base), .int (nI (saW key M))]) (rest := [.int (nI (4 ^ saW key M % 2147483579)), .int (nI base), .int (nI pub), .ref (ad 76), .ref (ad 76)]) hC sf_X3_19 (k_power l base (saW key M) h3 (by omega)) ⟨rfl, rfl, Nat.le_of_ble_eq_true rfl, Nat.le_of_ble_eq_true rfl⟩ hl.1 (Nat.le_of_ble_eq_true rfl) dX3_state_34 ⟨Nat.zero_le _, Nat.zero_le _⟩ rfl ?_
  refine x_callW1 (As := [.int (nI pub), .int (nI base), .int (nI (4 ^ saW key M % 2147483579)), .int (nI (base ^ saW key M % 2147483579))]) (rest := [.ref (ad 76)]) hC vf_X3_29 hw hA (by decide) hc_3 rfl rfl (k_challenge l (base ^ key % 2147483579) (by omega) _ _ pub base (4 ^ saW key M % 2147483579) (base ^ saW key M % 2147483579) h2 (by omega) (by omega) (by omega) hc_3) ⟨rfl, rfl, Nat.le_of_ble_eq_true rfl, Nat.le_of_ble_eq_true rfl⟩ hl.1 (Nat.le_of_ble_eq_true rfl) dX3_state_37 ⟨Nat.zero_le _, Nat.zero_le _⟩ rfl (fun w_4 H locs hu hw => ?_)
  rw [hu] at hw
  refine pf_X3_33 (v := .int (nI (saC key pub base M))) hx hb hts hown hw (by decide) hc_3 rfl rfl (Nat.le_of_ble_eq_true rfl) dX3_state_40 (fun w_5 H locs ew_6 hw => ?_)
  have hc_7 : w_5 76 = .inr (2, [.int (nI (base ^ key % 2147483579)), .int (nI (saC key pub base M)), .int y]) := by rw [ew_6]; exact va_up_self _ _ _
  refine lv_aload_n hx hb dX3_state_43 rfl (lv_at hl 1 rfl) ?_
  refine lv_aload_n hx hb dX3_state_44 rfl (lv_at hl 1 rfl) ?_
  refine gf_X3_33 hx hb hts hown hw (by decide) hc_7 rfl dX3_state_45 ?_
  refine lv_i2l hx hb dX3_state_48 (nI_l (by omega)) ?_
  refine lv_iload_n hx hb dX3_state_49 rfl (lv_at hl 2 rfl) ?_
  refine lv_i2l hx hb dX3_state_50 (nI_l (by omega)) ?_
  refine lv_lmul hx hb dX3_state_51 ?_
  rw [lN_mul]
  refine lv_iload hx hb dX3_state_52 (lv_at hl 0 rfl) ?_
  refine lv_i2l hx hb dX3_state_54 (nI_l (by omega)) ?_
  refine t_ladd hx hb dX3_state_55 (v := lN ((saC key pub base M) * key + (saW key M))) (lN_add _ _) ?_
  refine x_callS (As := [.long (lN ((saC key pub base M) * key + (saW key M)))]) (rest := [.ref (ad 76)]) hC sf_X3_15 (k_toExponent l (lN (saC key pub base M * key + saW key M))) ⟨rfl, rfl, Nat.le_of_ble_eq_true rfl, Nat.le_of_ble_eq_true rfl⟩ hl.1 (Nat.le_of_ble_eq_true rfl) dX3_state_56 ⟨Nat.zero_le _, Nat.zero_le _⟩ rfl ?_
  rw [show md (lN (saC key pub base M * key + saW key M)) 1073741789 = saZ key pub base M from md_nat (by omega)]
  refine pf_X3_36 (v := .int (nI (saZ key pub base M))) hx hb hts hown hw (by decide) hc_7 rfl rfl (Nat.le_of_ble_eq_true rfl) dX3_state_59 (fun w_8 H locs ew_9 hw => ?_)
  have hc_10 : w_8 76 = .inr (2, [.int (nI (base ^ key % 2147483579)), .int (nI (saC key pub base M)), .int (nI (saZ key pub base M))]) := by rw [ew_9]; exact va_up_self _ _ _
  exact x_wretV hx hb hr hlocks hw (by rw [ew_9, ew_6, ew_2, bx_uu, bx_uu] <;> rfl) dX3_state_62
set_option maxHeartbeats 4000000 in
set_option maxRecDepth 100000 in
theorem k_add_yes (l : Launch) {D : va_G} {cI cJ cZ cD : ClassId} {ad : Nat → Nat} {w : Nat → va_E} {sz : Nat} (a x y : Nat) (ha : a < 2147483648) (hx0 : x < 2147483648) (hy0 : y < 2147483648) (b1 b2 b3 : Int32) (a2 x2 y2 : Nat) (g1 : a2 < 2147483648) (g2 : x2 < 2147483648) (g3 : y2 < 2147483648) (e1 : (a : Int) + b1.toInt = a2) (e2 : (x : Int) + b2.toInt = x2) (e3 : (y : Int) + b3.toInt = y2) (hSt : w 76 = .inr (2, [.int (nI a), .int (nI x), .int (nI y)])) : MW l yX3_add (.code yX3_add cX3_add 4 (some .boolean)) ({ frames := 1, cells := 0, slots := 0, locals := 31 }) [.ref (ad 76), .int b1, .int b2, .int b3] D (tyL cI cJ cZ cD) ad 89 w sz (some (.int (nI 1))) (fun u => u = va_up w 76 (.inr (2, [.int (nI a2), .int (nI x2), .int (nI y2)]))) := by
  refine MW.of (by decide) (Nat.le_of_ble_eq_true rfl) ?_
  intro p e s m below meth c ls hC hr hlocks hl hw
  obtain ⟨hx, hb, hml, hown, hts⟩ := id hC
  have hA : ∀ q, s.heap.size ≤ q → xA ad 89 s.heap.size q := fun q h => Or.inr h
  have hl : lv_has ls 4 [(0, .ref (ad 76)), (1, .int b1), (2, .int b2), (3, .int b3)] := hl
  refine lv_aload_n hx hb dX3_add_0 rfl (lv_at hl 0 rfl) ?_
  refine gf_X3_23 hx hb hts hown hw (by decide) hSt rfl dX3_add_1 ?_
  refine lv_iload_n hx hb dX3_add_4 rfl (lv_at hl 1 rfl) ?_
  have hin : inr a b1 := ⟨by omega, by omega⟩
  refine x_callS (As := [.int (nI a), .int b1]) (rest := []) hC sf_X3_39 (k_canAdd l a b1 (by omega) (.isTrue hin)) ⟨rfl, rfl, Nat.le_of_ble_eq_true rfl, Nat.le_of_ble_eq_true rfl⟩ hl.1 (Nat.le_of_ble_eq_true rfl) dX3_add_5 ⟨Nat.zero_le _, Nat.zero_le _⟩ rfl ?_
  rw [if_pos hin]
  refine lv_if_eq (tgt := 33) hx hb dX3_add_8 (by decide) (fun q1 => absurd q1 (by decide)) (fun q1 => ?_)
  refine lv_aload_n hx hb dX3_add_11 rfl (lv_at hl 0 rfl) ?_
  refine gf_X3_33 hx hb hts hown hw (by decide) hSt rfl dX3_add_12 ?_
  refine lv_iload_n hx hb dX3_add_15 rfl (lv_at hl 2 rfl) ?_
  have hin : inr x b2 := ⟨by omega, by omega⟩
  refine x_callS (As := [.int (nI x), .int b2]) (rest := []) hC sf_X3_39 (k_canAdd l x b2 (by omega) (.isTrue hin)) ⟨rfl, rfl, Nat.le_of_ble_eq_true rfl, Nat.le_of_ble_eq_true rfl⟩ hl.1 (Nat.le_of_ble_eq_true rfl) dX3_add_16 ⟨Nat.zero_le _, Nat.zero_le _⟩ rfl ?_
  rw [if_pos hin]
  refine lv_if_eq (tgt := 33) hx hb dX3_add_19 (by decide) (fun q2 => absurd q2 (by decide)) (fun q2 => ?_)
  refine lv_aload_n hx hb dX3_add_22 rfl (lv_at hl 0 rfl) ?_
  refine gf_X3_36 hx hb hts hown hw (by decide) hSt rfl dX3_add_23 ?_
  refine lv_iload_n hx hb dX3_add_26 rfl (lv_at hl 3 rfl) ?_
  have hin : inr y b3 := ⟨by omega, by omega⟩
  refine x_callS (As := [.int (nI y), .int b3]) (rest := []) hC sf_X3_39 (k_canAdd l y b3 (by omega) (.isTrue hin)) ⟨rfl, rfl, Nat.le_of_ble_eq_true rfl, Nat.le_of_ble_eq_true rfl⟩ hl.1 (Nat.le_of_ble_eq_true rfl) dX3_add_27 ⟨Nat.zero_le _, Nat.zero_le _⟩ rfl ?_
  rw [if_pos hin]
  refine lv_if_ne (tgt := 35) hx hb dX3_add_30 (by decide) (fun q3 => ?_) (fun q3 => absurd q3 (by decide))
  refine lv_aload_n hx hb dX3_add_35 rfl (lv_at hl 0 rfl) ?_
  refine lv_dup hx hb dX3_add_36 rfl ?_
  refine gf_X3_23 hx hb hts hown hw (by decide) hSt rfl dX3_add_37 ?_
  refine lv_iload_n hx hb dX3_add_40 rfl (lv_at hl 1 rfl) ?_
  refine lv_iadd hx hb dX3_add_41 ?_
  rw [sumI (by omega) g1 e1]
  refine pf_X3_23 (v := .int (nI a2)) hx hb hts hown hw (by decide) hSt rfl rfl (Nat.le_of_ble_eq_true rfl) dX3_add_42 (fun w_1 H locs ew_2 hw => ?_)
  have hc_3 : w_1 76 = .inr (2, [.int (nI a2), .int (nI x), .int (nI y)]) := by rw [ew_2]; exact va_up_self _ _ _
  refine lv_aload_n hx hb dX3_add_45 rfl (lv_at hl 0 rfl) ?_
  refine lv_dup hx hb dX3_add_46 rfl ?_
  refine gf_X3_33 hx hb hts hown hw (by decide) hc_3 rfl dX3_add_47 ?_
  refine lv_iload_n hx hb dX3_add_50 rfl (lv_at hl 2 rfl) ?_
  refine lv_iadd hx hb dX3_add_51 ?_
  rw [sumI (by omega) g2 e2]
  refine pf_X3_33 (v := .int (nI x2)) hx hb hts hown hw (by decide) hc_3 rfl rfl (Nat.le_of_ble_eq_true rfl) dX3_add_52 (fun w_4 H locs ew_5 hw => ?_)
  have hc_6 : w_4 76 = .inr (2, [.int (nI a2), .int (nI x2), .int (nI y)]) := by rw [ew_5]; exact va_up_self _ _ _
  refine lv_aload_n hx hb dX3_add_55 rfl (lv_at hl 0 rfl) ?_
  refine lv_dup hx hb dX3_add_56 rfl ?_
  refine gf_X3_36 hx hb hts hown hw (by decide) hc_6 rfl dX3_add_57 ?_
  refine lv_iload_n hx hb dX3_add_60 rfl (lv_at hl 3 rfl) ?_
  refine lv_iadd hx hb dX3_add_61 ?_
  rw [sumI (by omega) g3 e3]
  refine pf_X3_36 (v := .int (nI y2)) hx hb hts hown hw (by decide) hc_6 rfl rfl (Nat.le_of_ble_eq_true rfl) dX3_add_62 (fun w_7 H locs ew_8 hw => ?_)
  have hc_9 : w_7 76 = .inr (2, [.int (nI a2), .int (nI x2), .int (nI y2)]) := by rw [ew_8]; exact va_up_self _ _ _
  refine lv_iconst (v := nI 1) hx hb dX3_add_65 (by decide) ?_
  exact x_wretZ hx hb hr hlocks (by decide) hw (by rw [ew_8, ew_5, ew_2, bx_uu, bx_uu] <;> rfl) dX3_add_66
set_option maxHeartbeats 4000000 in
set_option maxRecDepth 100000 in
theorem k_add_no (l : Launch) {D : va_G} {cI cJ cZ cD : ClassId} {ad : Nat → Nat} {w : Nat → va_E} {sz : Nat} (a x y : Nat) (ha : a < 2147483648) (hx0 : x < 2147483648) (hy0 : y < 2147483648) (b1 b2 b3 : Int32) (hno : ¬ (inr a b1 ∧ inr x b2 ∧ inr y b3)) (hSt : w 76 = .inr (2, [.int (nI a), .int (nI x), .int (nI y)])) : MW l yX3_add (.code yX3_add cX3_add 4 (some .boolean)) ({ frames := 1, cells := 0, slots := 0, locals := 31 }) [.ref (ad 76), .int b1, .int b2, .int b3] D (tyL cI cJ cZ cD) ad 89 w sz (some (.int (nI 0))) (fun u => u = w) := by
  refine MW.of (by decide) (Nat.le_of_ble_eq_true rfl) ?_
  intro p e s m below meth c ls hC hr hlocks hl hw
  obtain ⟨hx, hb, hml, hown, hts⟩ := id hC
  have hA : ∀ q, s.heap.size ≤ q → xA ad 89 s.heap.size q := fun q h => Or.inr h
  have hl : lv_has ls 4 [(0, .ref (ad 76)), (1, .int b1), (2, .int b2), (3, .int b3)] := hl
  by_cases c1 : inr a b1
  · skip
    refine lv_aload_n hx hb dX3_add_0 rfl (lv_at hl 0 rfl) ?_
    refine gf_X3_23 hx hb hts hown hw (by decide) hSt rfl dX3_add_1 ?_
    refine lv_iload_n hx hb dX3_add_4 rfl (lv_at hl 1 rfl) ?_
    have hin : inr a b1 := c1
    refine x_callS (As := [.int (nI a), .int b1]) (rest := []) hC sf_X3_39 (k_canAdd l a b1 (by omega) (.isTrue hin)) ⟨rfl, rfl, Nat.le_of_ble_eq_true rfl, Nat.le_of_ble_eq_true rfl⟩ hl.1 (Nat.le_of_ble_eq_true rfl) dX3_add_5 ⟨Nat.zero_le _, Nat.zero_le _⟩ rfl ?_
    rw [if_pos hin]
    refine lv_if_eq (tgt := 33) hx hb dX3_add_8 (by decide) (fun q1 => absurd q1 (by decide)) (fun q1 => ?_)
    by_cases c2 : inr x b2
    · skip
      refine lv_aload_n hx hb dX3_add_11 rfl (lv_at hl 0 rfl) ?_
      refine gf_X3_33 hx hb hts hown hw (by decide) hSt rfl dX3_add_12 ?_
      refine lv_iload_n hx hb dX3_add_15 rfl (lv_at hl 2 rfl) ?_
      have hin : inr x b2 := c2
      refine x_callS (As := [.int (nI x), .int b2]) (rest := []) hC sf_X3_39 (k_canAdd l x b2 (by omega) (.isTrue hin)) ⟨rfl, rfl, Nat.le_of_ble_eq_true rfl, Nat.le_of_ble_eq_true rfl⟩ hl.1 (Nat.le_of_ble_eq_true rfl) dX3_add_16 ⟨Nat.zero_le _, Nat.zero_le _⟩ rfl ?_
      rw [if_pos hin]
      refine lv_if_eq (tgt := 33) hx hb dX3_add_19 (by decide) (fun q2 => absurd q2 (by decide)) (fun q2 => ?_)
      refine lv_aload_n hx hb dX3_add_22 rfl (lv_at hl 0 rfl) ?_
      refine gf_X3_36 hx hb hts hown hw (by decide) hSt rfl dX3_add_23 ?_
      refine lv_iload_n hx hb dX3_add_26 rfl (lv_at hl 3 rfl) ?_
      have hin : ¬ inr y b3 := (fun q => hno ⟨c1, c2, q⟩)
      refine x_callS (As := [.int (nI y), .int b3]) (rest := []) hC sf_X3_39 (k_canAdd l y b3 (by omega) (.isFalse hin)) ⟨rfl, rfl, Nat.le_of_ble_eq_true rfl, Nat.le_of_ble_eq_true rfl⟩ hl.1 (Nat.le_of_ble_eq_true rfl) dX3_add_27 ⟨Nat.zero_le _, Nat.zero_le _⟩ rfl ?_
      rw [if_neg hin]
      refine lv_if_ne (tgt := 35) hx hb dX3_add_30 (by decide) (fun q3 => absurd (by decide) q3) (fun q3 => ?_)
      refine lv_iconst (v := nI 0) hx hb dX3_add_33 (by decide) ?_
      exact x_wretZ hx hb hr hlocks (by decide) hw rfl dX3_add_34
    · skip
      refine lv_aload_n hx hb dX3_add_11 rfl (lv_at hl 0 rfl) ?_
      refine gf_X3_33 hx hb hts hown hw (by decide) hSt rfl dX3_add_12 ?_
      refine lv_iload_n hx hb dX3_add_15 rfl (lv_at hl 2 rfl) ?_
      have hin : ¬ inr x b2 := c2
      refine x_callS (As := [.int (nI x), .int b2]) (rest := []) hC sf_X3_39 (k_canAdd l x b2 (by omega) (.isFalse hin)) ⟨rfl, rfl, Nat.le_of_ble_eq_true rfl, Nat.le_of_ble_eq_true rfl⟩ hl.1 (Nat.le_of_ble_eq_true rfl) dX3_add_16 ⟨Nat.zero_le _, Nat.zero_le _⟩ rfl ?_
      rw [if_neg hin]
      refine lv_if_eq (tgt := 33) hx hb dX3_add_19 (by decide) (fun q2 => ?_) (fun q2 => absurd (by decide) q2)
      refine lv_iconst (v := nI 0) hx hb dX3_add_33 (by decide) ?_
      exact x_wretZ hx hb hr hlocks (by decide) hw rfl dX3_add_34
  · skip
    refine lv_aload_n hx hb dX3_add_0 rfl (lv_at hl 0 rfl) ?_
    refine gf_X3_23 hx hb hts hown hw (by decide) hSt rfl dX3_add_1 ?_
    refine lv_iload_n hx hb dX3_add_4 rfl (lv_at hl 1 rfl) ?_
    have hin : ¬ inr a b1 := c1
    refine x_callS (As := [.int (nI a), .int b1]) (rest := []) hC sf_X3_39 (k_canAdd l a b1 (by omega) (.isFalse hin)) ⟨rfl, rfl, Nat.le_of_ble_eq_true rfl, Nat.le_of_ble_eq_true rfl⟩ hl.1 (Nat.le_of_ble_eq_true rfl) dX3_add_5 ⟨Nat.zero_le _, Nat.zero_le _⟩ rfl ?_
    rw [if_neg hin]
    refine lv_if_eq (tgt := 33) hx hb dX3_add_8 (by decide) (fun q1 => ?_) (fun q1 => absurd (by decide) q1)
    refine lv_iconst (v := nI 0) hx hb dX3_add_33 (by decide) ?_
    exact x_wretZ hx hb hr hlocks (by decide) hw rfl dX3_add_34
set_option maxHeartbeats 4000000 in
set_option maxRecDepth 100000 in
theorem k_holds_no (l : Launch) {D : va_G} {cI cJ cZ cD : ClassId} {ad : Nat → Nat} {w : Nat → va_E} {sz : Nat} (a x y : Nat) (ha : a < 2 ^ 31) (hx0 : x < 2 ^ 31) (hy0 : y < 2 ^ 31) (pub base : Nat) (h2 : pub < 2147483579) (h3 : base < 2147483579) (hno : ¬ (1 ≤ a ∧ a < 2147483579 ∧ a ^ 1073741789 % 2147483579 = 1 ∧ x < 1073741789 ∧ y < 1073741789)) (hSt : w 76 = .inr (2, [.int (nI a), .int (nI x), .int (nI y)])) : MW l yX3_holds (.code yX3_holds cX3_holds 5 (some .boolean)) ({ frames := 3, cells := 0, slots := 0, locals := 98 }) [.ref (ad 76), .int (nI pub), .int (nI base)] D (tyL cI cJ cZ cD) ad 89 w sz (some (.int (nI 0))) (fun u => u = w) := by
  refine MW.of (by decide) (Nat.le_of_ble_eq_true rfl) ?_
  intro p e s m below meth c ls hC hr hlocks hl hw
  obtain ⟨hx, hb, hml, hown, hts⟩ := id hC
  have hA : ∀ q, s.heap.size ≤ q → xA ad 89 s.heap.size q := fun q h => Or.inr h
  have hl : lv_has ls 5 [(0, .ref (ad 76)), (1, .int (nI pub)), (2, .int (nI base))] := hl
  by_cases c1 : 1 ≤ a ∧ a < 2147483579 ∧ a ^ 1073741789 % 2147483579 = 1
  · skip
    refine lv_aload_n hx hb dX3_holds_0 rfl (lv_at hl 0 rfl) ?_
    refine gf_X3_23 hx hb hts hown hw (by decide) hSt rfl dX3_holds_1 ?_
    refine x_callS (As := [.int (nI a)]) (rest := []) hC sf_X3_43 (k_isInGroup l a ha) ⟨rfl, rfl, Nat.le_of_ble_eq_true rfl, Nat.le_of_ble_eq_true rfl⟩ hl.1 (Nat.le_of_ble_eq_true rfl) dX3_holds_4 ⟨Nat.zero_le _, Nat.zero_le _⟩ rfl ?_
    rw [if_pos c1]
    refine lv_if_eq (tgt := 30) hx hb dX3_holds_7 (by decide) (fun q1 => absurd q1 (by decide)) (fun q1 => ?_)
    by_cases c2 : x < 1073741789
    · skip
      refine lv_aload_n hx hb dX3_holds_10 rfl (lv_at hl 0 rfl) ?_
      refine gf_X3_33 hx hb hts hown hw (by decide) hSt rfl dX3_holds_11 ?_
      refine x_callS (As := [.int (nI x)]) (rest := []) hC sf_X3_47 (k_isExponent l x (by omega)) ⟨rfl, rfl, Nat.le_of_ble_eq_true rfl, Nat.le_of_ble_eq_true rfl⟩ hl.1 (Nat.le_of_ble_eq_true rfl) dX3_holds_14 ⟨Nat.zero_le _, Nat.zero_le _⟩ rfl ?_
      refine lv_if_eq (tgt := 30) hx hb dX3_holds_17 (by decide) (fun q2 => absurd q2 (by decide)) (fun q2 => ?_)
      have c3 : ¬ y < 1073741789 := fun q => hno ⟨c1.1, c1.2.1, c1.2.2, c2, q⟩
      refine lv_aload_n hx hb dX3_holds_20 rfl (lv_at hl 0 rfl) ?_
      refine gf_X3_36 hx hb hts hown hw (by decide) hSt rfl dX3_holds_21 ?_
      refine x_callS (As := [.int (nI y)]) (rest := []) hC sf_X3_47 (k_isExponentN l (nI y) (Or.inr (nI_le (by omega) (by omega)))) ⟨rfl, rfl, Nat.le_of_ble_eq_true rfl, Nat.le_of_ble_eq_true rfl⟩ hl.1 (Nat.le_of_ble_eq_true rfl) dX3_holds_24 ⟨Nat.zero_le _, Nat.zero_le _⟩ rfl ?_
      refine lv_if_ne (tgt := 32) hx hb dX3_holds_27 (by decide) (fun q3 => absurd (by decide) q3) (fun q3 => ?_)
      refine lv_iconst (v := nI 0) hx hb dX3_holds_30 (by decide) ?_
      exact x_wretZ hx hb hr hlocks (by decide) hw rfl dX3_holds_31
    · skip
      refine lv_aload_n hx hb dX3_holds_10 rfl (lv_at hl 0 rfl) ?_
      refine gf_X3_33 hx hb hts hown hw (by decide) hSt rfl dX3_holds_11 ?_
      refine x_callS (As := [.int (nI x)]) (rest := []) hC sf_X3_47 (k_isExponentN l (nI x) (Or.inr (nI_le (by omega) (by omega)))) ⟨rfl, rfl, Nat.le_of_ble_eq_true rfl, Nat.le_of_ble_eq_true rfl⟩ hl.1 (Nat.le_of_ble_eq_true rfl) dX3_holds_14 ⟨Nat.zero_le _, Nat.zero_le _⟩ rfl ?_
      refine lv_if_eq (tgt := 30) hx hb dX3_holds_17 (by decide) (fun q2 => ?_) (fun q2 => absurd (by decide) q2)
      refine lv_iconst (v := nI 0) hx hb dX3_holds_30 (by decide) ?_
      exact x_wretZ hx hb hr hlocks (by decide) hw rfl dX3_holds_31
  · skip
    refine lv_aload_n hx hb dX3_holds_0 rfl (lv_at hl 0 rfl) ?_
    refine gf_X3_23 hx hb hts hown hw (by decide) hSt rfl dX3_holds_1 ?_
    refine x_callS (As := [.int (nI a)]) (rest := []) hC sf_X3_43 (k_isInGroup l a ha) ⟨rfl, rfl, Nat.le_of_ble_eq_true rfl, Nat.le_of_ble_eq_true rfl⟩ hl.1 (Nat.le_of_ble_eq_true rfl) dX3_holds_4 ⟨Nat.zero_le _, Nat.zero_le _⟩ rfl ?_
    rw [if_neg c1]
    refine lv_if_eq (tgt := 30) hx hb dX3_holds_7 (by decide) (fun q1 => ?_) (fun q1 => absurd (by decide) q1)
    refine lv_iconst (v := nI 0) hx hb dX3_holds_30 (by decide) ?_
    exact x_wretZ hx hb hr hlocks (by decide) hw rfl dX3_holds_31
set_option maxHeartbeats 4000000 in
set_option maxRecDepth 100000 in
theorem k_holds (l : Launch) {D : va_G} {cI cJ cZ cD : ClassId} {ad : Nat → Nat} {w : Nat → va_E} {sz : Nat} (a x y : Nat) (ha : a < 2 ^ 31) (hx0 : x < 2 ^ 31) (hy0 : y < 2 ^ 31) (pub base : Nat) (h2 : pub < 2147483579) (h3 : base < 2147483579) (g1 : 1 ≤ a) (g2 : a < 2147483579) (g3 : a ^ 1073741789 % 2147483579 = 1) (g4 : x < 1073741789) (g5 : y < 1073741789) (hSt : w 76 = .inr (2, [.int (nI a), .int (nI x), .int (nI y)])) : MW l yX3_holds (.code yX3_holds cX3_holds 5 (some .boolean)) ({ frames := 3, cells := 0, slots := 0, locals := 98 }) [.ref (ad 76), .int (nI pub), .int (nI base)] D (tyL cI cJ cZ cD) ad 89 w sz (some (.int (if x = chF base pub a (4 ^ y % 2147483579 * (pub ^ (1073741789 - x) % 2147483579) % 2147483579) (base ^ y % 2147483579 * (a ^ (1073741789 - x) % 2147483579) % 2147483579) then nI 1 else nI 0))) (fun u => u = w) := by
  refine MW.of (by decide) (Nat.le_of_ble_eq_true rfl) ?_
  intro p e s m below meth c ls hC hr hlocks hl hw
  obtain ⟨hx, hb, hml, hown, hts⟩ := id hC
  have hA : ∀ q, s.heap.size ≤ q → xA ad 89 s.heap.size q := fun q h => Or.inr h
  have hl : lv_has ls 5 [(0, .ref (ad 76)), (1, .int (nI pub)), (2, .int (nI base))] := hl
  have f1 := pw_lt 4 y (show 0 < 2147483579 by decide)
  have f2 := pw_lt pub (1073741789 - x) (show 0 < 2147483579 by decide)
  have f3 := pw_lt base y (show 0 < 2147483579 by decide)
  have f4 := pw_lt a (1073741789 - x) (show 0 < 2147483579 by decide)
  have f5 : 4 ^ y % 2147483579 * (pub ^ (1073741789 - x) % 2147483579) % 2147483579 < 2147483579 := Nat.mod_lt _ (by decide)
  have f6 : base ^ y % 2147483579 * (a ^ (1073741789 - x) % 2147483579) % 2147483579 < 2147483579 := Nat.mod_lt _ (by decide)
  have f7 := chF_lt base pub a (4 ^ y % 2147483579 * (pub ^ (1073741789 - x) % 2147483579) % 2147483579) (base ^ y % 2147483579 * (a ^ (1073741789 - x) % 2147483579) % 2147483579)
  have hgrp : 1 ≤ a ∧ a < 2147483579 ∧ a ^ 1073741789 % 2147483579 = 1 := ⟨g1, g2, g3⟩
  refine lv_aload_n hx hb dX3_holds_0 rfl (lv_at hl 0 rfl) ?_
  refine gf_X3_23 hx hb hts hown hw (by decide) hSt rfl dX3_holds_1 ?_
  refine x_callS (As := [.int (nI a)]) (rest := []) hC sf_X3_43 (k_isInGroup l a ha) ⟨rfl, rfl, Nat.le_of_ble_eq_true rfl, Nat.le_of_ble_eq_true rfl⟩ hl.1 (Nat.le_of_ble_eq_true rfl) dX3_holds_4 ⟨Nat.zero_le _, Nat.zero_le _⟩ rfl ?_
  rw [if_pos hgrp]
  refine lv_if_eq (tgt := 30) hx hb dX3_holds_7 (by decide) (fun q1 => absurd q1 (by decide)) (fun q1 => ?_)
  refine lv_aload_n hx hb dX3_holds_10 rfl (lv_at hl 0 rfl) ?_
  refine gf_X3_33 hx hb hts hown hw (by decide) hSt rfl dX3_holds_11 ?_
  refine x_callS (As := [.int (nI x)]) (rest := []) hC sf_X3_47 (k_isExponent l x (by omega)) ⟨rfl, rfl, Nat.le_of_ble_eq_true rfl, Nat.le_of_ble_eq_true rfl⟩ hl.1 (Nat.le_of_ble_eq_true rfl) dX3_holds_14 ⟨Nat.zero_le _, Nat.zero_le _⟩ rfl ?_
  refine lv_if_eq (tgt := 30) hx hb dX3_holds_17 (by decide) (fun q2 => absurd q2 (by decide)) (fun q2 => ?_)
  refine lv_aload_n hx hb dX3_holds_20 rfl (lv_at hl 0 rfl) ?_
  refine gf_X3_36 hx hb hts hown hw (by decide) hSt rfl dX3_holds_21 ?_
  refine x_callS (As := [.int (nI y)]) (rest := []) hC sf_X3_47 (k_isExponent l y (by omega)) ⟨rfl, rfl, Nat.le_of_ble_eq_true rfl, Nat.le_of_ble_eq_true rfl⟩ hl.1 (Nat.le_of_ble_eq_true rfl) dX3_holds_24 ⟨Nat.zero_le _, Nat.zero_le _⟩ rfl ?_
  refine lv_if_ne (tgt := 32) hx hb dX3_holds_27 (by decide) (fun q3 => ?_) (fun q3 => absurd q3 (by decide))
  refine lv_iconst (v := nI 4) hx hb dX3_holds_32 (by decide) ?_
  refine lv_aload_n hx hb dX3_holds_33 rfl (lv_at hl 0 rfl) ?_
  refine gf_X3_36 hx hb hts hown hw (by decide) hSt rfl dX3_holds_34 ?_
  refine x_callS (As := [.int (nI 4), .int (nI y)]) (rest := []) hC sf_X3_19 (k_power l 4 y (by decide) hy0) ⟨rfl, rfl, Nat.le_of_ble_eq_true rfl, Nat.le_of_ble_eq_true rfl⟩ hl.1 (Nat.le_of_ble_eq_true rfl) dX3_holds_37 ⟨Nat.zero_le _, Nat.zero_le _⟩ rfl ?_
  refine lv_iload_n hx hb dX3_holds_40 rfl (lv_at hl 1 rfl) ?_
  refine lv_aload_n hx hb dX3_holds_41 rfl (lv_at hl 0 rfl) ?_
  refine gf_X3_33 hx hb hts hown hw (by decide) hSt rfl dX3_holds_42 ?_
  refine x_callS (As := [.int (nI pub), .int (nI x)]) (rest := [.int (nI (4 ^ y % 2147483579))]) hC sf_X3_50 (k_powerBelow l pub x h2 (by omega)) ⟨rfl, rfl, Nat.le_of_ble_eq_true rfl, Nat.le_of_ble_eq_true rfl⟩ hl.1 (Nat.le_of_ble_eq_true rfl) dX3_holds_45 ⟨Nat.zero_le _, Nat.zero_le _⟩ rfl ?_
  refine x_callS (As := [.int (nI (4 ^ y % 2147483579)), .int (nI (pub ^ (1073741789 - x) % 2147483579))]) (rest := []) hC sf_X3_53 (k_times l (4 ^ y % 2147483579) (pub ^ (1073741789 - x) % 2147483579) (by omega) (by omega)) ⟨rfl, rfl, Nat.le_of_ble_eq_true rfl, Nat.le_of_ble_eq_true rfl⟩ hl.1 (Nat.le_of_ble_eq_true rfl) dX3_holds_48 ⟨Nat.zero_le _, Nat.zero_le _⟩ rfl ?_
  refine lv_istore_n (lv' := [(3, .int (nI (4 ^ y % 2147483579 * (pub ^ (1073741789 - x) % 2147483579) % 2147483579))), (0, .ref (ad 76)), (1, .int (nI pub)), (2, .int (nI base))]) hx hb dX3_holds_51 rfl hl (by decide) rfl (fun ls hl => ?_)
  refine lv_iload_n hx hb dX3_holds_52 rfl (lv_at hl 3 rfl) ?_
  refine lv_aload_n hx hb dX3_holds_53 rfl (lv_at hl 1 rfl) ?_
  refine gf_X3_36 hx hb hts hown hw (by decide) hSt rfl dX3_holds_54 ?_
  refine x_callS (As := [.int (nI base), .int (nI y)]) (rest := []) hC sf_X3_19 (k_power l base y h3 hy0) ⟨rfl, rfl, Nat.le_of_ble_eq_true rfl, Nat.le_of_ble_eq_true rfl⟩ hl.1 (Nat.le_of_ble_eq_true rfl) dX3_holds_57 ⟨Nat.zero_le _, Nat.zero_le _⟩ rfl ?_
  refine lv_aload_n hx hb dX3_holds_60 rfl (lv_at hl 1 rfl) ?_
  refine gf_X3_23 hx hb hts hown hw (by decide) hSt rfl dX3_holds_61 ?_
  refine lv_aload_n hx hb dX3_holds_64 rfl (lv_at hl 1 rfl) ?_
  refine gf_X3_33 hx hb hts hown hw (by decide) hSt rfl dX3_holds_65 ?_
  refine x_callS (As := [.int (nI a), .int (nI x)]) (rest := [.int (nI (base ^ y % 2147483579))]) hC sf_X3_50 (k_powerBelow l a x g2 (by omega)) ⟨rfl, rfl, Nat.le_of_ble_eq_true rfl, Nat.le_of_ble_eq_true rfl⟩ hl.1 (Nat.le_of_ble_eq_true rfl) dX3_holds_68 ⟨Nat.zero_le _, Nat.zero_le _⟩ rfl ?_
  refine x_callS (As := [.int (nI (base ^ y % 2147483579)), .int (nI (a ^ (1073741789 - x) % 2147483579))]) (rest := []) hC sf_X3_53 (k_times l (base ^ y % 2147483579) (a ^ (1073741789 - x) % 2147483579) (by omega) (by omega)) ⟨rfl, rfl, Nat.le_of_ble_eq_true rfl, Nat.le_of_ble_eq_true rfl⟩ hl.1 (Nat.le_of_ble_eq_true rfl) dX3_holds_71 ⟨Nat.zero_le _, Nat.zero_le _⟩ rfl ?_
  refine lv_istore (lv' := [(4, .int (nI (base ^ y % 2147483579 * (a ^ (1073741789 - x) % 2147483579) % 2147483579))), (3, .int (nI (4 ^ y % 2147483579 * (pub ^ (1073741789 - x) % 2147483579) % 2147483579))), (0, .ref (ad 76)), (1, .int (nI pub)), (2, .int (nI base))]) hx hb dX3_holds_74 hl (by decide) rfl (fun ls hl => ?_)
  refine lv_aload_n hx hb dX3_holds_76 rfl (lv_at hl 2 rfl) ?_
  refine gf_X3_33 hx hb hts hown hw (by decide) hSt rfl dX3_holds_77 ?_
  refine lv_aload_n hx hb dX3_holds_80 rfl (lv_at hl 2 rfl) ?_
  refine lv_iload_n hx hb dX3_holds_81 rfl (lv_at hl 3 rfl) ?_
  refine lv_iload_n hx hb dX3_holds_82 rfl (lv_at hl 4 rfl) ?_
  refine lv_iload_n hx hb dX3_holds_83 rfl (lv_at hl 1 rfl) ?_
  refine lv_iload hx hb dX3_holds_84 (lv_at hl 0 rfl) ?_
  refine x_callW1 (As := [.int (nI pub), .int (nI base), .int (nI (4 ^ y % 2147483579 * (pub ^ (1073741789 - x) % 2147483579) % 2147483579)), .int (nI (base ^ y % 2147483579 * (a ^ (1073741789 - x) % 2147483579) % 2147483579))]) (rest := [.int (nI x)]) hC vf_X3_29 hw hA (by decide) hSt rfl rfl (k_challenge l a ha _ _ pub base _ _ (by omega) (by omega) (by omega) (by omega) hSt) ⟨rfl, rfl, Nat.le_of_ble_eq_true rfl, Nat.le_of_ble_eq_true rfl⟩ hl.1 (Nat.le_of_ble_eq_true rfl) dX3_holds_86 ⟨Nat.zero_le _, Nat.zero_le _⟩ rfl (fun w_1 H locs hu hw => ?_)
  rw [hu] at hw
  refine lv_icmp_ne (tgt := 96) hx hb dX3_holds_89 (by decide) (fun q4 => ?_) (fun q4 => ?_)
  · rw [nI_eq (by omega) (by omega)] at q4
    rw [if_neg q4]
    refine lv_iconst (v := nI 0) hx hb dX3_holds_96 (by decide) ?_
    exact x_wretZ hx hb hr hlocks (by decide) hw rfl dX3_holds_97
  · rw [nI_eq (by omega) (by omega)] at q4
    rw [if_pos q4]
    refine lv_iconst (v := nI 1) hx hb dX3_holds_92 (by decide) ?_
    refine lv_goto (tgt := 97) hx hb dX3_holds_93 (by decide) ?_
    exact x_wretZ hx hb hr hlocks (by decide) hw rfl dX3_holds_97
end
section
/-! methods that throw: they leave the world as it was; one cell of six slots comes -/
def exs : List String := ["java/lang/IllegalArgumentException", "java/lang/IllegalStateException", "java/lang/UnsupportedOperationException"]
def ups : List String := ["java/lang/RuntimeException", "java/lang/Exception", "java/lang/Throwable"]
def strs : List (Nat × String) := [(39, "n is not 1 .. 16, or t not 1 .. n"), (74, "the node has dealt"), (91, "j is not 0 .. t - 1"), (114, "there is no such complaint"), (122, "nobody would be qualified"), (156, "what is not 0 .. 3"), (183, "they are not t nodes whose parts are kept"), (188, "less than t parts are kept"), (192, "300 rounds ended"), (220, "what is not 0 .. 7"), (222, "there is no such node"), (227, "the number is not 0 .. q - 1"), (229, "what is none of those told"), (231, "the dealer has not dealt"), (233, "all is closed"), (235, "it is not closed"), (237, "a round is not below 0"), (239, "the round has not ended")]
def TX (sa : Nat → Nat) (A : Nat → Prop) (U : State) : Prop :=
  vx_Zq Jvm.Bundle.tN "UNASSIGNED_STACK" Jvm.Bundle.steD A U U.heap ∧ vx_Zq Jvm.Bundle.tN "SUPPRESSED_SENTINEL" Jvm.Bundle.listD A U U.heap ∧ (∀ q ∈ strs, vk_R RX4 q.1 q.2 (sa q.1) U) ∧ (∀ E ∈ exs, va_Nw (.castable E E) U) ∧ ∀ Y ∈ ups, va_Nw (.declares ⟨Y, "<init>", "(Ljava/lang/String;)V"⟩) U
theorem TX.calling {sa : Nat → Nat} {A : Nat → Prop} {U : State} {g : JFrame} {mk : MethodId} {a : Array Value} (h : TX sa A U) : TX sa A (U.calling g mk a) :=
  ⟨vx_Zq.moved (u := U) (U := U.calling g mk a) (Vm.Alike.refl U.vm) h.1, vx_Zq.moved (u := U) (U := U.calling g mk a) (Vm.Alike.refl U.vm) h.2.1, fun q hq => vk_R.same (u := U) rfl (h.2.2.1 q hq), fun E hE => va_Nw.same rfl (u := U) rfl (h.2.2.2.1 E hE), fun Y hY => va_Nw.same rfl (u := U) rfl (h.2.2.2.2 Y hY)⟩
theorem TX.to {sa : Nat → Nat} {A B : Nat → Prop} {s U : State} {H : Heap} (h : TX sa A s) (hW : s.WarmedH U.vm) (hU : U.heap = H) (hk : ∀ a, a < s.heap.size → ¬ A a → H[a]? = s.heap[a]?) (hAB : ∀ q, B q → A q) : TX sa B U := by
  subst hU
  exact ⟨((vx_Zq.moved hW.alike h.1).kept hk).narrow hAB, ((vx_Zq.moved hW.alike h.2.1).kept hk).narrow hAB, fun q hq => vk_R.warm hW (h.2.2.1 q hq), fun E hE => va_Nw.warmC hW (h.2.2.2.1 E hE), fun Y hY => va_Nw.warmD hW (h.2.2.2.2 Y hY)⟩
def XW (D : va_G) (tys : List (ClassId × FieldType)) (ad : Nat → Nat) (N : Nat) (w : Nat → va_E) (sz : Nat) (E0 : String) : String → State → State → Prop := fun E st t =>
  E = E0 ∧ va_P D vwCl (wl ad N w) t.heap ∧ va_K D vwCl tys t ∧ va_F (xA ad N sz) st t
def MT (l : Launch) (y : MethodName) (k : Cond) (rm : Room) (av : List Value) (D : va_G) (tys : List (ClassId × FieldType)) (ad : Nat → Nat) (N : Nat) (w : Nat → va_E) (sz : Nat) (sa : Nat → Nat) (E0 : String) : Prop :=
  vx_Met l y (wq k) rm (va_Pc av (fun U => cP D tys ad N w sz U ∧ TX sa (xA ad N sz) U)) (fun _ _ _ _ => False) (XW D tys ad N w sz E0) 1 6 (xA ad N sz)
theorem MT.of {l : Launch} {y : MethodName} {bytes : ByteArray} {maxL : Nat} {ret : Option FieldType} {rm : Room} {av : List Value} {D : va_G} {tys : List (ClassId × FieldType)} {ad : Nat → Nat} {N : Nat} {w : Nat → va_E} {sz : Nat} {sa : Nat → Nat} {E0 : String} (hy : plainName y.cls = true) (hav : (lg_sl av).length ≤ maxL)
    (body : ∀ (p : Program) (e : Env) (s : State) (m : MethodId) (below : List Frame) (meth : Method) (c : Code) (ls : Array Slot), CallFix p m c bytes maxL s av.toArray wsL_law y.cls → meth.locks = false → (∀ x ∈ c.exceptionTable.toList, False) → lv_has ls maxL (lv_args 0 av) → WW D vwCl tys (xA ad N s.heap.size) s.heap ad N w s s.heap [] → TX sa (xA ad N s.heap.size) s →
      W p l e rm s m av.toArray below meth c s.heap [] 0 0 (vx_MQ below (fun _ _ _ _ => False) (XW D tys ad N w s.heap.size E0) av.toArray s 1 6 (xA ad N s.heap.size)) (F0 m 0 ls [])) : MT l y (.code y bytes maxL ret) rm av D tys ad N w sz sa E0 := by
  refine vx_ofW (cc := bytes) (maxL := maxL) (ret := ret) hy rfl ?_
  intro p e s m args below meth c s₁ B hml htab hv
  obtain ⟨rfl, ⟨rfl, hP, hK, hD⟩, hT⟩ := hv
  rw [lg_entry_eq]
  exact body p e s m below meth c _ ⟨B.exec, B.bytes, hml, findClass_of_methodNamed B.named, fun w hw => atoms_spec (ws := wq (.code y bytes maxL ret)) B.pre w (List.mem_cons_of_mem _ hw)⟩ B.notSynchronized htab (lv_entry av hav) ⟨hK, hP, wl_DA hD, va_S.rf⟩ hT
section XT
variable {p : Program} {l : Launch} {e : Env} {R : Room} {s : State} {m : MethodId} {args : Array Value} {below : List Frame} {meth : Method} {c : Code} {H : Heap} {locs : List Loc} {cells slots : Nat} {Q : State → Prop}
variable {y : MethodName} {bytes cc : ByteArray} {maxL nL index : Nat} {ret : Option FieldType} {rm : Room} {own : String} {As rest : List Value} {pc : Nat} {ls : Array Slot}
variable {D : va_G} {tys : List (ClassId × FieldType)} {A : Nat → Prop} {H0 : Heap} {ad : Nat → Nat} {N : Nat} {w u : Nat → va_E} {sa : Nat → Nat} {E0 : String}
theorem x_XW (hw : WW D vwCl tys (xA ad N s.heap.size) s.heap ad N w s H locs) {t : State} (hal : s.vm.Alike t.vm) (hz : H.size ≤ t.heap.size) (hk : ∀ q, q < H.size → t.heap[q]? = H[q]?) : XW D tys ad N w s.heap.size E0 E0 s t :=
  ⟨rfl, hw.2.1.kept (fun k q hk' => hk q.1 (hw.2.1 k q hk').lt), va_K.moved hal hw.1, Nat.le_trans hw.2.2.2.1 hz, fun q h1 h2 => by rw [hk q (Nat.lt_of_lt_of_le h1 hw.2.2.2.1)]; exact hw.2.2.2.2.1 q h1 h2⟩
theorem x_sub (hw : WW D vwCl tys A H0 ad N w s H locs) (hA : ∀ q, H0.size ≤ q → A q) : ∀ q, xA ad N H.size q → A q := by
  intro q hq
  rcases hq with ⟨k, hk, rfl⟩ | hq
  · exact hw.2.2.1.2 k _ (wl_get hk rfl)
  · exact hA q (Nat.le_trans hw.2.2.2.1 hq)
/-- an instance call of a method that throws: its frame stands, with the exception over it -/
theorem x_runT (S : CallFix p m c cc nL s args wsL_law own) (hF : VF own index y bytes maxL ret As.length) (hw : WW D vwCl tys A s.heap ad N w s H locs) (hA : ∀ q, s.heap.size ≤ q → A q) (hT : TX sa A s) {k0 ci : Nat} {fs : List Value} {rC : vw_C} (hk0 : k0 < N) (he : w k0 = .inr (ci, fs)) (hc : vwCl[ci]? = some rC) (hcls : rC.1 = y.cls) (hM : MT l y (.code y bytes maxL ret) rm (.ref (ad k0) :: As) D tys ad N w H.size sa E0) (hR : RF R rm 1 6 maxL) (hsize : ls.size = nL) (hW : (rest.map fun v => v.category).sum ≤ 16) (hdg : decode cc pc = .ok (.invokevirtual index, 3)) (hf : cells + 1 ≤ R.cells ∧ slots + 6 ≤ R.slots) {st0 : List Value} (hst : st0 = As.reverse ++ .ref (ad k0) :: rest) :
    ∀ T : State, T.heap = H → Stand p l e R s m args below meth c T locs cells slots → ∃ (q : Addr) (T' : State) (L : List Loc) (ce : Cell), Stand p l e R s m args below meth c T' (locs ++ L) (cells + 1) (slots + 6) ∧ WW D vwCl tys A s.heap ad N w s T'.heap (locs ++ L) ∧ T'.heap[q]? = some ce ∧ ce.vm = .none ∧ s.vm.findClass E0 = some ce.cls ∧
      Steps p.tables e below (T.setTop (F0 m pc ls st0)) ((T'.setTop (F0 m pc ls rest)).pushFrame (.throwing q)) := by
  subst hst
  obtain ⟨hx, hb, hml, ho, hts⟩ := S
  obtain ⟨k1, k2, k3, k4, k5, hy, hd⟩ := hF
  obtain ⟨hrc, hrs, hfr, hlo⟩ := hR
  have hsub := x_sub hw hA
  have hbl : FrameBlind (va_Pc (.ref (ad k0) :: As) (fun U => cP D tys ad N w H.size U ∧ TX sa (xA ad N H.size) U)) := fun a U g mk q => ⟨q.1, ⟨q.2.1.1, q.2.1.2.1, va_K.moved (u := U) (U := U.calling g mk a) (Vm.Alike.refl U.vm) q.2.1.2.2.1, q.2.1.2.2.2⟩, q.2.2.calling⟩
  have hK := vx_back (bytes := bytes) (maxL := maxL) (ret := ret) (len := 3) (W9 := 16) (R := R) (p := p) (e := e) (below := below) (s := s) (sargs := args) hM hbl hrc hrs hfr hlo (wq_ride hts k1) List.mem_cons_self (ini_ride (hts _ k2))
  obtain ⟨cellB, hcB, hoB, hclB⟩ := va_recv hw.1 hw.2.1 hc (wl_get hk0 he)
  rw [hcls] at hclB
  intro T hTH X
  rcases vx_callV X hx (C := y.cls) (bytes := bytes) (maxL := maxL) (ret := ret) ho (hts _ k3) (hts _ k4) (hts _ k5) (hts _ k1) hy hK (by rw [hTH]; exact hcB) hoB hclB (g := F0 m pc ls (As.reverse ++ .ref (ad k0) :: rest)) rfl (hsize.trans hml.symm) (argsL := As) (rest := rest) (desc_len hd) rfl (by show 2 * 0 + _ ≤ 16; omega) (by rw [hb]; exact hdg)
    (fun vm₁ hW₁ => ⟨hf.1, hf.2, rfl, ⟨by show T.heap.size = _; rw [hTH], by show va_P _ _ _ T.heap; rw [hTH]; exact hw.2.1, va_K.moved (U := T.setVm vm₁) hW₁.alike hw.1, hw.2.2.1.weaken (fun _ _ _ _ => trivial)⟩, hT.to (U := T.setVm vm₁) hW₁ (show T.heap = H from hTH) (fun a h1 h2 => hw.2.2.2.2.1 a h1 h2) hsub⟩) with ⟨v, vm₁, ⟨U', l2, c2, s2⟩, hW₁, X', ⟨g', mk, t, L, e1, e2, hq, h1, hL, h2, h3⟩, st⟩ | ⟨q, vm₁, ⟨U', l2, c2, s2⟩, hW₁, X', ⟨g', mk, t, L, E, ce, e1, e2, hq, hce, hcv, hcl, h1, hL, h2, h3⟩, st⟩
  · exact hq.elim
  · dsimp only [Pt.U, Pt.locs, Pt.cells, Pt.slots] at X' e1 e2 h1 h2 h3 st hcl
    subst h1; subst h2; subst h3
    obtain ⟨rfl, hP, hKt, hz, hk⟩ := hq
    have hz' : H.size ≤ t.heap.size := by rw [← hTH]; exact hz
    have hk' : ∀ q : Nat, q < H.size → ¬ xA ad N H.size q → t.heap[q]? = H[q]? := by
      intro q h1 h2
      rw [← hTH] at h1 ⊢
      exact hk q h1 h2
    refine ⟨q, U', L, ce, X', ⟨hw.1, by rw [e1]; exact hP, hw.2.2.1, Nat.le_trans hw.2.2.2.1 (by rw [e1]; exact hz'), fun z h1 h2 => ?_, fun z hz9 => ?_⟩, by rw [e1]; exact hce, hcv, vx_cls hW₁ hcl, st⟩
    · rw [e1, hk' z (Nat.lt_of_lt_of_le h1 hw.2.2.2.1) (fun q9 => h2 (hsub z q9))]
      exact hw.2.2.2.2.1 z h1 h2
    · rcases List.mem_append.mp hz9 with h | h
      · exact hw.2.2.2.2.2 z h
      · exact hsub _ (hL z h)
/-- it goes on to the caller -/
theorem x_prop (S : CallFix p m c cc nL s args wsL_law own) (hF : VF own index y bytes maxL ret As.length) (hlocks : meth.locks = false) (htab : ∀ x ∈ c.exceptionTable.toList, False) (hw : WW D vwCl tys (xA ad N s.heap.size) s.heap ad N w s H locs) (hT : TX sa (xA ad N s.heap.size) s) {k0 ci : Nat} {fs : List Value} {rC : vw_C} (hk0 : k0 < N) (he : w k0 = .inr (ci, fs)) (hc : vwCl[ci]? = some rC) (hcls : rC.1 = y.cls) (hM : MT l y (.code y bytes maxL ret) rm (.ref (ad k0) :: As) D tys ad N w H.size sa E0) (hR : RF R rm 1 6 maxL) (hsize : ls.size = nL) (hW : (rest.map fun v => v.category).sum ≤ 16) (hdg : decode cc pc = .ok (.invokevirtual index, 3)) (hf : 1 ≤ R.cells ∧ 6 ≤ R.slots) {st0 : List Value} (hst : st0 = As.reverse ++ .ref (ad k0) :: rest) :
    W p l e R s m args below meth c H locs 0 0 (vx_MQ below (fun _ _ _ _ => False) (XW D tys ad N w s.heap.size E0) args s 1 6 (xA ad N s.heap.size)) (F0 m pc ls st0) := by
  intro T hTH X
  obtain ⟨q, T', L, ce, X', hw', hce, hcv, hcl, st⟩ := x_runT S hF hw (fun q h => Or.inr h) hT hk0 he hc hcls hM hR hsize hW hdg (cells := 0) (slots := 0) ⟨by omega, by omega⟩ hst T hTH X
  obtain ⟨t2, a1, b1⟩ := vx_out (Qc := fun _ _ _ _ => False) (XC := XW D tys ad N w s.heap.size E0) (mc := 1) (ms := 6) (free := xA ad N s.heap.size) (ls := ls) (rest := rest) (pc := pc) (fun x hx => (htab x hx).elim) hlocks hce hcv hcl (fun t ht hal => x_XW hw' hal (by rw [ht]; exact Nat.le_refl _) (fun q _ => by rw [ht])) hw'.2.2.2.2.2 (by omega) (by omega) T' rfl X'
  exact ⟨t2, st.trans a1, b1⟩
end XT
theorem at_IAE : ∀ w ∈ (vx_atS RX4 41 "java/lang/IllegalArgumentException" ["java/lang/RuntimeException", "java/lang/Exception"]).filter goodWord, w ∈ wsL_law := fun w h => by
  unfold wsL_law
  simp only [List.mem_append]
  exact Or.inl (Or.inl (Or.inr h))
theorem x_throwIAE {p : Program} {l : Launch} {e : Env} {R : Room} {s : State} {m : MethodId} {args : Array Value} {below : List Frame} {meth : Method} {c : Code} {H : Heap} {locs : List Loc} {cc : ByteArray} {nL : Nat} {rest : List Value} {pc : Nat} {ls : Array Slot} {D : va_G} {tys : List (ClassId × FieldType)} {ad : Nat → Nat} {N : Nat} {w : Nat → va_E} {sa : Nat → Nat} {is : Nat} {text : String}
    (hl0 : l.stackTraces = false) (S : CallFix p m c cc nL s args wsL_law RX4) (hlocks : meth.locks = false) (htab : ∀ x ∈ c.exceptionTable.toList, False) (hw : WW D vwCl tys (xA ad N s.heap.size) s.heap ad N w s H locs) (hT : TX sa (xA ad N s.heap.size) s) (hq : (is, text) ∈ strs) (hsize : ls.size = nL)
    (d0 : decode cc pc = .ok (.new 37, 3)) (d3 : decode cc (pc + 3) = .ok (.dup, 1)) (d4 : decode cc (pc + 4) = .ok (.ldc is, 2)) (d6 : decode cc (pc + 6) = .ok (.invokespecial 41, 3)) (d9 : decode cc (pc + 9) = .ok (.athrow, 1))
    (hRf : 5 < R.frames) (hRl : (rest.map fun v => v.category).sum + 82 ≤ R.locals) (hRc : 1 ≤ R.cells ∧ 6 ≤ R.slots) :
    W p l e R s m args below meth c H locs 0 0 (vx_MQ below (fun _ _ _ _ => False) (XW D tys ad N w s.heap.size "java/lang/IllegalArgumentException") args s 1 6 (xA ad N s.heap.size)) (F0 m pc ls rest) := by
  obtain ⟨hx, hb, hml, hown, hts⟩ := S
  refine vx_throwS (names := ["java/lang/RuntimeException", "java/lang/Exception"]) (A := xA ad N s.heap.size) (sa := sa is) hx hb hl0 hown (by decide +kernel) (by decide +kernel) (hts (.classLink RX4 37 "java/lang/IllegalArgumentException") (List.mem_of_getElem? (i := 79) (by decide +kernel))) (hts (.initialized "java/lang/IllegalArgumentException") (List.mem_of_getElem? (i := 80) (by decide +kernel))) (hT.2.2.1 (is, text) hq)
    (vx_hat (L := vx_atS RX4 41 "java/lang/IllegalArgumentException" ["java/lang/RuntimeException", "java/lang/Exception"]) (B := [.castable "java/lang/IllegalArgumentException" "java/lang/IllegalArgumentException", .declares ⟨"java/lang/RuntimeException", "<init>", "(Ljava/lang/String;)V"⟩, .declares ⟨"java/lang/Exception", "<init>", "(Ljava/lang/String;)V"⟩, .declares ⟨"java/lang/Throwable", "<init>", "(Ljava/lang/String;)V"⟩]) (fun w h => hts w (at_IAE w h)) (by decide +kernel) (vx_c (va_Nw.use rfl (hT.2.2.2.1 _ (by decide))) (vx_c (va_Nw.use rfl (hT.2.2.2.2 _ (by decide))) (vx_c (va_Nw.use rfl (hT.2.2.2.2 _ (by decide))) (vx_c (va_Nw.use rfl (hT.2.2.2.2 _ (by decide))) vx_n)))))
    (by decide +kernel) hT.1 hT.2.1 hw.2.2.2 (hsize.trans hml.symm) d0 d3 d4 d6 d9 (fun x hx => (htab x hx).elim) hRf (by simpa using hRl) (by omega) (by omega) hlocks (fun t hal hz hk => x_XW hw hal hz hk) hw.2.2.2.2.2 (by omega) (by omega)
theorem at_ISE : ∀ w ∈ (vx_atS RX4 76 "java/lang/IllegalStateException" ["java/lang/RuntimeException", "java/lang/Exception"]).filter goodWord, w ∈ wsL_law := fun w h => by
  unfold wsL_law
  simp only [List.mem_append]
  exact Or.inl (Or.inr h)
theorem x_throwISE {p : Program} {l : Launch} {e : Env} {R : Room} {s : State} {m : MethodId} {args : Array Value} {below : List Frame} {meth : Method} {c : Code} {H : Heap} {locs : List Loc} {cc : ByteArray} {nL : Nat} {rest : List Value} {pc : Nat} {ls : Array Slot} {D : va_G} {tys : List (ClassId × FieldType)} {ad : Nat → Nat} {N : Nat} {w : Nat → va_E} {sa : Nat → Nat} {is : Nat} {text : String}
    (hl0 : l.stackTraces = false) (S : CallFix p m c cc nL s args wsL_law RX4) (hlocks : meth.locks = false) (htab : ∀ x ∈ c.exceptionTable.toList, False) (hw : WW D vwCl tys (xA ad N s.heap.size) s.heap ad N w s H locs) (hT : TX sa (xA ad N s.heap.size) s) (hq : (is, text) ∈ strs) (hsize : ls.size = nL)
    (d0 : decode cc pc = .ok (.new 72, 3)) (d3 : decode cc (pc + 3) = .ok (.dup, 1)) (d4 : decode cc (pc + 4) = .ok (.ldc is, 2)) (d6 : decode cc (pc + 6) = .ok (.invokespecial 76, 3)) (d9 : decode cc (pc + 9) = .ok (.athrow, 1))
    (hRf : 5 < R.frames) (hRl : (rest.map fun v => v.category).sum + 82 ≤ R.locals) (hRc : 1 ≤ R.cells ∧ 6 ≤ R.slots) :
    W p l e R s m args below meth c H locs 0 0 (vx_MQ below (fun _ _ _ _ => False) (XW D tys ad N w s.heap.size "java/lang/IllegalStateException") args s 1 6 (xA ad N s.heap.size)) (F0 m pc ls rest) := by
  obtain ⟨hx, hb, hml, hown, hts⟩ := S
  refine vx_throwS (names := ["java/lang/RuntimeException", "java/lang/Exception"]) (A := xA ad N s.heap.size) (sa := sa is) hx hb hl0 hown (by decide +kernel) (by decide +kernel) (hts (.classLink RX4 72 "java/lang/IllegalStateException") (List.mem_of_getElem? (i := 125) (by decide +kernel))) (hts (.initialized "java/lang/IllegalStateException") (List.mem_of_getElem? (i := 126) (by decide +kernel))) (hT.2.2.1 (is, text) hq)
    (vx_hat (L := vx_atS RX4 76 "java/lang/IllegalStateException" ["java/lang/RuntimeException", "java/lang/Exception"]) (B := [.castable "java/lang/IllegalStateException" "java/lang/IllegalStateException", .declares ⟨"java/lang/RuntimeException", "<init>", "(Ljava/lang/String;)V"⟩, .declares ⟨"java/lang/Exception", "<init>", "(Ljava/lang/String;)V"⟩, .declares ⟨"java/lang/Throwable", "<init>", "(Ljava/lang/String;)V"⟩]) (fun w h => hts w (at_ISE w h)) (by decide +kernel) (vx_c (va_Nw.use rfl (hT.2.2.2.1 _ (by decide))) (vx_c (va_Nw.use rfl (hT.2.2.2.2 _ (by decide))) (vx_c (va_Nw.use rfl (hT.2.2.2.2 _ (by decide))) (vx_c (va_Nw.use rfl (hT.2.2.2.2 _ (by decide))) vx_n)))))
    (by decide +kernel) hT.1 hT.2.1 hw.2.2.2 (hsize.trans hml.symm) d0 d3 d4 d6 d9 (fun x hx => (htab x hx).elim) hRf (by simpa using hRl) (by omega) (by omega) hlocks (fun t hal hz hk => x_XW hw hal hz hk) hw.2.2.2.2.2 (by omega) (by omega)
theorem at_UOE : ∀ w ∈ (vx_atS RX4 194 "java/lang/UnsupportedOperationException" ["java/lang/RuntimeException", "java/lang/Exception"]).filter goodWord, w ∈ wsL_law := fun w h => by
  unfold wsL_law
  simp only [List.mem_append]
  exact Or.inr h
theorem x_throwUOE {p : Program} {l : Launch} {e : Env} {R : Room} {s : State} {m : MethodId} {args : Array Value} {below : List Frame} {meth : Method} {c : Code} {H : Heap} {locs : List Loc} {cc : ByteArray} {nL : Nat} {rest : List Value} {pc : Nat} {ls : Array Slot} {D : va_G} {tys : List (ClassId × FieldType)} {ad : Nat → Nat} {N : Nat} {w : Nat → va_E} {sa : Nat → Nat} {is : Nat} {text : String}
    (hl0 : l.stackTraces = false) (S : CallFix p m c cc nL s args wsL_law RX4) (hlocks : meth.locks = false) (htab : ∀ x ∈ c.exceptionTable.toList, False) (hw : WW D vwCl tys (xA ad N s.heap.size) s.heap ad N w s H locs) (hT : TX sa (xA ad N s.heap.size) s) (hq : (is, text) ∈ strs) (hsize : ls.size = nL)
    (d0 : decode cc pc = .ok (.new 190, 3)) (d3 : decode cc (pc + 3) = .ok (.dup, 1)) (d4 : decode cc (pc + 4) = .ok (.ldc is, 2)) (d6 : decode cc (pc + 6) = .ok (.invokespecial 194, 3)) (d9 : decode cc (pc + 9) = .ok (.athrow, 1))
    (hRf : 5 < R.frames) (hRl : (rest.map fun v => v.category).sum + 82 ≤ R.locals) (hRc : 1 ≤ R.cells ∧ 6 ≤ R.slots) :
    W p l e R s m args below meth c H locs 0 0 (vx_MQ below (fun _ _ _ _ => False) (XW D tys ad N w s.heap.size "java/lang/UnsupportedOperationException") args s 1 6 (xA ad N s.heap.size)) (F0 m pc ls rest) := by
  obtain ⟨hx, hb, hml, hown, hts⟩ := S
  refine vx_throwS (names := ["java/lang/RuntimeException", "java/lang/Exception"]) (A := xA ad N s.heap.size) (sa := sa is) hx hb hl0 hown (by decide +kernel) (by decide +kernel) (hts (.classLink RX4 190 "java/lang/UnsupportedOperationException") (List.mem_of_getElem? (i := 531) (by decide +kernel))) (hts (.initialized "java/lang/UnsupportedOperationException") (List.mem_of_getElem? (i := 532) (by decide +kernel))) (hT.2.2.1 (is, text) hq)
    (vx_hat (L := vx_atS RX4 194 "java/lang/UnsupportedOperationException" ["java/lang/RuntimeException", "java/lang/Exception"]) (B := [.castable "java/lang/UnsupportedOperationException" "java/lang/UnsupportedOperationException", .declares ⟨"java/lang/RuntimeException", "<init>", "(Ljava/lang/String;)V"⟩, .declares ⟨"java/lang/Exception", "<init>", "(Ljava/lang/String;)V"⟩, .declares ⟨"java/lang/Throwable", "<init>", "(Ljava/lang/String;)V"⟩]) (fun w h => hts w (at_UOE w h)) (by decide +kernel) (vx_c (va_Nw.use rfl (hT.2.2.2.1 _ (by decide))) (vx_c (va_Nw.use rfl (hT.2.2.2.2 _ (by decide))) (vx_c (va_Nw.use rfl (hT.2.2.2.2 _ (by decide))) (vx_c (va_Nw.use rfl (hT.2.2.2.2 _ (by decide))) vx_n)))))
    (by decide +kernel) hT.1 hT.2.1 hw.2.2.2 (hsize.trans hml.symm) d0 d3 d4 d6 d9 (fun x hx => (htab x hx).elim) hRf (by simpa using hRl) (by omega) (by omega) hlocks (fun t hal hz hk => x_XW hw hal hz hk) hw.2.2.2.2.2 (by omega) (by omega)
end
section
/-! what a call needs -/
def isNd (n : Nat) (x : Int32) : Prop := nI 1 ≤ x ∧ x ≤ nI n
theorem isNd_of {n : Nat} {x : Int32} (hn : n ≤ 16) (h : isNd n x) : ∃ k : Nat, 1 ≤ k ∧ k ≤ n ∧ x = nI k := by
  have h0 : ¬ x < 0 := fun q => by
    have h1 := Int32.le_iff_toInt_le.mp h.1
    have h2 := Int32.lt_iff_toInt_lt.mp q
    rw [nI_toInt (by decide)] at h1
    rw [Int32.toInt_zero] at h2
    omega
  obtain ⟨k, hk, rfl⟩ := nI_of h0
  refine ⟨k, (nI_leI (by decide) hk).mp h.1, (nI_leI hk (by omega)).mp h.2, rfl⟩
theorem isNd_k {n k : Nat} (hn : n ≤ 16) (h1 : 1 ≤ k) (h2 : k ≤ n) : isNd n (nI k) := ⟨nI_le h1 (by omega), nI_le h2 (by omega)⟩
def isEx (x : Int32) : Prop := ¬ x < 0 ∧ ¬ nI 1073741789 ≤ x
theorem isEx_of {x : Int32} (h : isEx x) : ∃ k : Nat, k < 1073741789 ∧ x = nI k := by
  obtain ⟨k, hk, rfl⟩ := nI_of h.1
  refine ⟨k, ?_, rfl⟩
  have := h.2
  rw [nI_leI (by decide) hk] at this
  omega
theorem isEx_no {x : Int32} (h : ¬ isEx x) : x < 0 ∨ nI 1073741789 ≤ x := by
  by_cases h1 : x < 0
  · exact Or.inl h1
  · exact Or.inr (Classical.byContradiction fun q => h ⟨h1, q⟩)
theorem nlt_le {x y : Int32} (h : ¬ x < y) : y ≤ x := Int32.not_lt.mp h

set_option maxHeartbeats 4000000 in
set_option maxRecDepth 100000 in
theorem k_needNode (l : Launch) {D : va_G} {cI cJ cZ cD : ClassId} {ad : Nat → Nat} {w : Nat → va_E} {sz : Nat} (n t cl qu : Nat) (wh : Int32) (hn : n ≤ 16) (k : Nat) (h1 : 1 ≤ k) (h2 : k ≤ n) (h0 : w 0 = .inr (3, [.ref (ad 1), .ref (ad 70), .ref (ad 71), .ref (ad 72), .ref (ad 76), .int (nI n), .int (nI t), .int (nI cl), .int (nI qu), .int wh])) : MW l yX4_needNode (.code yX4_needNode cX4_needNode 2 none) ({ frames := 0, cells := 0, slots := 0, locals := 0 }) [.ref (ad 0), .int (nI k)] D (tyL cI cJ cZ cD) ad 89 w sz none (fun u => u = w) := by
  refine MW.of (by decide) (Nat.le_of_ble_eq_true rfl) ?_
  intro p e s m below meth c ls hC hr hlocks hl hw
  obtain ⟨hx, hb, hml, hown, hts⟩ := id hC
  have hA : ∀ q, s.heap.size ≤ q → xA ad 89 s.heap.size q := fun q h => Or.inr h
  have hl : lv_has ls 2 [(0, .ref (ad 0)), (1, .int (nI k))] := hl
  refine lv_iload_n hx hb dX4_needNode_0 rfl (lv_at hl 1 rfl) ?_
  refine lv_iconst (v := nI 1) hx hb dX4_needNode_1 (by decide) ?_
  refine lv_icmp_lt (tgt := 13) hx hb dX4_needNode_2 (by decide) (fun hc => absurd hc (nI_nlt (by omega) (by omega))) (fun hc => ?_)
  refine lv_iload_n hx hb dX4_needNode_5 rfl (lv_at hl 1 rfl) ?_
  refine lv_aload_n hx hb dX4_needNode_6 rfl (lv_at hl 0 rfl) ?_
  refine gf_X4_44 hx hb hts hown hw (by decide) h0 rfl dX4_needNode_7 ?_
  refine lv_icmp_le (tgt := 23) hx hb dX4_needNode_10 (by decide) (fun hc2 => ?_) (fun hc2 => absurd (nI_le (by omega) (by omega)) hc2)
  exact x_wretV hx hb hr hlocks hw rfl dX4_needNode_23
set_option maxHeartbeats 4000000 in
set_option maxRecDepth 100000 in
theorem k_needNodeT (l : Launch) (hl0 : l.stackTraces = false) {D : va_G} {cI cJ cZ cD : ClassId} {ad : Nat → Nat} {sa : Nat → Nat} {w : Nat → va_E} {sz : Nat} (n t cl qu : Nat) (wh : Int32) (hn : n ≤ 16) (x : Int32) (hx0 : ¬ isNd n x) (h0 : w 0 = .inr (3, [.ref (ad 1), .ref (ad 70), .ref (ad 71), .ref (ad 72), .ref (ad 76), .int (nI n), .int (nI t), .int (nI cl), .int (nI qu), .int wh])) : MT l yX4_needNode (.code yX4_needNode cX4_needNode 2 none) ({ frames := 6, cells := 1, slots := 6, locals := 82 }) [.ref (ad 0), .int x] D (tyL cI cJ cZ cD) ad 89 w sz sa "java/lang/IllegalArgumentException" := by
  refine MT.of (by decide) (Nat.le_of_ble_eq_true rfl) ?_
  intro p e s m below meth c ls hC hlocks htab hl hw hT
  obtain ⟨hx, hb, hml, hown, hts⟩ := id hC
  have hA : ∀ q, s.heap.size ≤ q → xA ad 89 s.heap.size q := fun q h => Or.inr h
  have hl : lv_has ls 2 [(0, .ref (ad 0)), (1, .int x)] := hl
  refine lv_iload_n hx hb dX4_needNode_0 rfl (lv_at hl 1 rfl) ?_
  refine lv_iconst (v := nI 1) hx hb dX4_needNode_1 (by decide) ?_
  refine lv_icmp_lt (tgt := 13) hx hb dX4_needNode_2 (by decide) (fun hc => ?_) (fun hc => ?_)
  · skip
    exact x_throwIAE (is := 222) (text := "there is no such node") hl0 hC hlocks htab hw hT (by decide +kernel) hl.1 dX4_needNode_13 dX4_needNode_16 dX4_needNode_17 dX4_needNode_19 dX4_needNode_22 (Nat.le_of_ble_eq_true rfl) (Nat.le_of_ble_eq_true rfl) ⟨Nat.le_of_ble_eq_true rfl, Nat.le_of_ble_eq_true rfl⟩
  · skip
    refine lv_iload_n hx hb dX4_needNode_5 rfl (lv_at hl 1 rfl) ?_
    refine lv_aload_n hx hb dX4_needNode_6 rfl (lv_at hl 0 rfl) ?_
    refine gf_X4_44 hx hb hts hown hw (by decide) h0 rfl dX4_needNode_7 ?_
    refine lv_icmp_le (tgt := 23) hx hb dX4_needNode_10 (by decide) (fun hc2 => absurd hc2 (fun q => hx0 ⟨nlt_le hc, q⟩)) (fun hc2 => ?_)
    exact x_throwIAE (is := 222) (text := "there is no such node") hl0 hC hlocks htab hw hT (by decide +kernel) hl.1 dX4_needNode_13 dX4_needNode_16 dX4_needNode_17 dX4_needNode_19 dX4_needNode_22 (Nat.le_of_ble_eq_true rfl) (Nat.le_of_ble_eq_true rfl) ⟨Nat.le_of_ble_eq_true rfl, Nat.le_of_ble_eq_true rfl⟩
set_option maxHeartbeats 4000000 in
set_option maxRecDepth 100000 in
theorem k_needExponent (l : Launch) {D : va_G} {cI cJ cZ cD : ClassId} {ad : Nat → Nat} {w : Nat → va_E} {sz : Nat} (n t cl qu : Nat) (wh : Int32) (x : Nat) (hx0 : x < 1073741789) (h0 : w 0 = .inr (3, [.ref (ad 1), .ref (ad 70), .ref (ad 71), .ref (ad 72), .ref (ad 76), .int (nI n), .int (nI t), .int (nI cl), .int (nI qu), .int wh])) : MW l yX4_needExponent (.code yX4_needExponent cX4_needExponent 2 none) ({ frames := 1, cells := 0, slots := 0, locals := 28 }) [.ref (ad 0), .int (nI x)] D (tyL cI cJ cZ cD) ad 89 w sz none (fun u => u = w) := by
  refine MW.of (by decide) (Nat.le_of_ble_eq_true rfl) ?_
  intro p e s m below meth c ls hC hr hlocks hl hw
  obtain ⟨hx, hb, hml, hown, hts⟩ := id hC
  have hA : ∀ q, s.heap.size ≤ q → xA ad 89 s.heap.size q := fun q h => Or.inr h
  have hl : lv_has ls 2 [(0, .ref (ad 0)), (1, .int (nI x))] := hl
  refine lv_iload_n hx hb dX4_needExponent_0 rfl (lv_at hl 1 rfl) ?_
  refine x_callS (As := [.int (nI x)]) (rest := []) hC sf_X4_224 (k_isExponent l x hx0) ⟨rfl, rfl, Nat.le_of_ble_eq_true rfl, Nat.le_of_ble_eq_true rfl⟩ hl.1 (Nat.le_of_ble_eq_true rfl) dX4_needExponent_1 ⟨Nat.zero_le _, Nat.zero_le _⟩ rfl ?_
  refine lv_if_ne (tgt := 17) hx hb dX4_needExponent_4 (by decide) (fun hc => ?_) (fun hc => absurd hc (by decide))
  exact x_wretV hx hb hr hlocks hw rfl dX4_needExponent_17
set_option maxHeartbeats 4000000 in
set_option maxRecDepth 100000 in
theorem k_needExponentT (l : Launch) (hl0 : l.stackTraces = false) {D : va_G} {cI cJ cZ cD : ClassId} {ad : Nat → Nat} {sa : Nat → Nat} {w : Nat → va_E} {sz : Nat} (n t cl qu : Nat) (wh : Int32) (x : Int32) (hx0 : ¬ isEx x) (h0 : w 0 = .inr (3, [.ref (ad 1), .ref (ad 70), .ref (ad 71), .ref (ad 72), .ref (ad 76), .int (nI n), .int (nI t), .int (nI cl), .int (nI qu), .int wh])) : MT l yX4_needExponent (.code yX4_needExponent cX4_needExponent 2 none) ({ frames := 6, cells := 1, slots := 6, locals := 82 }) [.ref (ad 0), .int x] D (tyL cI cJ cZ cD) ad 89 w sz sa "java/lang/IllegalArgumentException" := by
  refine MT.of (by decide) (Nat.le_of_ble_eq_true rfl) ?_
  intro p e s m below meth c ls hC hlocks htab hl hw hT
  obtain ⟨hx, hb, hml, hown, hts⟩ := id hC
  have hA : ∀ q, s.heap.size ≤ q → xA ad 89 s.heap.size q := fun q h => Or.inr h
  have hl : lv_has ls 2 [(0, .ref (ad 0)), (1, .int x)] := hl
  refine lv_iload_n hx hb dX4_needExponent_0 rfl (lv_at hl 1 rfl) ?_
  refine x_callS (As := [.int x]) (rest := []) hC sf_X4_224 (k_isExponentN l x (isEx_no hx0)) ⟨rfl, rfl, Nat.le_of_ble_eq_true rfl, Nat.le_of_ble_eq_true rfl⟩ hl.1 (Nat.le_of_ble_eq_true rfl) dX4_needExponent_1 ⟨Nat.zero_le _, Nat.zero_le _⟩ rfl ?_
  refine lv_if_ne (tgt := 17) hx hb dX4_needExponent_4 (by decide) (fun hc => absurd (by decide) hc) (fun hc => ?_)
  exact x_throwIAE (is := 227) (text := "the number is not 0 .. q - 1") hl0 hC hlocks htab hw hT (by decide +kernel) hl.1 dX4_needExponent_7 dX4_needExponent_10 dX4_needExponent_11 dX4_needExponent_13 dX4_needExponent_16 (Nat.le_of_ble_eq_true rfl) (Nat.le_of_ble_eq_true rfl) ⟨Nat.le_of_ble_eq_true rfl, Nat.le_of_ble_eq_true rfl⟩
set_option maxHeartbeats 4000000 in
set_option maxRecDepth 100000 in
theorem k_needWhat (l : Launch) {D : va_G} {cI cJ cZ cD : ClassId} {ad : Nat → Nat} {w : Nat → va_E} {sz : Nat} (n t cl qu : Nat) (wh : Int32) (x b : Nat) (hb0 : b < 2 ^ 31) (hx0 : x ≤ b) (h0 : w 0 = .inr (3, [.ref (ad 1), .ref (ad 70), .ref (ad 71), .ref (ad 72), .ref (ad 76), .int (nI n), .int (nI t), .int (nI cl), .int (nI qu), .int wh])) : MW l yX4_needWhat (.code yX4_needWhat cX4_needWhat 3 none) ({ frames := 0, cells := 0, slots := 0, locals := 0 }) [.ref (ad 0), .int (nI x), .int (nI b)] D (tyL cI cJ cZ cD) ad 89 w sz none (fun u => u = w) := by
  refine MW.of (by decide) (Nat.le_of_ble_eq_true rfl) ?_
  intro p e s m below meth c ls hC hr hlocks hl hw
  obtain ⟨hx, hb, hml, hown, hts⟩ := id hC
  have hA : ∀ q, s.heap.size ≤ q → xA ad 89 s.heap.size q := fun q h => Or.inr h
  have hl : lv_has ls 3 [(0, .ref (ad 0)), (1, .int (nI x)), (2, .int (nI b))] := hl
  refine lv_iload_n hx hb dX4_needWhat_0 rfl (lv_at hl 1 rfl) ?_
  refine lv_if_lt (tgt := 9) hx hb dX4_needWhat_1 (by decide) (fun hc => absurd hc (nI_pos (by omega))) (fun hc => ?_)
  refine lv_iload_n hx hb dX4_needWhat_4 rfl (lv_at hl 1 rfl) ?_
  refine lv_iload_n hx hb dX4_needWhat_5 rfl (lv_at hl 2 rfl) ?_
  refine lv_icmp_le (tgt := 19) hx hb dX4_needWhat_6 (by decide) (fun hc2 => ?_) (fun hc2 => absurd (nI_le (by omega) (by omega)) hc2)
  exact x_wretV hx hb hr hlocks hw rfl dX4_needWhat_19
set_option maxHeartbeats 4000000 in
set_option maxRecDepth 100000 in
theorem k_needWhatT (l : Launch) (hl0 : l.stackTraces = false) {D : va_G} {cI cJ cZ cD : ClassId} {ad : Nat → Nat} {sa : Nat → Nat} {w : Nat → va_E} {sz : Nat} (n t cl qu : Nat) (wh : Int32) (x : Int32) (b : Nat) (hx0 : x < 0 ∨ ¬ x ≤ nI b) (h0 : w 0 = .inr (3, [.ref (ad 1), .ref (ad 70), .ref (ad 71), .ref (ad 72), .ref (ad 76), .int (nI n), .int (nI t), .int (nI cl), .int (nI qu), .int wh])) : MT l yX4_needWhat (.code yX4_needWhat cX4_needWhat 3 none) ({ frames := 6, cells := 1, slots := 6, locals := 82 }) [.ref (ad 0), .int x, .int (nI b)] D (tyL cI cJ cZ cD) ad 89 w sz sa "java/lang/IllegalArgumentException" := by
  refine MT.of (by decide) (Nat.le_of_ble_eq_true rfl) ?_
  intro p e s m below meth c ls hC hlocks htab hl hw hT
  obtain ⟨hx, hb, hml, hown, hts⟩ := id hC
  have hA : ∀ q, s.heap.size ≤ q → xA ad 89 s.heap.size q := fun q h => Or.inr h
  have hl : lv_has ls 3 [(0, .ref (ad 0)), (1, .int x), (2, .int (nI b))] := hl
  refine lv_iload_n hx hb dX4_needWhat_0 rfl (lv_at hl 1 rfl) ?_
  refine lv_if_lt (tgt := 9) hx hb dX4_needWhat_1 (by decide) (fun hc => ?_) (fun hc => ?_)
  · skip
    exact x_throwIAE (is := 229) (text := "what is none of those told") hl0 hC hlocks htab hw hT (by decide +kernel) hl.1 dX4_needWhat_9 dX4_needWhat_12 dX4_needWhat_13 dX4_needWhat_15 dX4_needWhat_18 (Nat.le_of_ble_eq_true rfl) (Nat.le_of_ble_eq_true rfl) ⟨Nat.le_of_ble_eq_true rfl, Nat.le_of_ble_eq_true rfl⟩
  · skip
    refine lv_iload_n hx hb dX4_needWhat_4 rfl (lv_at hl 1 rfl) ?_
    refine lv_iload_n hx hb dX4_needWhat_5 rfl (lv_at hl 2 rfl) ?_
    refine lv_icmp_le (tgt := 19) hx hb dX4_needWhat_6 (by decide) (fun hc2 => absurd hc2 (hx0.resolve_left hc)) (fun hc2 => ?_)
    exact x_throwIAE (is := 229) (text := "what is none of those told") hl0 hC hlocks htab hw hT (by decide +kernel) hl.1 dX4_needWhat_9 dX4_needWhat_12 dX4_needWhat_13 dX4_needWhat_15 dX4_needWhat_18 (Nat.le_of_ble_eq_true rfl) (Nat.le_of_ble_eq_true rfl) ⟨Nat.le_of_ble_eq_true rfl, Nat.le_of_ble_eq_true rfl⟩
set_option maxHeartbeats 4000000 in
set_option maxRecDepth 100000 in
theorem k_needDealt (l : Launch) {D : va_G} {cI cJ cZ cD : ClassId} {ad : Nat → Nat} {w : Nat → va_E} {sz : Nat} (n t cl qu : Nat) (wh : Int32) (i : Nat) (hi : i < 17) (df : Nat → Option Nat) (hdf : ∀ i, i < 17 → df i = some (ad (2 + 4 * i))) (cp ou : Int32) (h0 : w 0 = .inr (3, [.ref (ad 1), .ref (ad 70), .ref (ad 71), .ref (ad 72), .ref (ad 76), .int (nI n), .int (nI t), .int (nI cl), .int (nI qu), .int wh])) (hDa : w 1 = .inl (cD, 17, .inr (.inr (.inr (.inr df))))) (hD : w (2 + 4 * i) = .inr (0, [.ref (ad (3 + 4 * i)), .ref (ad (4 + 4 * i)), .ref (ad (5 + 4 * i)), .int cp, .int (nI 1), .int ou])) : MW l yX4_needDealt (.code yX4_needDealt cX4_needDealt 2 none) ({ frames := 0, cells := 0, slots := 0, locals := 0 }) [.ref (ad 0), .int (nI i)] D (tyL cI cJ cZ cD) ad 89 w sz none (fun u => u = w) := by
  refine MW.of (by decide) (Nat.le_of_ble_eq_true rfl) ?_
  intro p e s m below meth c ls hC hr hlocks hl hw
  obtain ⟨hx, hb, hml, hown, hts⟩ := id hC
  have hA : ∀ q, s.heap.size ≤ q → xA ad 89 s.heap.size q := fun q h => Or.inr h
  have hl : lv_has ls 2 [(0, .ref (ad 0)), (1, .int (nI i))] := hl
  refine lv_aload_n hx hb dX4_needDealt_0 rfl (lv_at hl 0 rfl) ?_
  refine gf_X4_11 hx hb hts hown hw (by decide) h0 rfl dX4_needDealt_1 ?_
  refine lv_iload_n hx hb dX4_needDealt_4 rfl (lv_at hl 1 rfl) ?_
  refine x_aald hx hb hw (by decide) 3 hDa rfl (j := i) (by omega) (by decide) (hdf _ (by omega)) dX4_needDealt_5 ?_
  refine gf_X4_69 hx hb hts hown hw (by omega) hD rfl dX4_needDealt_6 ?_
  refine lv_if_ne (tgt := 22) hx hb dX4_needDealt_9 (by decide) (fun hc => ?_) (fun hc => absurd hc (by decide))
  exact x_wretV hx hb hr hlocks hw rfl dX4_needDealt_22
set_option maxHeartbeats 4000000 in
set_option maxRecDepth 100000 in
theorem k_needDealtT (l : Launch) (hl0 : l.stackTraces = false) {D : va_G} {cI cJ cZ cD : ClassId} {ad : Nat → Nat} {sa : Nat → Nat} {w : Nat → va_E} {sz : Nat} (n t cl qu : Nat) (wh : Int32) (i : Nat) (hi : i < 17) (df : Nat → Option Nat) (hdf : ∀ i, i < 17 → df i = some (ad (2 + 4 * i))) (cp ou : Int32) (h0 : w 0 = .inr (3, [.ref (ad 1), .ref (ad 70), .ref (ad 71), .ref (ad 72), .ref (ad 76), .int (nI n), .int (nI t), .int (nI cl), .int (nI qu), .int wh])) (hDa : w 1 = .inl (cD, 17, .inr (.inr (.inr (.inr df))))) (hD : w (2 + 4 * i) = .inr (0, [.ref (ad (3 + 4 * i)), .ref (ad (4 + 4 * i)), .ref (ad (5 + 4 * i)), .int cp, .int (nI 0), .int ou])) : MT l yX4_needDealt (.code yX4_needDealt cX4_needDealt 2 none) ({ frames := 6, cells := 1, slots := 6, locals := 82 }) [.ref (ad 0), .int (nI i)] D (tyL cI cJ cZ cD) ad 89 w sz sa "java/lang/IllegalStateException" := by
  refine MT.of (by decide) (Nat.le_of_ble_eq_true rfl) ?_
  intro p e s m below meth c ls hC hlocks htab hl hw hT
  obtain ⟨hx, hb, hml, hown, hts⟩ := id hC
  have hA : ∀ q, s.heap.size ≤ q → xA ad 89 s.heap.size q := fun q h => Or.inr h
  have hl : lv_has ls 2 [(0, .ref (ad 0)), (1, .int (nI i))] := hl
  refine lv_aload_n hx hb dX4_needDealt_0 rfl (lv_at hl 0 rfl) ?_
  refine gf_X4_11 hx hb hts hown hw (by decide) h0 rfl dX4_needDealt_1 ?_
  refine lv_iload_n hx hb dX4_needDealt_4 rfl (lv_at hl 1 rfl) ?_
  refine x_aald hx hb hw (by decide) 3 hDa rfl (j := i) (by omega) (by decide) (hdf _ (by omega)) dX4_needDealt_5 ?_
  refine gf_X4_69 hx hb hts hown hw (by omega) hD rfl dX4_needDealt_6 ?_
  refine lv_if_ne (tgt := 22) hx hb dX4_needDealt_9 (by decide) (fun hc => absurd (by decide) hc) (fun hc => ?_)
  exact x_throwISE (is := 231) (text := "the dealer has not dealt") hl0 hC hlocks htab hw hT (by decide +kernel) hl.1 dX4_needDealt_12 dX4_needDealt_15 dX4_needDealt_16 dX4_needDealt_18 dX4_needDealt_21 (Nat.le_of_ble_eq_true rfl) (Nat.le_of_ble_eq_true rfl) ⟨Nat.le_of_ble_eq_true rfl, Nat.le_of_ble_eq_true rfl⟩
set_option maxHeartbeats 4000000 in
set_option maxRecDepth 100000 in
theorem k_needOpen (l : Launch) {D : va_G} {cI cJ cZ cD : ClassId} {ad : Nat → Nat} {w : Nat → va_E} {sz : Nat} (n t qu : Nat) (wh : Int32) (h0 : w 0 = .inr (3, [.ref (ad 1), .ref (ad 70), .ref (ad 71), .ref (ad 72), .ref (ad 76), .int (nI n), .int (nI t), .int (nI 0), .int (nI qu), .int wh])) : MW l yX4_needOpen (.code yX4_needOpen cX4_needOpen 1 none) ({ frames := 0, cells := 0, slots := 0, locals := 0 }) [.ref (ad 0)] D (tyL cI cJ cZ cD) ad 89 w sz none (fun u => u = w) := by
  refine MW.of (by decide) (Nat.le_of_ble_eq_true rfl) ?_
  intro p e s m below meth c ls hC hr hlocks hl hw
  obtain ⟨hx, hb, hml, hown, hts⟩ := id hC
  have hA : ∀ q, s.heap.size ≤ q → xA ad 89 s.heap.size q := fun q h => Or.inr h
  have hl : lv_has ls 1 [(0, .ref (ad 0))] := hl
  refine lv_aload_n hx hb dX4_needOpen_0 rfl (lv_at hl 0 rfl) ?_
  refine gf_X4_51 hx hb hts hown hw (by decide) h0 rfl dX4_needOpen_1 ?_
  refine lv_if_eq (tgt := 17) hx hb dX4_needOpen_4 (by decide) (fun hc => ?_) (fun hc => absurd (by decide) hc)
  exact x_wretV hx hb hr hlocks hw rfl dX4_needOpen_17
set_option maxHeartbeats 4000000 in
set_option maxRecDepth 100000 in
theorem k_needOpenT (l : Launch) (hl0 : l.stackTraces = false) {D : va_G} {cI cJ cZ cD : ClassId} {ad : Nat → Nat} {sa : Nat → Nat} {w : Nat → va_E} {sz : Nat} (n t qu : Nat) (wh : Int32) (h0 : w 0 = .inr (3, [.ref (ad 1), .ref (ad 70), .ref (ad 71), .ref (ad 72), .ref (ad 76), .int (nI n), .int (nI t), .int (nI 1), .int (nI qu), .int wh])) : MT l yX4_needOpen (.code yX4_needOpen cX4_needOpen 1 none) ({ frames := 6, cells := 1, slots := 6, locals := 82 }) [.ref (ad 0)] D (tyL cI cJ cZ cD) ad 89 w sz sa "java/lang/IllegalStateException" := by
  refine MT.of (by decide) (Nat.le_of_ble_eq_true rfl) ?_
  intro p e s m below meth c ls hC hlocks htab hl hw hT
  obtain ⟨hx, hb, hml, hown, hts⟩ := id hC
  have hA : ∀ q, s.heap.size ≤ q → xA ad 89 s.heap.size q := fun q h => Or.inr h
  have hl : lv_has ls 1 [(0, .ref (ad 0))] := hl
  refine lv_aload_n hx hb dX4_needOpen_0 rfl (lv_at hl 0 rfl) ?_
  refine gf_X4_51 hx hb hts hown hw (by decide) h0 rfl dX4_needOpen_1 ?_
  refine lv_if_eq (tgt := 17) hx hb dX4_needOpen_4 (by decide) (fun hc => absurd hc (by decide)) (fun hc => ?_)
  exact x_throwISE (is := 233) (text := "all is closed") hl0 hC hlocks htab hw hT (by decide +kernel) hl.1 dX4_needOpen_7 dX4_needOpen_10 dX4_needOpen_11 dX4_needOpen_13 dX4_needOpen_16 (Nat.le_of_ble_eq_true rfl) (Nat.le_of_ble_eq_true rfl) ⟨Nat.le_of_ble_eq_true rfl, Nat.le_of_ble_eq_true rfl⟩
set_option maxHeartbeats 4000000 in
set_option maxRecDepth 100000 in
theorem k_needClosed (l : Launch) {D : va_G} {cI cJ cZ cD : ClassId} {ad : Nat → Nat} {w : Nat → va_E} {sz : Nat} (n t qu : Nat) (wh : Int32) (h0 : w 0 = .inr (3, [.ref (ad 1), .ref (ad 70), .ref (ad 71), .ref (ad 72), .ref (ad 76), .int (nI n), .int (nI t), .int (nI 1), .int (nI qu), .int wh])) : MW l yX4_needClosed (.code yX4_needClosed cX4_needClosed 1 none) ({ frames := 0, cells := 0, slots := 0, locals := 0 }) [.ref (ad 0)] D (tyL cI cJ cZ cD) ad 89 w sz none (fun u => u = w) := by
  refine MW.of (by decide) (Nat.le_of_ble_eq_true rfl) ?_
  intro p e s m below meth c ls hC hr hlocks hl hw
  obtain ⟨hx, hb, hml, hown, hts⟩ := id hC
  have hA : ∀ q, s.heap.size ≤ q → xA ad 89 s.heap.size q := fun q h => Or.inr h
  have hl : lv_has ls 1 [(0, .ref (ad 0))] := hl
  refine lv_aload_n hx hb dX4_needClosed_0 rfl (lv_at hl 0 rfl) ?_
  refine gf_X4_51 hx hb hts hown hw (by decide) h0 rfl dX4_needClosed_1 ?_
  refine lv_if_ne (tgt := 17) hx hb dX4_needClosed_4 (by decide) (fun hc => ?_) (fun hc => absurd hc (by decide))
  exact x_wretV hx hb hr hlocks hw rfl dX4_needClosed_17
set_option maxHeartbeats 4000000 in
set_option maxRecDepth 100000 in
theorem k_needClosedT (l : Launch) (hl0 : l.stackTraces = false) {D : va_G} {cI cJ cZ cD : ClassId} {ad : Nat → Nat} {sa : Nat → Nat} {w : Nat → va_E} {sz : Nat} (n t qu : Nat) (wh : Int32) (h0 : w 0 = .inr (3, [.ref (ad 1), .ref (ad 70), .ref (ad 71), .ref (ad 72), .ref (ad 76), .int (nI n), .int (nI t), .int (nI 0), .int (nI qu), .int wh])) : MT l yX4_needClosed (.code yX4_needClosed cX4_needClosed 1 none) ({ frames := 6, cells := 1, slots := 6, locals := 82 }) [.ref (ad 0)] D (tyL cI cJ cZ cD) ad 89 w sz sa "java/lang/IllegalStateException" := by
  refine MT.of (by decide) (Nat.le_of_ble_eq_true rfl) ?_
  intro p e s m below meth c ls hC hlocks htab hl hw hT
  obtain ⟨hx, hb, hml, hown, hts⟩ := id hC
  have hA : ∀ q, s.heap.size ≤ q → xA ad 89 s.heap.size q := fun q h => Or.inr h
  have hl : lv_has ls 1 [(0, .ref (ad 0))] := hl
  refine lv_aload_n hx hb dX4_needClosed_0 rfl (lv_at hl 0 rfl) ?_
  refine gf_X4_51 hx hb hts hown hw (by decide) h0 rfl dX4_needClosed_1 ?_
  refine lv_if_ne (tgt := 17) hx hb dX4_needClosed_4 (by decide) (fun hc => absurd (by decide) hc) (fun hc => ?_)
  exact x_throwISE (is := 235) (text := "it is not closed") hl0 hC hlocks htab hw hT (by decide +kernel) hl.1 dX4_needClosed_7 dX4_needClosed_10 dX4_needClosed_11 dX4_needClosed_13 dX4_needClosed_16 (Nat.le_of_ble_eq_true rfl) (Nat.le_of_ble_eq_true rfl) ⟨Nat.le_of_ble_eq_true rfl, Nat.le_of_ble_eq_true rfl⟩
set_option maxHeartbeats 4000000 in
set_option maxRecDepth 100000 in
theorem k_needEnded (l : Launch) {D : va_G} {cI cJ cZ cD : ClassId} {ad : Nat → Nat} {w : Nat → va_E} {sz : Nat} (n t qu : Nat) (wh : Int32) (en : Nat) (hen : en ≤ 300) (kp bas : Int32) (msg : Int64) (r : Nat) (hr0 : r ≤ en) (h0 : w 0 = .inr (3, [.ref (ad 1), .ref (ad 70), .ref (ad 71), .ref (ad 72), .ref (ad 76), .int (nI n), .int (nI t), .int (nI 1), .int (nI qu), .int wh])) (hR : w 72 = .inr (1, [.ref (ad 73), .ref (ad 74), .ref (ad 75), .int (nI en), .int kp, .long msg, .int bas])) : MW l yX4_needEnded (.code yX4_needEnded cX4_needEnded 2 none) ({ frames := 1, cells := 0, slots := 0, locals := 28 }) [.ref (ad 0), .int (nI r)] D (tyL cI cJ cZ cD) ad 89 w sz none (fun u => u = w) := by
  refine MW.of (by decide) (Nat.le_of_ble_eq_true rfl) ?_
  intro p e s m below meth c ls hC hr hlocks hl hw
  obtain ⟨hx, hb, hml, hown, hts⟩ := id hC
  have hA : ∀ q, s.heap.size ≤ q → xA ad 89 s.heap.size q := fun q h => Or.inr h
  have hl : lv_has ls 2 [(0, .ref (ad 0)), (1, .int (nI r))] := hl
  refine lv_iload_n hx hb dX4_needEnded_0 rfl (lv_at hl 1 rfl) ?_
  refine lv_if_ge (tgt := 14) hx hb dX4_needEnded_1 (by decide) (fun hc => ?_) (fun hc => absurd (nI_pos' (by omega)) hc)
  refine lv_aload_n hx hb dX4_needEnded_14 rfl (lv_at hl 0 rfl) ?_
  refine x_callW0 (As := []) (rest := []) hC vf_X4_141 hw hA (by decide) h0 rfl rfl (k_needClosed l n t qu wh h0) ⟨rfl, rfl, Nat.le_of_ble_eq_true rfl, Nat.le_of_ble_eq_true rfl⟩ hl.1 (Nat.le_of_ble_eq_true rfl) dX4_needEnded_15 ⟨Nat.zero_le _, Nat.zero_le _⟩ rfl (fun w_1 H locs hu hw => ?_)
  rw [hu] at hw
  refine lv_iload_n hx hb dX4_needEnded_18 rfl (lv_at hl 1 rfl) ?_
  refine lv_aload_n hx hb dX4_needEnded_19 rfl (lv_at hl 0 rfl) ?_
  refine gf_X4_26 hx hb hts hown hw (by decide) h0 rfl dX4_needEnded_20 ?_
  refine gf_X4_147 hx hb hts hown hw (by decide) hR rfl dX4_needEnded_23 ?_
  refine lv_icmp_le (tgt := 39) hx hb dX4_needEnded_26 (by decide) (fun hc2 => ?_) (fun hc2 => absurd (nI_le (by omega) (by omega)) hc2)
  exact x_wretV hx hb hr hlocks hw rfl dX4_needEnded_39
set_option maxHeartbeats 4000000 in
set_option maxRecDepth 100000 in
theorem k_needEndedN (l : Launch) (hl0 : l.stackTraces = false) {D : va_G} {cI cJ cZ cD : ClassId} {ad : Nat → Nat} {sa : Nat → Nat} {w : Nat → va_E} {sz : Nat} (n t cl qu : Nat) (wh : Int32) (r : Int32) (hr0 : r < 0) (h0 : w 0 = .inr (3, [.ref (ad 1), .ref (ad 70), .ref (ad 71), .ref (ad 72), .ref (ad 76), .int (nI n), .int (nI t), .int (nI cl), .int (nI qu), .int wh])) : MT l yX4_needEnded (.code yX4_needEnded cX4_needEnded 2 none) ({ frames := 6, cells := 1, slots := 6, locals := 82 }) [.ref (ad 0), .int r] D (tyL cI cJ cZ cD) ad 89 w sz sa "java/lang/IllegalArgumentException" := by
  refine MT.of (by decide) (Nat.le_of_ble_eq_true rfl) ?_
  intro p e s m below meth c ls hC hlocks htab hl hw hT
  obtain ⟨hx, hb, hml, hown, hts⟩ := id hC
  have hA : ∀ q, s.heap.size ≤ q → xA ad 89 s.heap.size q := fun q h => Or.inr h
  have hl : lv_has ls 2 [(0, .ref (ad 0)), (1, .int r)] := hl
  refine lv_iload_n hx hb dX4_needEnded_0 rfl (lv_at hl 1 rfl) ?_
  refine lv_if_ge (tgt := 14) hx hb dX4_needEnded_1 (by decide) (fun hc => absurd hc (Int32.not_le.mpr hr0)) (fun hc => ?_)
  exact x_throwIAE (is := 237) (text := "a round is not below 0") hl0 hC hlocks htab hw hT (by decide +kernel) hl.1 dX4_needEnded_4 dX4_needEnded_7 dX4_needEnded_8 dX4_needEnded_10 dX4_needEnded_13 (Nat.le_of_ble_eq_true rfl) (Nat.le_of_ble_eq_true rfl) ⟨Nat.le_of_ble_eq_true rfl, Nat.le_of_ble_eq_true rfl⟩
set_option maxHeartbeats 4000000 in
set_option maxRecDepth 100000 in
theorem k_needEndedC (l : Launch) (hl0 : l.stackTraces = false) {D : va_G} {cI cJ cZ cD : ClassId} {ad : Nat → Nat} {sa : Nat → Nat} {w : Nat → va_E} {sz : Nat} (n t qu : Nat) (wh : Int32) (r : Int32) (hr0 : ¬ r < 0) (h0 : w 0 = .inr (3, [.ref (ad 1), .ref (ad 70), .ref (ad 71), .ref (ad 72), .ref (ad 76), .int (nI n), .int (nI t), .int (nI 0), .int (nI qu), .int wh])) : MT l yX4_needEnded (.code yX4_needEnded cX4_needEnded 2 none) ({ frames := 7, cells := 1, slots := 6, locals := 110 }) [.ref (ad 0), .int r] D (tyL cI cJ cZ cD) ad 89 w sz sa "java/lang/IllegalStateException" := by
  refine MT.of (by decide) (Nat.le_of_ble_eq_true rfl) ?_
  intro p e s m below meth c ls hC hlocks htab hl hw hT
  obtain ⟨hx, hb, hml, hown, hts⟩ := id hC
  have hA : ∀ q, s.heap.size ≤ q → xA ad 89 s.heap.size q := fun q h => Or.inr h
  have hl : lv_has ls 2 [(0, .ref (ad 0)), (1, .int r)] := hl
  refine lv_iload_n hx hb dX4_needEnded_0 rfl (lv_at hl 1 rfl) ?_
  refine lv_if_ge (tgt := 14) hx hb dX4_needEnded_1 (by decide) (fun hc => ?_) (fun hc => absurd (nlt_le hr0) hc)
  refine lv_aload_n hx hb dX4_needEnded_14 rfl (lv_at hl 0 rfl) ?_
  exact x_prop (As := []) (rest := []) hC vf_X4_141 hlocks htab hw hT (by decide) h0 rfl rfl (k_needClosedT l hl0 n t qu wh h0) ⟨rfl, rfl, Nat.le_of_ble_eq_true rfl, Nat.le_of_ble_eq_true rfl⟩ hl.1 (Nat.le_of_ble_eq_true rfl) dX4_needEnded_15 ⟨Nat.le_of_ble_eq_true rfl, Nat.le_of_ble_eq_true rfl⟩ rfl
set_option maxHeartbeats 4000000 in
set_option maxRecDepth 100000 in
theorem k_needEndedA (l : Launch) (hl0 : l.stackTraces = false) {D : va_G} {cI cJ cZ cD : ClassId} {ad : Nat → Nat} {sa : Nat → Nat} {w : Nat → va_E} {sz : Nat} (n t qu : Nat) (wh : Int32) (en : Nat) (hen : en ≤ 300) (kp bas : Int32) (msg : Int64) (r : Int32) (hr0 : ¬ r < 0) (hr1 : ¬ r ≤ nI en) (h0 : w 0 = .inr (3, [.ref (ad 1), .ref (ad 70), .ref (ad 71), .ref (ad 72), .ref (ad 76), .int (nI n), .int (nI t), .int (nI 1), .int (nI qu), .int wh])) (hR : w 72 = .inr (1, [.ref (ad 73), .ref (ad 74), .ref (ad 75), .int (nI en), .int kp, .long msg, .int bas])) : MT l yX4_needEnded (.code yX4_needEnded cX4_needEnded 2 none) ({ frames := 6, cells := 1, slots := 6, locals := 82 }) [.ref (ad 0), .int r] D (tyL cI cJ cZ cD) ad 89 w sz sa "java/lang/IllegalArgumentException" := by
  refine MT.of (by decide) (Nat.le_of_ble_eq_true rfl) ?_
  intro p e s m below meth c ls hC hlocks htab hl hw hT
  obtain ⟨hx, hb, hml, hown, hts⟩ := id hC
  have hA : ∀ q, s.heap.size ≤ q → xA ad 89 s.heap.size q := fun q h => Or.inr h
  have hl : lv_has ls 2 [(0, .ref (ad 0)), (1, .int r)] := hl
  refine lv_iload_n hx hb dX4_needEnded_0 rfl (lv_at hl 1 rfl) ?_
  refine lv_if_ge (tgt := 14) hx hb dX4_needEnded_1 (by decide) (fun hc => ?_) (fun hc => absurd (nlt_le hr0) hc)
  refine lv_aload_n hx hb dX4_needEnded_14 rfl (lv_at hl 0 rfl) ?_
  refine x_callW0 (As := []) (rest := []) hC vf_X4_141 hw hA (by decide) h0 rfl rfl (k_needClosed l n t qu wh h0) ⟨rfl, rfl, Nat.le_of_ble_eq_true rfl, Nat.le_of_ble_eq_true rfl⟩ hl.1 (Nat.le_of_ble_eq_true rfl) dX4_needEnded_15 ⟨Nat.zero_le _, Nat.zero_le _⟩ rfl (fun w_1 H locs hu hw => ?_)
  rw [hu] at hw
  refine lv_iload_n hx hb dX4_needEnded_18 rfl (lv_at hl 1 rfl) ?_
  refine lv_aload_n hx hb dX4_needEnded_19 rfl (lv_at hl 0 rfl) ?_
  refine gf_X4_26 hx hb hts hown hw (by decide) h0 rfl dX4_needEnded_20 ?_
  refine gf_X4_147 hx hb hts hown hw (by decide) hR rfl dX4_needEnded_23 ?_
  refine lv_icmp_le (tgt := 39) hx hb dX4_needEnded_26 (by decide) (fun hc2 => absurd hc2 hr1) (fun hc2 => ?_)
  exact x_throwIAE (is := 239) (text := "the round has not ended") hl0 hC hlocks htab hw hT (by decide +kernel) hl.1 dX4_needEnded_29 dX4_needEnded_32 dX4_needEnded_33 dX4_needEnded_35 dX4_needEnded_38 (Nat.le_of_ble_eq_true rfl) (Nat.le_of_ble_eq_true rfl) ⟨Nat.le_of_ble_eq_true rfl, Nat.le_of_ble_eq_true rfl⟩
end
