/-! what the law's start gives: the exceptions' premises, the classes, the arrays' classes -/
theorem sa_ex {P : Nat → String → Nat → Prop} : ∀ (L : List (Nat × String)), (L.map (·.1)).Nodup → (∀ q ∈ L, ∃ a, P q.1 q.2 a) → ∃ sa : Nat → Nat, ∀ q ∈ L, P q.1 q.2 (sa q.1) := by
  intro L
  induction L with
  | nil => intro _ _; exact ⟨fun _ => 0, fun q h => nomatch h⟩
  | cons x L ih =>
    intro hn h
    rw [List.map_cons, List.nodup_cons] at hn
    obtain ⟨sa, hs⟩ := ih hn.2 (fun q hq => h q (List.mem_cons_of_mem _ hq))
    obtain ⟨a, ha⟩ := h x List.mem_cons_self
    refine ⟨va_up sa x.1 a, fun q hq => ?_⟩
    rcases List.mem_cons.mp hq with rfl | hq
    · rw [va_up_self]; exact ha
    · have hne : q.1 ≠ x.1 := fun e => hn.1 (by rw [← e]; exact List.mem_map_of_mem hq)
      rw [va_up_ne _ _ hne]
      exact hs q hq
set_option maxRecDepth 100000 in
theorem pr_str : ∀ q ∈ strs, Cond.stringRef RX4 q.1 q.2 ∈ lw_tbl := by decide +kernel
set_option maxRecDepth 100000 in
theorem pr_exa : ∀ q ∈ strs, Cond.exactly (.string RX4 q.1) "java/lang/String" ∈ flatC (Jvm.Cond.and given_1 narrow_1) := by decide +kernel
set_option maxRecDepth 100000 in
theorem pr_cast : ∀ E ∈ exs, Cond.castable E E ∈ lw_tbl := by decide +kernel
set_option maxRecDepth 100000 in
theorem pr_decl : ∀ Y ∈ ups, Cond.declares ⟨Y, "<init>", "(Ljava/lang/String;)V"⟩ ∈ lw_tbl := by decide +kernel
set_option maxRecDepth 100000 in
theorem pr_lays1 : Cond.laysStatic Jvm.Bundle.tN "UNASSIGNED_STACK" Jvm.Bundle.steD ∈ lw_tbl := by decide +kernel
set_option maxRecDepth 100000 in
theorem pr_lays2 : Cond.laysStatic Jvm.Bundle.tN "SUPPRESSED_SENTINEL" Jvm.Bundle.listD ∈ lw_tbl := by decide +kernel
set_option maxRecDepth 100000 in
theorem pr_iniT : Cond.initialized Jvm.Bundle.tN ∈ lw_tbl := by decide +kernel
set_option maxRecDepth 100000 in
theorem pr_iniL : Cond.initialized RL ∈ lw_tbl := by decide +kernel
set_option maxRecDepth 100000 in
theorem pr_ref1 : Cond.isRef (.static Jvm.Bundle.tN "UNASSIGNED_STACK" Jvm.Bundle.steD) ∈ flatC (Jvm.Cond.and given_1 narrow_1) := by decide +kernel
set_option maxRecDepth 100000 in
theorem pr_ref2 : Cond.isRef (.static Jvm.Bundle.tN "SUPPRESSED_SENTINEL" Jvm.Bundle.listD) ∈ flatC (Jvm.Cond.and given_1 narrow_1) := by decide +kernel
set_option maxRecDepth 100000 in
theorem pr_nc1 : Cond.not (.castable "java/lang/IllegalStateException" "java/lang/IllegalArgumentException") ∈ flatC (Jvm.Cond.and given_1 narrow_1) := by decide +kernel
set_option maxRecDepth 100000 in
theorem pr_nc2 : Cond.not (.castable "java/lang/IllegalArgumentException" "java/lang/IllegalStateException") ∈ flatC (Jvm.Cond.and given_1 narrow_1) := by decide +kernel
set_option maxRecDepth 100000 in
theorem pr_nc3 : Cond.not (.castable "java/lang/UnsupportedOperationException" "java/lang/IllegalStateException") ∈ flatC (Jvm.Cond.and given_1 narrow_1) := by decide +kernel
set_option maxRecDepth 100000 in
theorem pr_over : Cond.arrayOver (.object "BeaconRing$Dealer") ∈ lw_tbl := by decide +kernel
set_option maxRecDepth 100000 in
theorem pr_nest1 : Cond.methodLinkNest RX4 15 yX0_init "BeaconRing" ∈ lw_tbl := by decide +kernel
set_option maxRecDepth 100000 in
theorem pr_nest2 : Cond.methodLinkNest RX4 32 yX3_init "BeaconRing" ∈ lw_tbl := by decide +kernel
theorem pr_TH {s : State} {b : Nat} (hts : ∀ w ∈ lw_tbl, w.before #[Value.ref b] s = true) (hgv : (Jvm.Cond.and given_1 narrow_1).before #[Value.ref b] s = true) : ∃ sa : Nat → Nat, TH sa (fun q => s.heap.size ≤ q) s := by
  have hfl := flat_of_before _ hgv
  have hA : ∀ a : Nat, a < s.heap.size → ¬ (fun q => s.heap.size ≤ q) a := fun a h => Nat.not_le.mpr h
  obtain ⟨sa, hsa⟩ := sa_ex (P := fun k tx a => vk_R RX4 k tx a s) strs (by decide +kernel) (fun q hq => by
    obtain ⟨a, c, cell, k, h1, -⟩ := Cond.exactly_spec (hfl _ (pr_exa q hq))
    refine ⟨a, vk_R.of (hts _ (pr_str q hq)) h1⟩)
  exact ⟨sa, ⟨vx_Zqof (hts _ pr_lays1) (hts _ pr_iniT) (hfl _ pr_ref1) hA, vx_Zqof (hts _ pr_lays2) (hts _ pr_iniT) (hfl _ pr_ref2) hA, hsa, fun E hE => va_Nw.of rfl (hts _ (pr_cast E hE)), fun Y hY => va_Nw.of rfl (hts _ (pr_decl Y hY))⟩, va_Nc.of (hfl _ pr_nc1), va_Nc.of (hfl _ pr_nc2), va_Nc.of (hfl _ pr_nc3)⟩
theorem pr_EX {s : State} {b : Nat} (hts : ∀ w ∈ lw_tbl, w.before #[Value.ref b] s = true) : EXr s := ⟨va_AO.of (hts _ pr_over), va_Nw.of rfl (hts _ pr_nest1), va_Nw.of rfl (hts _ pr_nest2)⟩
theorem pr_arr {s : State} {args : Array Value} {ty : FieldType} (h : (Cond.arrayClass ty).before args s = true) (hty : ∀ C, ty ≠ .object C) : ∃ cA : ClassId, ArrOfT s cA ty ∧ va_RA s cA ty := by
  obtain ⟨c, k, comp, h1, h2, h3⟩ := Cond.arrayClass_spec h
  refine ⟨c, fun n z => ⟨fun k h => (by cases h), k, h2, comp, h3⟩, ?_⟩
  cases ty with
  | object C => exact absurd rfl (hty C)
  | _ => exact h1
theorem pr_K {s : State} {b : Nat} (hts : ∀ w ∈ lw_tbl, w.before #[Value.ref b] s = true) : ∃ (D : va_G) (cI cJ cZ cD : ClassId), va_K D vwCl (tyL cI cJ cZ cD) s := by
  have hw : ∀ w ∈ wsL_law, w.before #[Value.ref b] s = true := fun w h => hts w (wsL_law_in w h)
  obtain ⟨c0, i0, k0⟩ := u_known (C := RX0) (T := TX0) (N := 6) (n := 6) hw inlX0 (hw _ (List.mem_of_getElem? (i := 16) (by decide +kernel)))
  obtain ⟨c1, i1, k1⟩ := u_known (C := RX2) (T := TX2) (N := 7) (n := 7) hw inlX2 (hw _ (List.mem_of_getElem? (i := 22) (by decide +kernel)))
  obtain ⟨c2, i2, k2⟩ := u_known (C := RX3) (T := TX3) (N := 3) (n := 3) hw inlX3 (hw _ (List.mem_of_getElem? (i := 26) (by decide +kernel)))
  obtain ⟨c3, i3, k3⟩ := u_known (C := RX4) (T := TX4) (N := 10) (n := 10) hw inlX4 (hw _ (List.mem_of_getElem? (i := 1) (by decide +kernel)))
  obtain ⟨c4, i4, k4⟩ := u_known (C := RX5) (T := TX5) (N := 18) (n := 18) hw inlX5 (hw _ (List.mem_of_getElem? (i := 4) (by decide +kernel)))
  obtain ⟨cI, a1, r1⟩ := pr_arr (ty := .int) (hw _ (List.mem_of_getElem? (i := 18) (by decide +kernel))) (fun C q => by cases q)
  obtain ⟨cJ, a2, r2⟩ := pr_arr (ty := .long) (hw _ (List.mem_of_getElem? (i := 6) (by decide +kernel))) (fun C q => by cases q)
  obtain ⟨cZ, a3, r3⟩ := pr_arr (ty := .boolean) (hw _ (List.mem_of_getElem? (i := 59) (by decide +kernel))) (fun C q => by cases q)
  obtain ⟨comp, cD, kD, e1, e2, e3, e4, e5⟩ := Cond.arrayOver_spec (hts _ pr_over)
  refine ⟨(fun k => if k = 0 then c0 else if k = 1 then c1 else if k = 2 then c2 else if k = 3 then c3 else c4, fun k => if k = 0 then i0 else if k = 1 then i1 else if k = 2 then i2 else if k = 3 then i3 else i4), cI, cJ, cZ, cD, ?_, ?_⟩
  · intro k q hq
    match k, hq with
    | 0, hq => cases hq; exact k0
    | 1, hq => cases hq; exact k1
    | 2, hq => cases hq; exact k2
    | 3, hq => cases hq; exact k3
    | 4, hq => cases hq; exact k4
    | k + 5, hq => simp [vwCl] at hq
  · intro k q hq
    match k, hq with
    | 0, hq => cases hq; exact ⟨a1, r1⟩
    | 1, hq => cases hq; exact ⟨a2, r2⟩
    | 2, hq => cases hq; exact ⟨a3, r3⟩
    | 3, hq => cases hq; exact ⟨fun n z => ⟨fun k h => (by cases h), kD, e3, comp, e4⟩, kD, comp, e3, e4, e1, e5⟩
    | k + 4, hq => simp [tyL] at hq
