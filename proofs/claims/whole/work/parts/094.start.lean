/-! the law, from its entry -/
theorem EXr.calling {U : State} {g : JFrame} {mk : MethodId} {a : Array Value} (h : EXr U) : EXr (U.calling g mk a) :=
  ⟨va_AO.moved (u := U) (U := U.calling g mk a) (Vm.Alike.refl U.vm) h.1, va_Nw.same rfl (u := U) rfl h.2.1, va_Nw.same rfl (u := U) rfl h.2.2⟩
theorem EXr.warm {s U : State} (hW : s.WarmedH U.vm) (h : EXr s) : EXr U := ⟨va_AO.moved hW.alike h.1, va_Nw.warmM hW h.2.1, va_Nw.warmM hW h.2.2⟩

set_option maxHeartbeats 4000000 in
set_option maxRecDepth 100000 in
theorem whole_start {p : Program} {e : Env} {s : State} {m : MethodId} {below : List Frame} {meth : Method} {c : Code} (l : Launch) (hl0 : l.stackTraces = false) {b L : Nat} {xs : Nat → Int32} (hL : L ≤ 3072) (C0 : lw_At p s m meth c b L xs) : W p l e room_1 s m #[Value.ref b] below meth c s.heap [] 0 0 (lw_Z below #[Value.ref b] s) (entryFrame m ([Value.ref b] : List Value).toArray 8) := by
  obtain ⟨hx, hb, hr, hml, hown0, hts0, hX, hbl, hlocks, hgv⟩ := id C0
  have hown : s.vm.findClass RL = some m.cls := hown0
  have hts : ∀ w ∈ wsL_law, w.before #[Value.ref b] s = true := fun w h => hts0 w (wsL_law_in w h)
  have hC : CallFix p m c cL_law 8 s #[.ref b] wsL_law RL := ⟨hx, hb, hml, hown, hts⟩
  have hA : ∀ q, s.heap.size ≤ q → (fun q => s.heap.size ≤ q) q := fun _ h => h
  obtain ⟨sa, hT⟩ := pr_TH hts0 hgv
  have hE := pr_EX hts0
  obtain ⟨D, cI, cJ, cZ, cD, hK⟩ := pr_K hts0
  obtain ⟨b0, hs0⟩ : ∃ b0, s.heap.size = b0 := ⟨_, rfl⟩
  have hl := lv_entry ([.ref b]) (n := 8) (Nat.le_of_ble_eq_true rfl)
  rw [lg_entry_eq]
  generalize (lg_sl ([.ref b]) ++ List.replicate (8 - (lg_sl ([.ref b])).length) Slot.unset).toArray = ls at hl ⊢
  have hl : lv_has ls 8 [(0, .ref b)] := hl
  have hw : WW D vwCl (tyL cI cJ cZ cD) (fun q => s.heap.size ≤ q) s.heap (adn b0) 0 (fun _ => .inr (0, [])) s s.heap [] := ⟨hK, fun k q h => (by have h2 := (wl_inv h).1; omega), ⟨fun i j p q h => (by have h2 := (wl_inv h).1; omega), fun k q h => (by have h2 := (wl_inv h).1; omega)⟩, va_S.rf⟩
  have hsz : s.heap.size = adn b0 0 := hs0
  refine nw_L_8 hx hb hts hown hw hA hsz (N2 := 1) rfl (Nat.le_of_ble_eq_true rfl) (Nat.le_of_ble_eq_true rfl) dL_law_0 (fun w_1 H ew_2 hw => ?_)
  have hc_3 : w_1 0 = .inr (3, [.null, .null, .null, .null, .null, .int (nI 0), .int (nI 0), .int (nI 0), .int (nI 0), .int (nI 0)]) := by rw [ew_2]; exact va_up_self _ _ _
  refine lv_dup hx hb dL_law_3 rfl ?_
  refine x_sized hw (by decide) (by omega) (fun hsz => ?_)
  refine x_callN (EX := EXr) hC if_L_79 hw hA hsz (fun _ _ _ _ h => h.calling) (fun U hW => hE.warm hW) (k_initX l (fun _ => 0) (fun _ => 0) (fun _ _ => 0) (fun _ _ => 0) (fun _ => lN 0) hc_3) ⟨rfl, rfl, Nat.le_of_ble_eq_true rfl, Nat.le_of_ble_eq_true rfl⟩ hl.1 (Nat.le_of_ble_eq_true rfl) dL_law_4 ⟨Nat.le_of_ble_eq_true rfl, Nat.le_of_ble_eq_true rfl⟩ (fun u1 H locs hRC hw => ?_)
  refine lv_astore_n (lv' := [(1, .ref (adn b0 0)), (0, .ref b)]) hx hb dL_law_7 rfl hl (by decide) rfl (fun ls hl => ?_)
  refine x_sized hw (by decide) (by omega) (fun hsz => ?_)
  refine nw_L_80 hx hb hts hown hw hA hsz (N2 := 78) rfl (Nat.le_of_ble_eq_true rfl) (Nat.le_of_ble_eq_true rfl) dL_law_8 (fun u2 H eu2 hw => ?_)
  have hM2 : u2 77 = .inr (4, [.int (nI 0), .int (nI 0), .int (nI 0), .int (nI 0), .null, .null, .null, .null, .null, .null, .int (nI 0), .null, .null, .null, .int (nI 0), .int (nI 0), .null, .long (lN 0)]) := by rw [eu2]; exact va_up_self _ _ _
  refine lv_dup hx hb dL_law_11 rfl ?_
  refine x_sized hw (by decide) (by omega) (fun hsz => ?_)
  refine x_callN (EX := fun _ => True) hC if_L_82 hw hA hsz (fun _ _ _ _ h => h) (fun _ _ => trivial) (k_initM l (fun _ => 0) (fun _ => 0) (fun _ _ => 0) (fun _ _ => 0) (fun _ => lN 0) hM2) ⟨rfl, rfl, Nat.le_of_ble_eq_true rfl, Nat.le_of_ble_eq_true rfl⟩ hl.1 (Nat.le_of_ble_eq_true rfl) dL_law_12 ⟨Nat.le_of_ble_eq_true rfl, Nat.le_of_ble_eq_true rfl⟩ (fun u3 H locs hu3 hw => ?_)
  refine lv_astore_n (lv' := [(2, .ref (adn b0 77)), (1, .ref (adn b0 0)), (0, .ref b)]) hx hb dL_law_15 rfl hl (by decide) rfl (fun ls hl => ?_)
  refine lv_iconst (v := nI 1) hx hb dL_law_16 (by decide) ?_
  refine x_sized hw (by decide) (by omega) (fun hsz => ?_)
  refine x_newa (atype := .long) (a0 := (1, .inr (.inl (fun _ => lN 0)))) hx hb rfl (hts _ (List.mem_of_getElem? (i := 6) (by decide +kernel))) hw hA hsz (N2 := 89) rfl 1 rfl (fun _ => rfl) (by decide) (by decide) (Nat.le_of_ble_eq_true rfl) (Nat.le_of_ble_eq_true rfl) dL_law_17 (fun u4 H eu4 hw => ?_)
  refine lv_astore_n (lv' := [(3, .ref (adn b0 88)), (2, .ref (adn b0 77)), (1, .ref (adn b0 0)), (0, .ref b)]) hx hb dL_law_19 rfl hl (by decide) rfl (fun ls hl => ?_)
  refine lv_iconst (v := nI 0) hx hb dL_law_20 (by decide) ?_
  refine lv_istore (lv' := [(4, .int (nI 0)), (3, .ref (adn b0 88)), (2, .ref (adn b0 77)), (1, .ref (adn b0 0)), (0, .ref b)]) hx hb dL_law_21 hl (by decide) rfl (fun ls hl => ?_)
  have f4 : ∀ z, z ≠ 88 → u4 z = u3 z := fun z hz => by rw [eu4]; exact va_up_ne _ _ hz
  have f2 : ∀ z, z ≠ 77 → u2 z = u1 z := fun z hz => by rw [eu2]; exact va_up_ne _ _ hz
  refine law_loop (ad := adn b0) hl0 hC (hts0 _ pr_iniL) hX hbl hT hL hr hlocks 512 0 u4 H _ ls (by omega) (by decide) ⟨nI 0, 0, 0, 0, 0, 0, 0, fun _ => 0, fun _ => 0, fun _ => 0, fun _ => 0, fun _ => 0, fun _ _ => 0, fun _ _ => 0, fun _ => lN 0, fun _ => lN 0, ok_begin (by decide) (by decide), fun h => absurd h (by decide), RC.of hRC (fun z hz => (f4 z (by omega)).trans ((hu3.1 z (by omega)).trans (f2 z (by omega)))), RM.of hu3.2 (fun z h1 h2 => f4 z (by omega)), by rw [eu4]; exact va_up_self _ _ _⟩ hw (lv_sub hl [4, 3, 2, 1, 0] rfl)
