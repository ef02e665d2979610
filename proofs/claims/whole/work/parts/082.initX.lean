/-! the ring's own constructor -/
def EXr (U : State) : Prop := va_AO "BeaconRing$Dealer" U ∧ va_Nw (.methodLinkNest RX4 15 yX0_init "BeaconRing") U ∧ va_Nw (.methodLinkNest RX4 32 yX3_init "BeaconRing") U
/-- dealer i stands, new -/
def ND (cI : ClassId) (b0 : Nat) (u : Nat → va_E) (i : Nat) : Prop := u (2 + 4 * i) = .inr (0, [.ref (adn b0 (3 + 4 * i)), .ref (adn b0 (4 + 4 * i)), .ref (adn b0 (5 + 4 * i)), .int (nI 0), .int (nI 0), .int (nI 0)]) ∧ u (3 + 4 * i) = .inl (cI, 16, .inl (fun _ => nI 0)) ∧ u (4 + 4 * i) = .inl (cI, 17, .inl (fun _ => nI 0)) ∧ u (5 + 4 * i) = .inl (cI, 17, .inl (fun _ => nI 0))
theorem ND.of {cI : ClassId} {b0 : Nat} {w u : Nat → va_E} {i : Nat} (h : ND cI b0 w i) (he : ∀ z, 2 ≤ z → z < 6 + 4 * i → u z = w z) : ND cI b0 u i :=
  ⟨(he _ (by omega) (by omega)).trans h.1, (he _ (by omega) (by omega)).trans h.2.1, (he _ (by omega) (by omega)).trans h.2.2.1, (he _ (by omega) (by omega)).trans h.2.2.2⟩

set_option maxHeartbeats 4000000 in
set_option maxRecDepth 100000 in
theorem k_initX_loop {l : Launch} {p : Program} {e : Env} {s : State} {m : MethodId} {args : Array Value} {below : List Frame} {meth : Method} {c : Code} {Q : State → Prop} {D : va_G} {cI cJ cZ cD : ClassId} {A : Nat → Prop} {H0 : Heap} {b0 : Nat} (hC : CallFix p m c cX4_init 2 s args wsL_law RX4) (hA : ∀ q, H0.size ≤ q → A q) (hs0 : s.heap.size = b0 + 1) (hE : EXr s)
    (kx : ∀ (f : Nat → Option Nat) (w : Nat → va_E) (ls : Array Slot) (H : Heap) (locs : List Loc), w 0 = .inr (3, [.ref (adn b0 1), .null, .null, .null, .null, .int (nI 0), .int (nI 0), .int (nI 0), .int (nI 0), .int (nI 0)]) → w 1 = .inl (cD, 17, .inr (.inr (.inr (.inr f)))) → (∀ i, i < 17 → f i = some (adn b0 (2 + 4 * i))) → (∀ i, i < 17 → ND cI b0 w i) → WW D vwCl (tyL cI cJ cZ cD) A H0 (adn b0) 70 w s H locs → lv_has ls 2 [(0, .ref (adn b0 0))] → W p l e ({ frames := 3, cells := 76, slots := 1347, locals := 92 }) s m args below meth c H locs 69 969 Q (F0 m 40 ls [])) :
    ∀ (j q : Nat) (f : Nat → Option Nat) (w : Nat → va_E) (ls : Array Slot) (H : Heap) (locs : List Loc), q + j = 17 → w 0 = .inr (3, [.ref (adn b0 1), .null, .null, .null, .null, .int (nI 0), .int (nI 0), .int (nI 0), .int (nI 0), .int (nI 0)]) → w 1 = .inl (cD, 17, .inr (.inr (.inr (.inr f)))) → (∀ i, i < q → f i = some (adn b0 (2 + 4 * i))) → (∀ i, i < q → ND cI b0 w i) → WW D vwCl (tyL cI cJ cZ cD) A H0 (adn b0) (2 + 4 * q) w s H locs → lv_has ls 2 [(0, .ref (adn b0 0)), (1, .int (nI q))] → W p l e ({ frames := 3, cells := 76, slots := 1347, locals := 92 }) s m args below meth c H locs (1 + 4 * q) (17 + 56 * q) Q (F0 m 15 ls []) := by
  obtain ⟨hx, hb, hml, hown, hts⟩ := id hC
  intro j
  induction j with
  | zero =>
    intro q f w ls H locs hq h0 h1 hf hnd hw hl
    obtain rfl : q = 17 := by omega
    have hl : lv_has ls 2 [(0, .ref (adn b0 0)), (1, .int (nI 17))] := hl
    refine lv_iload_n hx hb dX4_init_15 rfl (lv_at hl 1 rfl) ?_
    refine lv_bipush (v := nI 16) hx hb dX4_init_16 (by decide) ?_
    refine lv_icmp_gt (tgt := 40) hx hb dX4_init_18 (by decide) (fun hc => ?_) (fun hc => absurd (by decide) hc)
    exact kx f w ls H locs h0 h1 hf hnd hw (lv_sub hl [0] rfl)
  | succ j ih =>
    intro q f w ls H locs hq h0 h1 hf hnd hw hl
    refine lv_iload_n hx hb dX4_init_15 rfl (lv_at hl 1 rfl) ?_
    refine lv_bipush (v := nI 16) hx hb dX4_init_16 (by decide) ?_
    refine lv_icmp_gt (tgt := 40) hx hb dX4_init_18 (by decide) (fun hc => absurd hc (nI_nlt (by omega) (by omega))) (fun hc => ?_)
    refine lv_aload_n hx hb dX4_init_21 rfl (lv_at hl 0 rfl) ?_
    refine gf_X4_11 hx hb hts hown hw (by omega) h0 rfl dX4_init_22 ?_
    refine lv_iload_n hx hb dX4_init_25 rfl (lv_at hl 1 rfl) ?_
    refine x_sized hw (by omega) (by omega) (fun hsz => ?_)
    refine nw_X4_9 hx hb hts hown hw hA hsz (N2 := 3 + 4 * q) (by omega) (show 1 + 4 * q + 1 ≤ 76 by omega) (show 17 + 56 * q + 6 ≤ 1347 by omega) dX4_init_26 (fun w_1 H ew_2 hw => ?_)
    have hc_3 : w_1 0 = .inr (3, [.ref (adn b0 1), .null, .null, .null, .null, .int (nI 0), .int (nI 0), .int (nI 0), .int (nI 0), .int (nI 0)]) := by rw [ew_2]; exact (va_up_ne _ _ (by omega)).trans h0
    have hc_4 : w_1 1 = .inl (cD, 17, .inr (.inr (.inr (.inr f)))) := by rw [ew_2]; exact (va_up_ne _ _ (by omega)).trans h1
    have hc_5 : w_1 (2 + 4 * q) = .inr (0, [.null, .null, .null, .int (nI 0), .int (nI 0), .int (nI 0)]) := by rw [ew_2]; exact va_up_self _ _ _
    have hf1 : ∀ z, z ≠ 2 + 4 * q → w_1 z = w z := fun z hhf10 => by rw [ew_2, va_up_ne _ _ hhf10]
    refine lv_dup hx hb dX4_init_29 rfl ?_
    refine x_sized hw (by omega) (by omega) (fun hsz => ?_)
    refine x_callNN (host := "BeaconRing") hC (List.mem_of_getElem? (i := 30) (by decide +kernel)) (List.mem_of_getElem? (i := 17) (by decide +kernel)) (List.mem_of_getElem? (i := 29) (by decide +kernel)) rfl ⟨by decide +kernel, by decide +kernel, by decide +kernel⟩ hE.2.1 hw hA hsz (k_initD l q hc_5) ⟨rfl, rfl, Nat.le_of_ble_eq_true rfl, Nat.le_of_ble_eq_true rfl⟩ hl.1 (Nat.le_of_ble_eq_true rfl) dX4_init_30 ⟨(show 1 + 4 * q + 1 + 3 ≤ 76 by omega), (show 17 + 56 * q + 6 + 50 ≤ 1347 by omega)⟩ (fun w9 H locs hu hw => ?_)
    obtain ⟨hu1, hu2, hu3, hu4, hu5⟩ := hu
    have g0 : w9 0 = .inr (3, [.ref (adn b0 1), .null, .null, .null, .null, .int (nI 0), .int (nI 0), .int (nI 0), .int (nI 0), .int (nI 0)]) := (hu1 0 (by omega)).trans hc_3
    have g1 : w9 1 = .inl (cD, 17, .inr (.inr (.inr (.inr f)))) := (hu1 1 (by omega)).trans hc_4
    refine x_aast hx hb hw (k0 := 1) (kv := 2 + 4 * q) (ci := 0) (by omega) 3 g1 rfl (by omega) hu2 rfl (j := q) (by omega) (by decide) dX4_init_33 (fun w10 H locs ew10 hw => ?_)
    refine lv_iinc (v := nI (q + 1)) (lv' := [(1, .int (nI (q + 1))), (0, .ref (adn b0 0))]) hx hb dX4_init_34 hl (k := 1) rfl (nI_1 q) (by decide) rfl (fun ls hl => ?_)
    refine lv_goto (tgt := 15) hx hb dX4_init_37 (by decide) ?_
    have hne : ∀ z, z ≠ 1 → w10 z = w9 z := fun z hz => by rw [ew10]; exact va_up_ne _ _ hz
    refine x_cast (c2 := 1 + 4 * (q + 1)) (s2 := 17 + 56 * (q + 1)) (by omega) (by omega) ?_
    refine ih (q + 1) _ w10 ls H locs (by omega) ((hne 0 (by decide)).trans g0) (by rw [ew10]; exact va_up_self _ _ _) (fun i hi => ?_) (fun i hi => ?_) (by rw [show 2 + 4 * (q + 1) = 6 + 4 * q by omega]; exact hw) (lv_sub hl [1, 0] rfl)
    · by_cases hii : i = q
      · subst hii; exact va_up_self _ _ _
      · rw [va_up_ne _ _ hii]; exact hf i (by omega)
    · by_cases hii : i = q
      · subst hii; exact ND.of (w := w9) ⟨hu2, hu3, hu4, hu5⟩ (fun z h1 _ => hne z (by omega))
      · exact (hnd i (by omega)).of (fun z h1 h2 => (hne z (by omega)).trans ((hu1 z (by omega)).trans (hf1 z (by omega))))
set_option maxHeartbeats 4000000 in
set_option maxRecDepth 100000 in
theorem k_initX (l : Launch) {D : va_G} {cI cJ cZ cD : ClassId} {b0 : Nat} {w : Nat → va_E} (ks pt : Nat → Nat) (co sh : Nat → Nat → Nat) (vs : Nat → Int64) (h0 : w 0 = .inr (3, [.null, .null, .null, .null, .null, .int (nI 0), .int (nI 0), .int (nI 0), .int (nI 0), .int (nI 0)])) : MN l yX4_init (.code yX4_init cX4_init 2 none) ({ frames := 3, cells := 76, slots := 1347, locals := 92 }) [.ref (adn b0 0)] D (tyL cI cJ cZ cD) (EXr) b0 (1) w (77) 76 1347 (fun u => RC (adn b0) cI cJ cD u 0 0 0 0 0 0 (fun _ => 0) (fun _ => 0) (fun _ => 0) ks pt co sh vs) := by
  refine MN.of (by decide) rfl (Nat.le_of_ble_eq_true rfl) ?_
  intro p e s m below meth c ls hC hr hlocks hin hl hw hs0 hE
  obtain ⟨hx, hb, hml, hown, hts⟩ := id hC
  have hA : ∀ q, s.heap.size ≤ q → xA (adn b0) (1) (b0 + (1)) q := fun q h => Or.inr (by omega)
  have hl : lv_has ls 2 [(0, .ref (adn b0 0))] := hl
  refine lv_aload_n hx hb dX4_init_0 rfl (lv_at hl 0 rfl) ?_
  refine W.objInit hx hb hown (hts _ (List.mem_of_getElem? (i := 11) (by decide +kernel))) (hts _ (List.mem_of_getElem? (i := 12) (by decide +kernel))) (hts _ (List.mem_of_getElem? (i := 13) (by decide +kernel))) rfl (by rw [hml]; exact hl.1) rfl dX4_init_1 (Nat.le_of_ble_eq_true rfl) (Nat.le_of_ble_eq_true rfl) ?_
  refine lv_aload_n hx hb dX4_init_4 rfl (lv_at hl 0 rfl) ?_
  refine lv_bipush (v := nI 17) hx hb dX4_init_5 (by decide) ?_
  refine x_sized hw (by omega) (by omega) (fun hsz => ?_)
  refine x_newq hx hb hown (hts _ (List.mem_of_getElem? (i := 14) (by decide +kernel))) hE.1 hw hA hsz (N2 := 2) (by omega) 3 rfl (by decide) (by decide) (Nat.le_of_ble_eq_true rfl) (Nat.le_of_ble_eq_true rfl) dX4_init_7 (fun w_1 H ew_2 hw => ?_)
  have hc_3 : w_1 0 = .inr (3, [.null, .null, .null, .null, .null, .int (nI 0), .int (nI 0), .int (nI 0), .int (nI 0), .int (nI 0)]) := by rw [ew_2]; exact (va_up_ne _ _ (by omega)).trans h0
  have hc_4 : w_1 1 = .inl (cD, 17, .inr (.inr (.inr (.inr (fun _ => none))))) := by rw [ew_2]; exact va_up_self _ _ _
  refine pF_X4_11 hx hb hts hown hin hw (by omega) hc_3 (Nat.le_of_ble_eq_true rfl) dX4_init_10 (fun w_5 H locs ew_6 hw => ?_)
  have hc_7 : w_5 0 = .inr (3, [.ref (adn b0 1), .null, .null, .null, .null, .int (nI 0), .int (nI 0), .int (nI 0), .int (nI 0), .int (nI 0)]) := by rw [ew_6]; exact va_up_self _ _ _
  have hc_8 : w_5 1 = .inl (cD, 17, .inr (.inr (.inr (.inr (fun _ => none))))) := by rw [ew_6]; exact (va_up_ne _ _ (by omega)).trans hc_4
  refine lv_iconst (v := nI 0) hx hb dX4_init_13 (by decide) ?_
  refine lv_istore_n (lv' := [(1, .int (nI 0)), (0, .ref (adn b0 0))]) hx hb dX4_init_14 rfl hl (by decide) rfl (fun ls hl => ?_)
  refine k_initX_loop hC hA hs0 hE (fun f w5 ls H locs g0 g1 hf hnd hw hl => ?_) 17 0 _ _ ls H locs (by decide) hc_7 hc_8 (fun i hi => absurd hi (by omega)) (fun i hi => absurd hi (by omega)) hw (lv_sub hl [1, 0] rfl)
  refine lv_aload_n hx hb dX4_init_40 rfl (lv_at hl 0 rfl) ?_
  refine lv_bipush (v := nI 17) hx hb dX4_init_41 (by decide) ?_
  refine x_sized hw (by omega) (by omega) (fun hsz => ?_)
  refine x_newa (atype := .int) (a0 := (17, .inl (fun _ => nI 0))) hx hb rfl (hts _ (List.mem_of_getElem? (i := 18) (by decide +kernel))) hw hA hsz (N2 := 71) (by omega) 0 rfl (fun _ => rfl) (by decide) (by decide) (Nat.le_of_ble_eq_true rfl) (Nat.le_of_ble_eq_true rfl) dX4_init_43 (fun w_9 H ew_10 hw => ?_)
  have hc_11 : w_9 0 = .inr (3, [.ref (adn b0 1), .null, .null, .null, .null, .int (nI 0), .int (nI 0), .int (nI 0), .int (nI 0), .int (nI 0)]) := by rw [ew_10]; exact (va_up_ne _ _ (by omega)).trans g0
  have hc_12 : w_9 1 = .inl (cD, 17, .inr (.inr (.inr (.inr f)))) := by rw [ew_10]; exact (va_up_ne _ _ (by omega)).trans g1
  have hc_13 : w_9 70 = .inl (cI, 17, .inl (fun _ => nI 0)) := by rw [ew_10]; exact va_up_self _ _ _
  refine pF_X4_16 hx hb hts hown hin hw (by omega) hc_11 (Nat.le_of_ble_eq_true rfl) dX4_init_45 (fun w_14 H locs ew_15 hw => ?_)
  have hc_16 : w_14 0 = .inr (3, [.ref (adn b0 1), .ref (adn b0 70), .null, .null, .null, .int (nI 0), .int (nI 0), .int (nI 0), .int (nI 0), .int (nI 0)]) := by rw [ew_15]; exact va_up_self _ _ _
  have hc_17 : w_14 1 = .inl (cD, 17, .inr (.inr (.inr (.inr f)))) := by rw [ew_15]; exact (va_up_ne _ _ (by omega)).trans hc_12
  have hc_18 : w_14 70 = .inl (cI, 17, .inl (fun _ => nI 0)) := by rw [ew_15]; exact (va_up_ne _ _ (by omega)).trans hc_13
  refine lv_aload_n hx hb dX4_init_48 rfl (lv_at hl 0 rfl) ?_
  refine lv_bipush (v := nI 17) hx hb dX4_init_49 (by decide) ?_
  refine x_sized hw (by omega) (by omega) (fun hsz => ?_)
  refine x_newa (atype := .int) (a0 := (17, .inl (fun _ => nI 0))) hx hb rfl (hts _ (List.mem_of_getElem? (i := 18) (by decide +kernel))) hw hA hsz (N2 := 72) (by omega) 0 rfl (fun _ => rfl) (by decide) (by decide) (Nat.le_of_ble_eq_true rfl) (Nat.le_of_ble_eq_true rfl) dX4_init_51 (fun w_19 H ew_20 hw => ?_)
  have hc_21 : w_19 0 = .inr (3, [.ref (adn b0 1), .ref (adn b0 70), .null, .null, .null, .int (nI 0), .int (nI 0), .int (nI 0), .int (nI 0), .int (nI 0)]) := by rw [ew_20]; exact (va_up_ne _ _ (by omega)).trans hc_16
  have hc_22 : w_19 1 = .inl (cD, 17, .inr (.inr (.inr (.inr f)))) := by rw [ew_20]; exact (va_up_ne _ _ (by omega)).trans hc_17
  have hc_23 : w_19 70 = .inl (cI, 17, .inl (fun _ => nI 0)) := by rw [ew_20]; exact (va_up_ne _ _ (by omega)).trans hc_18
  have hc_24 : w_19 71 = .inl (cI, 17, .inl (fun _ => nI 0)) := by rw [ew_20]; exact va_up_self _ _ _
  refine pF_X4_20 hx hb hts hown hin hw (by omega) hc_21 (Nat.le_of_ble_eq_true rfl) dX4_init_53 (fun w_25 H locs ew_26 hw => ?_)
  have hc_27 : w_25 0 = .inr (3, [.ref (adn b0 1), .ref (adn b0 70), .ref (adn b0 71), .null, .null, .int (nI 0), .int (nI 0), .int (nI 0), .int (nI 0), .int (nI 0)]) := by rw [ew_26]; exact va_up_self _ _ _
  have hc_28 : w_25 1 = .inl (cD, 17, .inr (.inr (.inr (.inr f)))) := by rw [ew_26]; exact (va_up_ne _ _ (by omega)).trans hc_22
  have hc_29 : w_25 70 = .inl (cI, 17, .inl (fun _ => nI 0)) := by rw [ew_26]; exact (va_up_ne _ _ (by omega)).trans hc_23
  have hc_30 : w_25 71 = .inl (cI, 17, .inl (fun _ => nI 0)) := by rw [ew_26]; exact (va_up_ne _ _ (by omega)).trans hc_24
  refine lv_aload_n hx hb dX4_init_56 rfl (lv_at hl 0 rfl) ?_
  refine x_sized hw (by omega) (by omega) (fun hsz => ?_)
  refine nw_X4_23 hx hb hts hown hw hA hsz (N2 := 73) (by omega) (Nat.le_of_ble_eq_true rfl) (Nat.le_of_ble_eq_true rfl) dX4_init_57 (fun w_31 H ew_32 hw => ?_)
  have hc_33 : w_31 0 = .inr (3, [.ref (adn b0 1), .ref (adn b0 70), .ref (adn b0 71), .null, .null, .int (nI 0), .int (nI 0), .int (nI 0), .int (nI 0), .int (nI 0)]) := by rw [ew_32]; exact (va_up_ne _ _ (by omega)).trans hc_27
  have hc_34 : w_31 1 = .inl (cD, 17, .inr (.inr (.inr (.inr f)))) := by rw [ew_32]; exact (va_up_ne _ _ (by omega)).trans hc_28
  have hc_35 : w_31 70 = .inl (cI, 17, .inl (fun _ => nI 0)) := by rw [ew_32]; exact (va_up_ne _ _ (by omega)).trans hc_29
  have hc_36 : w_31 71 = .inl (cI, 17, .inl (fun _ => nI 0)) := by rw [ew_32]; exact (va_up_ne _ _ (by omega)).trans hc_30
  have hc_37 : w_31 72 = .inr (1, [.null, .null, .null, .int (nI 0), .int (nI 0), .long (lN 0), .int (nI 0)]) := by rw [ew_32]; exact va_up_self _ _ _
  refine lv_dup hx hb dX4_init_60 rfl ?_
  refine x_sized hw (by omega) (by omega) (fun hsz => ?_)
  refine x_callN (EX := fun _ => True) hC if_X4_25 hw hA hsz (fun _ _ _ _ _ => trivial) (fun _ _ => trivial) (k_initR l hc_37) ⟨rfl, rfl, Nat.le_of_ble_eq_true rfl, Nat.le_of_ble_eq_true rfl⟩ hl.1 (Nat.le_of_ble_eq_true rfl) dX4_init_61 ⟨Nat.le_of_ble_eq_true rfl, Nat.le_of_ble_eq_true rfl⟩ (fun w6 H locs hu hw => ?_)
  have hf5 : ∀ z, z ≠ 70 → z ≠ 0 → z ≠ 71 → z ≠ 72 → w_31 z = w5 z := fun z hhf50 hhf51 hhf52 hhf53 => by rw [ew_32, va_up_ne _ _ hhf53, ew_26, va_up_ne _ _ hhf51, ew_20, va_up_ne _ _ hhf52, ew_15, va_up_ne _ _ hhf51, ew_10, va_up_ne _ _ hhf50]
  obtain ⟨hu1, hu2, hu3, hu4, ivf, hu5, hiv⟩ := hu
  have i0 : w6 0 = .inr (3, [.ref (adn b0 1), .ref (adn b0 70), .ref (adn b0 71), .null, .null, .int (nI 0), .int (nI 0), .int (nI 0), .int (nI 0), .int (nI 0)]) := (hu1 0 (by decide)).trans hc_33
  have i1 : w6 1 = .inl (cD, 17, .inr (.inr (.inr (.inr f)))) := (hu1 1 (by decide)).trans hc_34
  have i70 : w6 70 = .inl (cI, 17, .inl (fun _ => nI 0)) := (hu1 70 (by decide)).trans hc_35
  have i71 : w6 71 = .inl (cI, 17, .inl (fun _ => nI 0)) := (hu1 71 (by decide)).trans hc_36
  refine pF_X4_26 hx hb hts hown hin hw (by omega) i0 (Nat.le_of_ble_eq_true rfl) dX4_init_64 (fun w_38 H locs ew_39 hw => ?_)
  have hc_40 : w_38 0 = .inr (3, [.ref (adn b0 1), .ref (adn b0 70), .ref (adn b0 71), .ref (adn b0 72), .null, .int (nI 0), .int (nI 0), .int (nI 0), .int (nI 0), .int (nI 0)]) := by rw [ew_39]; exact va_up_self _ _ _
  have hc_41 : w_38 1 = .inl (cD, 17, .inr (.inr (.inr (.inr f)))) := by rw [ew_39]; exact (va_up_ne _ _ (by omega)).trans i1
  have hc_42 : w_38 70 = .inl (cI, 17, .inl (fun _ => nI 0)) := by rw [ew_39]; exact (va_up_ne _ _ (by omega)).trans i70
  have hc_43 : w_38 71 = .inl (cI, 17, .inl (fun _ => nI 0)) := by rw [ew_39]; exact (va_up_ne _ _ (by omega)).trans i71
  have hc_44 : w_38 72 = .inr (1, [.ref (adn b0 73), .ref (adn b0 74), .ref (adn b0 75), .int (nI 0), .int (nI 0), .long (lN 0), .int (nI 0)]) := by rw [ew_39]; exact (va_up_ne _ _ (by omega)).trans hu2
  refine lv_aload_n hx hb dX4_init_67 rfl (lv_at hl 0 rfl) ?_
  refine x_sized hw (by omega) (by omega) (fun hsz => ?_)
  refine nw_X4_30 hx hb hts hown hw hA hsz (N2 := 77) (by omega) (Nat.le_of_ble_eq_true rfl) (Nat.le_of_ble_eq_true rfl) dX4_init_68 (fun w_45 H ew_46 hw => ?_)
  have hc_47 : w_45 0 = .inr (3, [.ref (adn b0 1), .ref (adn b0 70), .ref (adn b0 71), .ref (adn b0 72), .null, .int (nI 0), .int (nI 0), .int (nI 0), .int (nI 0), .int (nI 0)]) := by rw [ew_46]; exact (va_up_ne _ _ (by omega)).trans hc_40
  have hc_48 : w_45 1 = .inl (cD, 17, .inr (.inr (.inr (.inr f)))) := by rw [ew_46]; exact (va_up_ne _ _ (by omega)).trans hc_41
  have hc_49 : w_45 70 = .inl (cI, 17, .inl (fun _ => nI 0)) := by rw [ew_46]; exact (va_up_ne _ _ (by omega)).trans hc_42
  have hc_50 : w_45 71 = .inl (cI, 17, .inl (fun _ => nI 0)) := by rw [ew_46]; exact (va_up_ne _ _ (by omega)).trans hc_43
  have hc_51 : w_45 72 = .inr (1, [.ref (adn b0 73), .ref (adn b0 74), .ref (adn b0 75), .int (nI 0), .int (nI 0), .long (lN 0), .int (nI 0)]) := by rw [ew_46]; exact (va_up_ne _ _ (by omega)).trans hc_44
  have hc_52 : w_45 76 = .inr (2, [.int (nI 0), .int (nI 0), .int (nI 0)]) := by rw [ew_46]; exact va_up_self _ _ _
  refine lv_dup hx hb dX4_init_71 rfl ?_
  refine x_sized hw (by omega) (by omega) (fun hsz => ?_)
  refine x_callNN (host := "BeaconRing") hC (List.mem_of_getElem? (i := 53) (by decide +kernel)) (List.mem_of_getElem? (i := 27) (by decide +kernel)) (List.mem_of_getElem? (i := 52) (by decide +kernel)) rfl ⟨by decide +kernel, by decide +kernel, by decide +kernel⟩ hE.2.2 hw hA hsz (k_initS l) ⟨rfl, rfl, Nat.le_of_ble_eq_true rfl, Nat.le_of_ble_eq_true rfl⟩ hl.1 (Nat.le_of_ble_eq_true rfl) dX4_init_72 ⟨Nat.le_of_ble_eq_true rfl, Nat.le_of_ble_eq_true rfl⟩ (fun w7 H locs hu7 hw => ?_)
  rw [hu7] at hw
  refine pF_X4_33 hx hb hts hown hin hw (by omega) hc_47 (Nat.le_of_ble_eq_true rfl) dX4_init_75 (fun w_53 H locs ew_54 hw => ?_)
  have hc_55 : w_53 0 = .inr (3, [.ref (adn b0 1), .ref (adn b0 70), .ref (adn b0 71), .ref (adn b0 72), .ref (adn b0 76), .int (nI 0), .int (nI 0), .int (nI 0), .int (nI 0), .int (nI 0)]) := by rw [ew_54]; exact va_up_self _ _ _
  have hc_56 : w_53 1 = .inl (cD, 17, .inr (.inr (.inr (.inr f)))) := by rw [ew_54]; exact (va_up_ne _ _ (by omega)).trans hc_48
  have hc_57 : w_53 70 = .inl (cI, 17, .inl (fun _ => nI 0)) := by rw [ew_54]; exact (va_up_ne _ _ (by omega)).trans hc_49
  have hc_58 : w_53 71 = .inl (cI, 17, .inl (fun _ => nI 0)) := by rw [ew_54]; exact (va_up_ne _ _ (by omega)).trans hc_50
  have hc_59 : w_53 72 = .inr (1, [.ref (adn b0 73), .ref (adn b0 74), .ref (adn b0 75), .int (nI 0), .int (nI 0), .long (lN 0), .int (nI 0)]) := by rw [ew_54]; exact (va_up_ne _ _ (by omega)).trans hc_51
  have hc_60 : w_53 76 = .inr (2, [.int (nI 0), .int (nI 0), .int (nI 0)]) := by rw [ew_54]; exact (va_up_ne _ _ (by omega)).trans hc_52
  have hf6 : ∀ z, z ≠ 0 → z ≠ 76 → w_53 z = w6 z := fun z hhf60 hhf61 => by rw [ew_54, va_up_ne _ _ hhf60, ew_46, va_up_ne _ _ hhf61, ew_39, va_up_ne _ _ hhf60]
  have hall : ∀ z, z ≠ 0 → z < 70 → w_53 z = w5 z := fun z h1 h2 => (hf6 z (by omega) (by omega)).trans ((hu1 z (by omega)).trans (hf5 z (by omega) (by omega) (by omega) (by omega)))
  refine x_nret hx hb hr hlocks hw ⟨⟨nI 0, hc_55, fun q => absurd q (by decide)⟩, ⟨f, hc_56, hf⟩, fun i hi => ?_, ⟨_, _, hc_57, hc_58, fun q => absurd q (by decide)⟩, ⟨_, _, _, _, ivf, hc_59, (hf6 73 (by decide) (by decide)).trans hu3, (hf6 74 (by decide) (by decide)).trans hu4, (hf6 75 (by decide) (by decide)).trans hu5, fun q => absurd q (by decide), fun k q => absurd q (by rw [tb_zero]; decide), hiv⟩, ⟨_, _, _, hc_60⟩⟩ dX4_init_78
  obtain ⟨n1, n2, n3, n4⟩ := hnd i hi
  exact ⟨_, _, _, (hall _ (by omega) (by omega)).trans n1, (hall _ (by omega) (by omega)).trans n2, (hall _ (by omega) (by omega)).trans n3, (hall _ (by omega) (by omega)).trans n4, fun _ _ (q : (0 : Nat) = 1) => absurd q (by decide)⟩
