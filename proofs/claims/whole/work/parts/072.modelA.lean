/-! the reference: begin, deal, spoil, commitment, share, isRight, complain, answer -/
theorem uZ_s (f : Nat → Int32) (k : Nat) (x : Int32) : upd f k x k = x := upd_s f k x
theorem i1747 {i k a b : Nat} (hk : k < 17) (hb : b < 17) : 17 * i + k = 17 * a + b ↔ i = a ∧ k = b := by omega

set_option maxHeartbeats 4000000 in
set_option maxRecDepth 100000 in
theorem k5_begin1 {l : Launch} {p : Program} {e : Env} {s : State} {m : MethodId} {args : Array Value} {below : List Frame} {meth : Method} {c : Code} {Q : State → Prop} {D : va_G} {cI cJ cZ cD : ClassId} {ad : Nat → Nat} {A : Nat → Prop} {H0 : Heap} {w0 : Nat → va_E} (hC : CallFix p m c cX5_begin 4 s args wsL_law RX5) (hA : ∀ q, H0.size ≤ q → A q) (cd : Int32) (n t cl qu en kp : Nat) (hs : Int64) (hM : w0 77 = .inr (4, [.int cd, .int (nI n), .int (nI t), .int (nI cl), .ref (ad 78), .ref (ad 79), .ref (ad 80), .ref (ad 81), .ref (ad 82), .ref (ad 83), .int (nI qu), .ref (ad 84), .ref (ad 85), .ref (ad 86), .int (nI en), .int (nI kp), .ref (ad 87), .long hs]))
    (kx : ∀ (dz : Nat → Int32) (oz : Nat → Int32) (w : Nat → va_E) (ls : Array Slot) (H : Heap) (locs : List Loc), (∀ z, z ≠ 78 → z ≠ 79 → w z = w0 z) → w 78 = .inl (cZ, 17, .inl dz) → w 79 = .inl (cZ, 17, .inl oz) → (∀ i, i < 17 → dz i = nI 0 ∧ oz i = nI 0) → WW D vwCl (tyL cI cJ cZ cD) A H0 ad 89 w s H locs → lv_has ls 4 [(0, .ref (ad 77))] → W p l e ({ frames := 1, cells := 0, slots := 0, locals := 29 }) s m args below meth c H locs 0 0 Q (F0 m 92 ls [])) :
    ∀ (j q : Nat) (dz : Nat → Int32) (oz : Nat → Int32) (w : Nat → va_E) (ls : Array Slot) (H : Heap) (locs : List Loc), q + j = 17 → (∀ z, z ≠ 78 → z ≠ 79 → w z = w0 z) → w 78 = .inl (cZ, 17, .inl dz) → w 79 = .inl (cZ, 17, .inl oz) → (∀ i, i < q → dz i = nI 0 ∧ oz i = nI 0) → WW D vwCl (tyL cI cJ cZ cD) A H0 ad 89 w s H locs → lv_has ls 4 [(0, .ref (ad 77)), (3, .int (nI q))] → W p l e ({ frames := 1, cells := 0, slots := 0, locals := 29 }) s m args below meth c H locs 0 0 Q (F0 m 66 ls []) := by
  obtain ⟨hx, hb, hml, hown, hts⟩ := id hC
  intro j
  induction j with
  | zero =>
    intro q dz oz w ls H locs hq hfr hd1 hd2 hz hw hl
    obtain rfl : q = 17 := by omega
    have hl : lv_has ls 4 [(0, .ref (ad 77)), (3, .int (nI 17))] := hl
    have hM : w 77 = .inr (4, [.int cd, .int (nI n), .int (nI t), .int (nI cl), .ref (ad 78), .ref (ad 79), .ref (ad 80), .ref (ad 81), .ref (ad 82), .ref (ad 83), .int (nI qu), .ref (ad 84), .ref (ad 85), .ref (ad 86), .int (nI en), .int (nI kp), .ref (ad 87), .long hs]) := (hfr 77 (by decide) (by decide)).trans hM
    refine lv_iload_n hx hb dX5_begin_66 rfl (lv_at hl 1 rfl) ?_
    refine lv_bipush (v := nI 17) hx hb dX5_begin_67 (by decide) ?_
    refine lv_icmp_ge (tgt := 92) hx hb dX5_begin_69 (by decide) (fun hc => ?_) (fun hc => absurd (nI_le (by omega) (by omega)) hc)
    exact kx dz oz w ls H locs hfr hd1 hd2 hz hw (lv_sub hl [0] rfl)
  | succ j ih =>
    intro q dz oz w ls H locs hq hfr hd1 hd2 hz hw hl
    have hM : w 77 = .inr (4, [.int cd, .int (nI n), .int (nI t), .int (nI cl), .ref (ad 78), .ref (ad 79), .ref (ad 80), .ref (ad 81), .ref (ad 82), .ref (ad 83), .int (nI qu), .ref (ad 84), .ref (ad 85), .ref (ad 86), .int (nI en), .int (nI kp), .ref (ad 87), .long hs]) := (hfr 77 (by decide) (by decide)).trans hM
    refine lv_iload_n hx hb dX5_begin_66 rfl (lv_at hl 1 rfl) ?_
    refine lv_bipush (v := nI 17) hx hb dX5_begin_67 (by decide) ?_
    refine lv_icmp_ge (tgt := 92) hx hb dX5_begin_69 (by decide) (fun hc => absurd hc (fun q => by rw [nI_leI (by omega) (by omega)] at q; omega)) (fun hc => ?_)
    refine lv_aload_n hx hb dX5_begin_72 rfl (lv_at hl 0 rfl) ?_
    refine gf_X5_7 hx hb hts hown hw (by decide) hM rfl dX5_begin_73 ?_
    refine lv_iload_n hx hb dX5_begin_76 rfl (lv_at hl 1 rfl) ?_
    refine lv_iconst (v := nI 0) hx hb dX5_begin_77 (by decide) ?_
    refine x_zast hx hb hw (by decide) 2 hd1 rfl (j := q) (by omega) (by decide) (by decide) dX5_begin_78 (fun w_1 H locs ew_2 hw => ?_)
    have hc_3 : w_1 77 = .inr (4, [.int cd, .int (nI n), .int (nI t), .int (nI cl), .ref (ad 78), .ref (ad 79), .ref (ad 80), .ref (ad 81), .ref (ad 82), .ref (ad 83), .int (nI qu), .ref (ad 84), .ref (ad 85), .ref (ad 86), .int (nI en), .int (nI kp), .ref (ad 87), .long hs]) := by rw [ew_2]; exact (va_up_ne _ _ (by omega)).trans hM
    have hc_4 : w_1 78 = .inl (cZ, 17, .inl (upd dz q (nI 0))) := by rw [ew_2]; exact va_up_self _ _ _
    have hc_5 : w_1 79 = .inl (cZ, 17, .inl oz) := by rw [ew_2]; exact (va_up_ne _ _ (by omega)).trans hd2
    refine lv_aload_n hx hb dX5_begin_79 rfl (lv_at hl 0 rfl) ?_
    refine gf_X5_13 hx hb hts hown hw (by decide) hc_3 rfl dX5_begin_80 ?_
    refine lv_iload_n hx hb dX5_begin_83 rfl (lv_at hl 1 rfl) ?_
    refine lv_iconst (v := nI 0) hx hb dX5_begin_84 (by decide) ?_
    refine x_zast hx hb hw (by decide) 2 hc_5 rfl (j := q) (by omega) (by decide) (by decide) dX5_begin_85 (fun w_6 H locs ew_7 hw => ?_)
    have hc_8 : w_6 77 = .inr (4, [.int cd, .int (nI n), .int (nI t), .int (nI cl), .ref (ad 78), .ref (ad 79), .ref (ad 80), .ref (ad 81), .ref (ad 82), .ref (ad 83), .int (nI qu), .ref (ad 84), .ref (ad 85), .ref (ad 86), .int (nI en), .int (nI kp), .ref (ad 87), .long hs]) := by rw [ew_7]; exact (va_up_ne _ _ (by omega)).trans hc_3
    have hc_9 : w_6 78 = .inl (cZ, 17, .inl (upd dz q (nI 0))) := by rw [ew_7]; exact (va_up_ne _ _ (by omega)).trans hc_4
    have hc_10 : w_6 79 = .inl (cZ, 17, .inl (upd oz q (nI 0))) := by rw [ew_7]; exact va_up_self _ _ _
    refine lv_iinc (v := nI (q + 1)) (lv' := [(3, .int (nI (q + 1))), (0, .ref (ad 77))]) hx hb dX5_begin_86 hl (k := 1) rfl (nI_1 q) (by decide) rfl (fun ls hl => ?_)
    refine lv_goto (tgt := 66) hx hb dX5_begin_89 (by decide) ?_
    have hf2 : ∀ z, z ≠ 78 → z ≠ 79 → w_6 z = w z := fun z hhf20 hhf21 => by rw [ew_7, va_up_ne _ _ hhf21, ew_2, va_up_ne _ _ hhf20]
    refine ih (q + 1) _ _ _ ls H locs (by omega) (fun z h1 h2 => (hf2 z h1 h2).trans (hfr z h1 h2)) hc_9 hc_10 (fun i hi => ?_) hw (lv_sub hl [1, 0] rfl)
    by_cases hiq : i = q
    · subst hiq; exact ⟨upd_s _ _ _, upd_s _ _ _⟩
    · rw [upd_n _ _ hiq, upd_n _ _ hiq]; exact hz i (by omega)
set_option maxHeartbeats 4000000 in
set_option maxRecDepth 100000 in
theorem k5_begin2 {l : Launch} {p : Program} {e : Env} {s : State} {m : MethodId} {args : Array Value} {below : List Frame} {meth : Method} {c : Code} {Q : State → Prop} {D : va_G} {cI cJ cZ cD : ClassId} {ad : Nat → Nat} {A : Nat → Prop} {H0 : Heap} {w0 : Nat → va_E} (hC : CallFix p m c cX5_begin 4 s args wsL_law RX5) (hA : ∀ q, H0.size ≤ q → A q) (cd : Int32) (n t cl qu en kp : Nat) (hs : Int64) (hM : w0 77 = .inr (4, [.int cd, .int (nI n), .int (nI t), .int (nI cl), .ref (ad 78), .ref (ad 79), .ref (ad 80), .ref (ad 81), .ref (ad 82), .ref (ad 83), .int (nI qu), .ref (ad 84), .ref (ad 85), .ref (ad 86), .int (nI en), .int (nI kp), .ref (ad 87), .long hs]))
    (kx : ∀ (xf : Nat → Int32) (w : Nat → va_E) (ls : Array Slot) (H : Heap) (locs : List Loc), (∀ z, z ≠ 83 → w z = w0 z) → w 83 = .inl (cZ, 289, .inl xf) → (∀ i, i < 289 → xf i = nI 0) → WW D vwCl (tyL cI cJ cZ cD) A H0 ad 89 w s H locs → lv_has ls 4 [(0, .ref (ad 77))] → W p l e ({ frames := 1, cells := 0, slots := 0, locals := 29 }) s m args below meth c H locs 0 0 Q (F0 m 114 ls [])) :
    ∀ (j q : Nat) (xf : Nat → Int32) (w : Nat → va_E) (ls : Array Slot) (H : Heap) (locs : List Loc), q + j = 289 → (∀ z, z ≠ 83 → w z = w0 z) → w 83 = .inl (cZ, 289, .inl xf) → (∀ i, i < q → xf i = nI 0) → WW D vwCl (tyL cI cJ cZ cD) A H0 ad 89 w s H locs → lv_has ls 4 [(0, .ref (ad 77)), (3, .int (nI q))] → W p l e ({ frames := 1, cells := 0, slots := 0, locals := 29 }) s m args below meth c H locs 0 0 Q (F0 m 94 ls []) := by
  obtain ⟨hx, hb, hml, hown, hts⟩ := id hC
  intro j
  induction j with
  | zero =>
    intro q xf w ls H locs hq hfr hd1 hz hw hl
    obtain rfl : q = 289 := by omega
    have hl : lv_has ls 4 [(0, .ref (ad 77)), (3, .int (nI 289))] := hl
    have hM : w 77 = .inr (4, [.int cd, .int (nI n), .int (nI t), .int (nI cl), .ref (ad 78), .ref (ad 79), .ref (ad 80), .ref (ad 81), .ref (ad 82), .ref (ad 83), .int (nI qu), .ref (ad 84), .ref (ad 85), .ref (ad 86), .int (nI en), .int (nI kp), .ref (ad 87), .long hs]) := (hfr 77 (by decide)).trans hM
    refine lv_iload_n hx hb dX5_begin_94 rfl (lv_at hl 1 rfl) ?_
    refine lv_sipush (v := nI 289) hx hb dX5_begin_95 (by decide) ?_
    refine lv_icmp_ge (tgt := 114) hx hb dX5_begin_98 (by decide) (fun hc => ?_) (fun hc => absurd (nI_le (by omega) (by omega)) hc)
    exact kx xf w ls H locs hfr hd1 hz hw (lv_sub hl [0] rfl)
  | succ j ih =>
    intro q xf w ls H locs hq hfr hd1 hz hw hl
    have hM : w 77 = .inr (4, [.int cd, .int (nI n), .int (nI t), .int (nI cl), .ref (ad 78), .ref (ad 79), .ref (ad 80), .ref (ad 81), .ref (ad 82), .ref (ad 83), .int (nI qu), .ref (ad 84), .ref (ad 85), .ref (ad 86), .int (nI en), .int (nI kp), .ref (ad 87), .long hs]) := (hfr 77 (by decide)).trans hM
    refine lv_iload_n hx hb dX5_begin_94 rfl (lv_at hl 1 rfl) ?_
    refine lv_sipush (v := nI 289) hx hb dX5_begin_95 (by decide) ?_
    refine lv_icmp_ge (tgt := 114) hx hb dX5_begin_98 (by decide) (fun hc => absurd hc (fun q => by rw [nI_leI (by omega) (by omega)] at q; omega)) (fun hc => ?_)
    refine lv_aload_n hx hb dX5_begin_101 rfl (lv_at hl 0 rfl) ?_
    refine gf_X5_26 hx hb hts hown hw (by decide) hM rfl dX5_begin_102 ?_
    refine lv_iload_n hx hb dX5_begin_105 rfl (lv_at hl 1 rfl) ?_
    refine lv_iconst (v := nI 0) hx hb dX5_begin_106 (by decide) ?_
    refine x_zast hx hb hw (by decide) 2 hd1 rfl (j := q) (by omega) (by decide) (by decide) dX5_begin_107 (fun w_1 H locs ew_2 hw => ?_)
    have hc_3 : w_1 77 = .inr (4, [.int cd, .int (nI n), .int (nI t), .int (nI cl), .ref (ad 78), .ref (ad 79), .ref (ad 80), .ref (ad 81), .ref (ad 82), .ref (ad 83), .int (nI qu), .ref (ad 84), .ref (ad 85), .ref (ad 86), .int (nI en), .int (nI kp), .ref (ad 87), .long hs]) := by rw [ew_2]; exact (va_up_ne _ _ (by omega)).trans hM
    have hc_4 : w_1 83 = .inl (cZ, 289, .inl (upd xf q (nI 0))) := by rw [ew_2]; exact va_up_self _ _ _
    refine lv_iinc (v := nI (q + 1)) (lv' := [(3, .int (nI (q + 1))), (0, .ref (ad 77))]) hx hb dX5_begin_108 hl (k := 1) rfl (nI_1 q) (by decide) rfl (fun ls hl => ?_)
    refine lv_goto (tgt := 94) hx hb dX5_begin_111 (by decide) ?_
    have hf2 : ∀ z, z ≠ 83 → w_1 z = w z := fun z hhf20 => by rw [ew_2, va_up_ne _ _ hhf20]
    refine ih (q + 1) _ _ ls H locs (by omega) (fun z h1 => (hf2 z h1).trans (hfr z h1)) hc_4 (fun i hi => ?_) hw (lv_sub hl [1, 0] rfl)
    by_cases hiq : i = q
    · subst hiq; exact upd_s _ _ _
    · rw [upd_n _ _ hiq]; exact hz i (by omega)
set_option maxHeartbeats 4000000 in
set_option maxRecDepth 100000 in
theorem m_begin (l : Launch) {D : va_G} {cI cJ cZ cD : ClassId} {ad : Nat → Nat} {w : Nat → va_E} {sz : Nat} (n t cl qu en kp : Nat) (dl ou cp ks pt : Nat → Nat) (co sh : Nat → Nat → Nat) (vs : Nat → Int64) (cd : Int32) (hok : OkS n t cl qu en kp dl ou cp ks pt co sh) (hRM : RM ad cJ cZ w cd n t cl qu en kp dl ou cp ks pt co sh vs) (n2 t2 : Nat) (g1 : 1 ≤ n2) (g2 : n2 ≤ 16) (g3 : 1 ≤ t2) (g4 : t2 ≤ n2)  : MW l yX5_begin (.code yX5_begin cX5_begin 4 none) ({ frames := 1, cells := 0, slots := 0, locals := 29 }) [.ref (ad 77), .int (nI n2), .int (nI t2)] D (tyL cI cJ cZ cD) ad 89 w sz none (fun u => (∀ z, z < 77 ∨ 87 < z → u z = w z) ∧ RM ad cJ cZ u (nI 0) n2 t2 0 0 0 0 (fun _ => 0) (fun _ => 0) (fun _ => 0) ks pt co sh vs) := by
  refine MW.of (by decide) (Nat.le_of_ble_eq_true rfl) ?_
  intro p e s m below meth c ls hC hr hlocks hl hw
  obtain ⟨hx, hb, hml, hown, hts⟩ := id hC
  have hA : ∀ q, s.heap.size ≤ q → xA ad 89 s.heap.size q := fun q h => Or.inr h
  have hl : lv_has ls 4 [(0, .ref (ad 77)), (1, .int (nI n2)), (2, .int (nI t2))] := hl
  obtain ⟨⟨hs, hM⟩, ⟨dz, oz, hDz, hOz, hdo⟩, ⟨cf, mf, sf, hCf, hMf, hSf, hcs⟩, ⟨xf, hXf, hxx⟩, ⟨kyf, swf, hKy, hSw, hks⟩, ⟨vlf, hVl, hvl⟩, ⟨plf, hPl, hpl⟩⟩ := id hRM
  obtain ⟨⟨hn, ht, hcl, hqu, hen, hkp⟩, hle, ⟨hqb, hkb, hcb⟩, hvals, hclv, hptl, ⟨hz1, hz2, hz3⟩⟩ := id hok
  refine lv_aload_n hx hb dX5_begin_0 rfl (lv_at hl 0 rfl) ?_
  refine lv_iload_n hx hb dX5_begin_1 rfl (lv_at hl 1 rfl) ?_
  refine lv_iconst (v := nI 1) hx hb dX5_begin_2 (by decide) ?_
  refine lv_icmp_lt (tgt := 22) hx hb dX5_begin_3 (by decide) (fun q1 => absurd q1 (nI_nlt (by omega) (by omega))) (fun q1 => ?_)
  refine lv_iload_n hx hb dX5_begin_6 rfl (lv_at hl 1 rfl) ?_
  refine lv_bipush (v := nI 16) hx hb dX5_begin_7 (by decide) ?_
  refine lv_icmp_gt (tgt := 22) hx hb dX5_begin_9 (by decide) (fun q2 => absurd q2 (nI_nlt (by omega) (by omega))) (fun q2 => ?_)
  refine lv_iload_n hx hb dX5_begin_12 rfl (lv_at hl 2 rfl) ?_
  refine lv_iconst (v := nI 1) hx hb dX5_begin_13 (by decide) ?_
  refine lv_icmp_lt (tgt := 22) hx hb dX5_begin_14 (by decide) (fun q3 => absurd q3 (nI_nlt (by omega) (by omega))) (fun q3 => ?_)
  refine lv_iload_n hx hb dX5_begin_17 rfl (lv_at hl 2 rfl) ?_
  refine lv_iload_n hx hb dX5_begin_18 rfl (lv_at hl 1 rfl) ?_
  refine lv_icmp_le (tgt := 26) hx hb dX5_begin_19 (by decide) (fun q4 => ?_) (fun q4 => absurd (nI_le (by omega) (by omega)) q4)
  refine lv_iconst (v := nI 0) hx hb dX5_begin_26 (by decide) ?_
  refine x_callW1 (As := [.int (nI 0)]) (rest := []) hC vf_X5_64 hw hA (by decide) hM rfl rfl (k5_refuses0 l _ _ _ _ _ _ _ _ hM) ⟨rfl, rfl, Nat.le_of_ble_eq_true rfl, Nat.le_of_ble_eq_true rfl⟩ hl.1 (Nat.le_of_ble_eq_true rfl) dX5_begin_27 ⟨Nat.zero_le _, Nat.zero_le _⟩ rfl (fun w_2 H locs hu_1 hw => ?_)
  have hc_3 : w_2 77 = .inr (4, [.int (nI 0), .int (nI n), .int (nI t), .int (nI cl), .ref (ad 78), .ref (ad 79), .ref (ad 80), .ref (ad 81), .ref (ad 82), .ref (ad 83), .int (nI qu), .ref (ad 84), .ref (ad 85), .ref (ad 86), .int (nI en), .int (nI kp), .ref (ad 87), .long hs]) := by rw [hu_1]; exact va_up_self _ _ _
  have hc_4 : w_2 78 = .inl (cZ, 17, .inl dz) := by rw [hu_1, va_up_ne _ _ (by decide)]; exact hDz
  have hc_5 : w_2 79 = .inl (cZ, 17, .inl oz) := by rw [hu_1, va_up_ne _ _ (by decide)]; exact hOz
  have hc_6 : w_2 80 = .inl (cJ, 289, .inr (.inl cf)) := by rw [hu_1, va_up_ne _ _ (by decide)]; exact hCf
  have hc_7 : w_2 81 = .inl (cJ, 289, .inr (.inl mf)) := by rw [hu_1, va_up_ne _ _ (by decide)]; exact hMf
  have hc_8 : w_2 82 = .inl (cJ, 289, .inr (.inl sf)) := by rw [hu_1, va_up_ne _ _ (by decide)]; exact hSf
  have hc_9 : w_2 83 = .inl (cZ, 289, .inl xf) := by rw [hu_1, va_up_ne _ _ (by decide)]; exact hXf
  have hc_10 : w_2 84 = .inl (cJ, 17, .inr (.inl kyf)) := by rw [hu_1, va_up_ne _ _ (by decide)]; exact hKy
  have hc_11 : w_2 85 = .inl (cJ, 17, .inr (.inl swf)) := by rw [hu_1, va_up_ne _ _ (by decide)]; exact hSw
  have hc_12 : w_2 86 = .inl (cJ, 301, .inr (.inl vlf)) := by rw [hu_1, va_up_ne _ _ (by decide)]; exact hVl
  have hc_13 : w_2 87 = .inl (cJ, 17, .inr (.inl plf)) := by rw [hu_1, va_up_ne _ _ (by decide)]; exact hPl
  refine lv_if_eq (tgt := 34) hx hb dX5_begin_30 (by decide) (fun q_14 => ?_) (fun q_14 => absurd (by decide) q_14)
  refine lv_aload_n hx hb dX5_begin_34 rfl (lv_at hl 0 rfl) ?_
  refine lv_iload_n hx hb dX5_begin_35 rfl (lv_at hl 1 rfl) ?_
  refine pf_X5_59 (v := .int (nI n2)) hx hb hts hown hw (by decide) hc_3 rfl rfl (Nat.le_of_ble_eq_true rfl) dX5_begin_36 (fun w_15 H locs ew_16 hw => ?_)
  have hc_17 : w_15 77 = .inr (4, [.int (nI 0), .int (nI n2), .int (nI t), .int (nI cl), .ref (ad 78), .ref (ad 79), .ref (ad 80), .ref (ad 81), .ref (ad 82), .ref (ad 83), .int (nI qu), .ref (ad 84), .ref (ad 85), .ref (ad 86), .int (nI en), .int (nI kp), .ref (ad 87), .long hs]) := by rw [ew_16]; exact va_up_self _ _ _
  have hc_18 : w_15 78 = .inl (cZ, 17, .inl dz) := by rw [ew_16]; exact (va_up_ne _ _ (by omega)).trans hc_4
  have hc_19 : w_15 79 = .inl (cZ, 17, .inl oz) := by rw [ew_16]; exact (va_up_ne _ _ (by omega)).trans hc_5
  have hc_20 : w_15 80 = .inl (cJ, 289, .inr (.inl cf)) := by rw [ew_16]; exact (va_up_ne _ _ (by omega)).trans hc_6
  have hc_21 : w_15 81 = .inl (cJ, 289, .inr (.inl mf)) := by rw [ew_16]; exact (va_up_ne _ _ (by omega)).trans hc_7
  have hc_22 : w_15 82 = .inl (cJ, 289, .inr (.inl sf)) := by rw [ew_16]; exact (va_up_ne _ _ (by omega)).trans hc_8
  have hc_23 : w_15 83 = .inl (cZ, 289, .inl xf) := by rw [ew_16]; exact (va_up_ne _ _ (by omega)).trans hc_9
  have hc_24 : w_15 84 = .inl (cJ, 17, .inr (.inl kyf)) := by rw [ew_16]; exact (va_up_ne _ _ (by omega)).trans hc_10
  have hc_25 : w_15 85 = .inl (cJ, 17, .inr (.inl swf)) := by rw [ew_16]; exact (va_up_ne _ _ (by omega)).trans hc_11
  have hc_26 : w_15 86 = .inl (cJ, 301, .inr (.inl vlf)) := by rw [ew_16]; exact (va_up_ne _ _ (by omega)).trans hc_12
  have hc_27 : w_15 87 = .inl (cJ, 17, .inr (.inl plf)) := by rw [ew_16]; exact (va_up_ne _ _ (by omega)).trans hc_13
  refine lv_aload_n hx hb dX5_begin_39 rfl (lv_at hl 0 rfl) ?_
  refine lv_iload_n hx hb dX5_begin_40 rfl (lv_at hl 2 rfl) ?_
  refine pf_X5_68 (v := .int (nI t2)) hx hb hts hown hw (by decide) hc_17 rfl rfl (Nat.le_of_ble_eq_true rfl) dX5_begin_41 (fun w_28 H locs ew_29 hw => ?_)
  have hc_30 : w_28 77 = .inr (4, [.int (nI 0), .int (nI n2), .int (nI t2), .int (nI cl), .ref (ad 78), .ref (ad 79), .ref (ad 80), .ref (ad 81), .ref (ad 82), .ref (ad 83), .int (nI qu), .ref (ad 84), .ref (ad 85), .ref (ad 86), .int (nI en), .int (nI kp), .ref (ad 87), .long hs]) := by rw [ew_29]; exact va_up_self _ _ _
  have hc_31 : w_28 78 = .inl (cZ, 17, .inl dz) := by rw [ew_29]; exact (va_up_ne _ _ (by omega)).trans hc_18
  have hc_32 : w_28 79 = .inl (cZ, 17, .inl oz) := by rw [ew_29]; exact (va_up_ne _ _ (by omega)).trans hc_19
  have hc_33 : w_28 80 = .inl (cJ, 289, .inr (.inl cf)) := by rw [ew_29]; exact (va_up_ne _ _ (by omega)).trans hc_20
  have hc_34 : w_28 81 = .inl (cJ, 289, .inr (.inl mf)) := by rw [ew_29]; exact (va_up_ne _ _ (by omega)).trans hc_21
  have hc_35 : w_28 82 = .inl (cJ, 289, .inr (.inl sf)) := by rw [ew_29]; exact (va_up_ne _ _ (by omega)).trans hc_22
  have hc_36 : w_28 83 = .inl (cZ, 289, .inl xf) := by rw [ew_29]; exact (va_up_ne _ _ (by omega)).trans hc_23
  have hc_37 : w_28 84 = .inl (cJ, 17, .inr (.inl kyf)) := by rw [ew_29]; exact (va_up_ne _ _ (by omega)).trans hc_24
  have hc_38 : w_28 85 = .inl (cJ, 17, .inr (.inl swf)) := by rw [ew_29]; exact (va_up_ne _ _ (by omega)).trans hc_25
  have hc_39 : w_28 86 = .inl (cJ, 301, .inr (.inl vlf)) := by rw [ew_29]; exact (va_up_ne _ _ (by omega)).trans hc_26
  have hc_40 : w_28 87 = .inl (cJ, 17, .inr (.inl plf)) := by rw [ew_29]; exact (va_up_ne _ _ (by omega)).trans hc_27
  refine lv_aload_n hx hb dX5_begin_44 rfl (lv_at hl 0 rfl) ?_
  refine lv_iconst (v := nI 0) hx hb dX5_begin_45 (by decide) ?_
  refine pf_X5_71 (v := .int (nI 0)) hx hb hts hown hw (by decide) hc_30 rfl (by decide) (Nat.le_of_ble_eq_true rfl) dX5_begin_46 (fun w_41 H locs ew_42 hw => ?_)
  have hc_43 : w_41 77 = .inr (4, [.int (nI 0), .int (nI n2), .int (nI t2), .int (nI 0), .ref (ad 78), .ref (ad 79), .ref (ad 80), .ref (ad 81), .ref (ad 82), .ref (ad 83), .int (nI qu), .ref (ad 84), .ref (ad 85), .ref (ad 86), .int (nI en), .int (nI kp), .ref (ad 87), .long hs]) := by rw [ew_42]; exact va_up_self _ _ _
  have hc_44 : w_41 78 = .inl (cZ, 17, .inl dz) := by rw [ew_42]; exact (va_up_ne _ _ (by omega)).trans hc_31
  have hc_45 : w_41 79 = .inl (cZ, 17, .inl oz) := by rw [ew_42]; exact (va_up_ne _ _ (by omega)).trans hc_32
  have hc_46 : w_41 80 = .inl (cJ, 289, .inr (.inl cf)) := by rw [ew_42]; exact (va_up_ne _ _ (by omega)).trans hc_33
  have hc_47 : w_41 81 = .inl (cJ, 289, .inr (.inl mf)) := by rw [ew_42]; exact (va_up_ne _ _ (by omega)).trans hc_34
  have hc_48 : w_41 82 = .inl (cJ, 289, .inr (.inl sf)) := by rw [ew_42]; exact (va_up_ne _ _ (by omega)).trans hc_35
  have hc_49 : w_41 83 = .inl (cZ, 289, .inl xf) := by rw [ew_42]; exact (va_up_ne _ _ (by omega)).trans hc_36
  have hc_50 : w_41 84 = .inl (cJ, 17, .inr (.inl kyf)) := by rw [ew_42]; exact (va_up_ne _ _ (by omega)).trans hc_37
  have hc_51 : w_41 85 = .inl (cJ, 17, .inr (.inl swf)) := by rw [ew_42]; exact (va_up_ne _ _ (by omega)).trans hc_38
  have hc_52 : w_41 86 = .inl (cJ, 301, .inr (.inl vlf)) := by rw [ew_42]; exact (va_up_ne _ _ (by omega)).trans hc_39
  have hc_53 : w_41 87 = .inl (cJ, 17, .inr (.inl plf)) := by rw [ew_42]; exact (va_up_ne _ _ (by omega)).trans hc_40
  refine lv_aload_n hx hb dX5_begin_49 rfl (lv_at hl 0 rfl) ?_
  refine lv_iconst (v := nI 0) hx hb dX5_begin_50 (by decide) ?_
  refine pf_X5_75 (v := .int (nI 0)) hx hb hts hown hw (by decide) hc_43 rfl rfl (Nat.le_of_ble_eq_true rfl) dX5_begin_51 (fun w_54 H locs ew_55 hw => ?_)
  have hc_56 : w_54 77 = .inr (4, [.int (nI 0), .int (nI n2), .int (nI t2), .int (nI 0), .ref (ad 78), .ref (ad 79), .ref (ad 80), .ref (ad 81), .ref (ad 82), .ref (ad 83), .int (nI 0), .ref (ad 84), .ref (ad 85), .ref (ad 86), .int (nI en), .int (nI kp), .ref (ad 87), .long hs]) := by rw [ew_55]; exact va_up_self _ _ _
  have hc_57 : w_54 78 = .inl (cZ, 17, .inl dz) := by rw [ew_55]; exact (va_up_ne _ _ (by omega)).trans hc_44
  have hc_58 : w_54 79 = .inl (cZ, 17, .inl oz) := by rw [ew_55]; exact (va_up_ne _ _ (by omega)).trans hc_45
  have hc_59 : w_54 80 = .inl (cJ, 289, .inr (.inl cf)) := by rw [ew_55]; exact (va_up_ne _ _ (by omega)).trans hc_46
  have hc_60 : w_54 81 = .inl (cJ, 289, .inr (.inl mf)) := by rw [ew_55]; exact (va_up_ne _ _ (by omega)).trans hc_47
  have hc_61 : w_54 82 = .inl (cJ, 289, .inr (.inl sf)) := by rw [ew_55]; exact (va_up_ne _ _ (by omega)).trans hc_48
  have hc_62 : w_54 83 = .inl (cZ, 289, .inl xf) := by rw [ew_55]; exact (va_up_ne _ _ (by omega)).trans hc_49
  have hc_63 : w_54 84 = .inl (cJ, 17, .inr (.inl kyf)) := by rw [ew_55]; exact (va_up_ne _ _ (by omega)).trans hc_50
  have hc_64 : w_54 85 = .inl (cJ, 17, .inr (.inl swf)) := by rw [ew_55]; exact (va_up_ne _ _ (by omega)).trans hc_51
  have hc_65 : w_54 86 = .inl (cJ, 301, .inr (.inl vlf)) := by rw [ew_55]; exact (va_up_ne _ _ (by omega)).trans hc_52
  have hc_66 : w_54 87 = .inl (cJ, 17, .inr (.inl plf)) := by rw [ew_55]; exact (va_up_ne _ _ (by omega)).trans hc_53
  refine lv_aload_n hx hb dX5_begin_54 rfl (lv_at hl 0 rfl) ?_
  refine lv_iconst (v := nI 0) hx hb dX5_begin_55 (by decide) ?_
  refine pf_X5_78 (v := .int (nI 0)) hx hb hts hown hw (by decide) hc_56 rfl rfl (Nat.le_of_ble_eq_true rfl) dX5_begin_56 (fun w_67 H locs ew_68 hw => ?_)
  have hc_69 : w_67 77 = .inr (4, [.int (nI 0), .int (nI n2), .int (nI t2), .int (nI 0), .ref (ad 78), .ref (ad 79), .ref (ad 80), .ref (ad 81), .ref (ad 82), .ref (ad 83), .int (nI 0), .ref (ad 84), .ref (ad 85), .ref (ad 86), .int (nI 0), .int (nI kp), .ref (ad 87), .long hs]) := by rw [ew_68]; exact va_up_self _ _ _
  have hc_70 : w_67 78 = .inl (cZ, 17, .inl dz) := by rw [ew_68]; exact (va_up_ne _ _ (by omega)).trans hc_57
  have hc_71 : w_67 79 = .inl (cZ, 17, .inl oz) := by rw [ew_68]; exact (va_up_ne _ _ (by omega)).trans hc_58
  have hc_72 : w_67 80 = .inl (cJ, 289, .inr (.inl cf)) := by rw [ew_68]; exact (va_up_ne _ _ (by omega)).trans hc_59
  have hc_73 : w_67 81 = .inl (cJ, 289, .inr (.inl mf)) := by rw [ew_68]; exact (va_up_ne _ _ (by omega)).trans hc_60
  have hc_74 : w_67 82 = .inl (cJ, 289, .inr (.inl sf)) := by rw [ew_68]; exact (va_up_ne _ _ (by omega)).trans hc_61
  have hc_75 : w_67 83 = .inl (cZ, 289, .inl xf) := by rw [ew_68]; exact (va_up_ne _ _ (by omega)).trans hc_62
  have hc_76 : w_67 84 = .inl (cJ, 17, .inr (.inl kyf)) := by rw [ew_68]; exact (va_up_ne _ _ (by omega)).trans hc_63
  have hc_77 : w_67 85 = .inl (cJ, 17, .inr (.inl swf)) := by rw [ew_68]; exact (va_up_ne _ _ (by omega)).trans hc_64
  have hc_78 : w_67 86 = .inl (cJ, 301, .inr (.inl vlf)) := by rw [ew_68]; exact (va_up_ne _ _ (by omega)).trans hc_65
  have hc_79 : w_67 87 = .inl (cJ, 17, .inr (.inl plf)) := by rw [ew_68]; exact (va_up_ne _ _ (by omega)).trans hc_66
  refine lv_aload_n hx hb dX5_begin_59 rfl (lv_at hl 0 rfl) ?_
  refine lv_iconst (v := nI 0) hx hb dX5_begin_60 (by decide) ?_
  refine pf_X5_81 (v := .int (nI 0)) hx hb hts hown hw (by decide) hc_69 rfl rfl (Nat.le_of_ble_eq_true rfl) dX5_begin_61 (fun w_80 H locs ew_81 hw => ?_)
  have hc_82 : w_80 77 = .inr (4, [.int (nI 0), .int (nI n2), .int (nI t2), .int (nI 0), .ref (ad 78), .ref (ad 79), .ref (ad 80), .ref (ad 81), .ref (ad 82), .ref (ad 83), .int (nI 0), .ref (ad 84), .ref (ad 85), .ref (ad 86), .int (nI 0), .int (nI 0), .ref (ad 87), .long hs]) := by rw [ew_81]; exact va_up_self _ _ _
  have hc_83 : w_80 78 = .inl (cZ, 17, .inl dz) := by rw [ew_81]; exact (va_up_ne _ _ (by omega)).trans hc_70
  have hc_84 : w_80 79 = .inl (cZ, 17, .inl oz) := by rw [ew_81]; exact (va_up_ne _ _ (by omega)).trans hc_71
  have hc_85 : w_80 80 = .inl (cJ, 289, .inr (.inl cf)) := by rw [ew_81]; exact (va_up_ne _ _ (by omega)).trans hc_72
  have hc_86 : w_80 81 = .inl (cJ, 289, .inr (.inl mf)) := by rw [ew_81]; exact (va_up_ne _ _ (by omega)).trans hc_73
  have hc_87 : w_80 82 = .inl (cJ, 289, .inr (.inl sf)) := by rw [ew_81]; exact (va_up_ne _ _ (by omega)).trans hc_74
  have hc_88 : w_80 83 = .inl (cZ, 289, .inl xf) := by rw [ew_81]; exact (va_up_ne _ _ (by omega)).trans hc_75
  have hc_89 : w_80 84 = .inl (cJ, 17, .inr (.inl kyf)) := by rw [ew_81]; exact (va_up_ne _ _ (by omega)).trans hc_76
  have hc_90 : w_80 85 = .inl (cJ, 17, .inr (.inl swf)) := by rw [ew_81]; exact (va_up_ne _ _ (by omega)).trans hc_77
  have hc_91 : w_80 86 = .inl (cJ, 301, .inr (.inl vlf)) := by rw [ew_81]; exact (va_up_ne _ _ (by omega)).trans hc_78
  have hc_92 : w_80 87 = .inl (cJ, 17, .inr (.inl plf)) := by rw [ew_81]; exact (va_up_ne _ _ (by omega)).trans hc_79
  refine lv_iconst (v := nI 0) hx hb dX5_begin_64 (by decide) ?_
  refine lv_istore_n (lv' := [(3, .int (nI 0)), (0, .ref (ad 77)), (1, .int (nI n2)), (2, .int (nI t2))]) hx hb dX5_begin_65 rfl hl (by decide) rfl (fun ls hl => ?_)
  have hf1 : ∀ z, z ≠ 77 → w_80 z = w z := fun z hhf10 => by rw [ew_81, va_up_ne _ _ hhf10, ew_68, va_up_ne _ _ hhf10, ew_55, va_up_ne _ _ hhf10, ew_42, va_up_ne _ _ hhf10, ew_29, va_up_ne _ _ hhf10, ew_16, va_up_ne _ _ hhf10, hu_1, va_up_ne _ _ hhf10]
  refine k5_begin1 (w0 := w_80) hC hA (nI 0) n2 t2 0 0 0 0 hs hc_82 (fun dz2 oz2 w2 ls H locs hfr2 hd1 hd2 hz2 hw hl => ?_) 17 0 dz oz w_80 ls H locs (by decide) (fun _ _ _ => rfl) hc_83 hc_84 (fun i hi => absurd hi (by omega)) hw (lv_sub hl [1, 0] rfl)
  refine lv_iconst (v := nI 0) hx hb dX5_begin_92 (by decide) ?_
  refine lv_istore_n (lv' := [(3, .int (nI 0)), (0, .ref (ad 77))]) hx hb dX5_begin_93 rfl hl (by decide) rfl (fun ls hl => ?_)
  refine k5_begin2 (w0 := w2) hC hA (nI 0) n2 t2 0 0 0 0 hs ((hfr2 77 (by decide) (by decide)).trans hc_82) (fun xf2 w3 ls H locs hfr3 hd3 hz3 hw hl => ?_) 289 0 xf w2 ls H locs (by decide) (fun _ _ => rfl) ((hfr2 83 (by decide) (by decide)).trans hc_88) (fun i hi => absurd hi (by omega)) hw (lv_sub hl [1, 0] rfl)
  have hall : ∀ z, z ≠ 77 → z ≠ 78 → z ≠ 79 → z ≠ 83 → w3 z = w z := fun z h1 h2 h3 h4 => (hfr3 z h4).trans ((hfr2 z h2 h3).trans (hf1 z h1))
  refine x_wretV hx hb hr hlocks hw ⟨fun z hz => hall z (by omega) (by omega) (by omega) (by omega), ⟨hs, (hfr3 77 (by decide)).trans ((hfr2 77 (by decide) (by decide)).trans hc_82)⟩, ⟨dz2, oz2, (hfr3 78 (by decide)).trans hd1, (hfr3 79 (by decide)).trans hd2, hz2⟩, ⟨cf, mf, sf, (hall 80 (by decide) (by decide) (by decide) (by decide)).trans hCf, (hall 81 (by decide) (by decide) (by decide) (by decide)).trans hMf, (hall 82 (by decide) (by decide) (by decide) (by decide)).trans hSf, fun i _ _ (q : (0 : Nat) = 1) => absurd q (by decide)⟩, ⟨xf2, hd3, fun i k h1 h2 => by rw [hz3 _ (by omega), tb_zero]⟩, ⟨kyf, swf, (hall 84 (by decide) (by decide) (by decide) (by decide)).trans hKy, (hall 85 (by decide) (by decide) (by decide) (by decide)).trans hSw, fun q => absurd q (by decide)⟩, ⟨vlf, (hall 86 (by decide) (by decide) (by decide) (by decide)).trans hVl, fun q => absurd q (by decide)⟩, ⟨plf, (hall 87 (by decide) (by decide) (by decide) (by decide)).trans hPl, fun k q => absurd q (by rw [tb_zero]; decide)⟩⟩ dX5_begin_114
set_option maxHeartbeats 4000000 in
set_option maxRecDepth 100000 in
theorem m_beginA (l : Launch) {D : va_G} {cI cJ cZ cD : ClassId} {ad : Nat → Nat} {w : Nat → va_E} {sz : Nat} (n t cl qu en kp : Nat) (dl ou cp ks pt : Nat → Nat) (co sh : Nat → Nat → Nat) (vs : Nat → Int64) (cd : Int32) (hok : OkS n t cl qu en kp dl ou cp ks pt co sh) (hRM : RM ad cJ cZ w cd n t cl qu en kp dl ou cp ks pt co sh vs) (x y : Int32) (hbad : ¬ bgOk x y)  : MW l yX5_begin (.code yX5_begin cX5_begin 4 none) ({ frames := 1, cells := 0, slots := 0, locals := 29 }) [.ref (ad 77), .int x, .int y] D (tyL cI cJ cZ cD) ad 89 w sz none (fun u => (∀ z, z < 77 ∨ 87 < z → u z = w z) ∧ RM ad cJ cZ u (nI 1) n t cl qu en kp dl ou cp ks pt co sh vs) := by
  refine MW.of (by decide) (Nat.le_of_ble_eq_true rfl) ?_
  intro p e s m below meth c ls hC hr hlocks hl hw
  obtain ⟨hx, hb, hml, hown, hts⟩ := id hC
  have hA : ∀ q, s.heap.size ≤ q → xA ad 89 s.heap.size q := fun q h => Or.inr h
  have hl : lv_has ls 4 [(0, .ref (ad 77)), (1, .int x), (2, .int y)] := hl
  obtain ⟨⟨hs, hM⟩, ⟨dz, oz, hDz, hOz, hdo⟩, ⟨cf, mf, sf, hCf, hMf, hSf, hcs⟩, ⟨xf, hXf, hxx⟩, ⟨kyf, swf, hKy, hSw, hks⟩, ⟨vlf, hVl, hvl⟩, ⟨plf, hPl, hpl⟩⟩ := id hRM
  obtain ⟨⟨hn, ht, hcl, hqu, hen, hkp⟩, hle, ⟨hqb, hkb, hcb⟩, hvals, hclv, hptl, ⟨hz1, hz2, hz3⟩⟩ := id hok
  refine lv_aload_n hx hb dX5_begin_0 rfl (lv_at hl 0 rfl) ?_
  refine lv_iload_n hx hb dX5_begin_1 rfl (lv_at hl 1 rfl) ?_
  refine lv_iconst (v := nI 1) hx hb dX5_begin_2 (by decide) ?_
  refine lv_icmp_lt (tgt := 22) hx hb dX5_begin_3 (by decide) (fun q1 => ?_) (fun q1 => ?_)
  · skip
    refine lv_iconst (v := nI 1) hx hb dX5_begin_22 (by decide) ?_
    refine lv_goto (tgt := 27) hx hb dX5_begin_23 (by decide) ?_
    refine x_callW1 (As := [.int (nI 1)]) (rest := []) hC vf_X5_64 hw hA (by decide) hM rfl rfl (k5_refuses1 l _ _ _ _ _ _ _ _ hM) ⟨rfl, rfl, Nat.le_of_ble_eq_true rfl, Nat.le_of_ble_eq_true rfl⟩ hl.1 (Nat.le_of_ble_eq_true rfl) dX5_begin_27 ⟨Nat.zero_le _, Nat.zero_le _⟩ rfl (fun w_2 H locs hu_1 hw => ?_)
    have hc_3 : w_2 77 = .inr (4, [.int (nI 1), .int (nI n), .int (nI t), .int (nI cl), .ref (ad 78), .ref (ad 79), .ref (ad 80), .ref (ad 81), .ref (ad 82), .ref (ad 83), .int (nI qu), .ref (ad 84), .ref (ad 85), .ref (ad 86), .int (nI en), .int (nI kp), .ref (ad 87), .long hs]) := by rw [hu_1]; exact va_up_self _ _ _
    have hc_4 : w_2 78 = .inl (cZ, 17, .inl dz) := by rw [hu_1, va_up_ne _ _ (by decide)]; exact hDz
    have hc_5 : w_2 79 = .inl (cZ, 17, .inl oz) := by rw [hu_1, va_up_ne _ _ (by decide)]; exact hOz
    have hc_6 : w_2 80 = .inl (cJ, 289, .inr (.inl cf)) := by rw [hu_1, va_up_ne _ _ (by decide)]; exact hCf
    have hc_7 : w_2 81 = .inl (cJ, 289, .inr (.inl mf)) := by rw [hu_1, va_up_ne _ _ (by decide)]; exact hMf
    have hc_8 : w_2 82 = .inl (cJ, 289, .inr (.inl sf)) := by rw [hu_1, va_up_ne _ _ (by decide)]; exact hSf
    have hc_9 : w_2 83 = .inl (cZ, 289, .inl xf) := by rw [hu_1, va_up_ne _ _ (by decide)]; exact hXf
    have hc_10 : w_2 84 = .inl (cJ, 17, .inr (.inl kyf)) := by rw [hu_1, va_up_ne _ _ (by decide)]; exact hKy
    have hc_11 : w_2 85 = .inl (cJ, 17, .inr (.inl swf)) := by rw [hu_1, va_up_ne _ _ (by decide)]; exact hSw
    have hc_12 : w_2 86 = .inl (cJ, 301, .inr (.inl vlf)) := by rw [hu_1, va_up_ne _ _ (by decide)]; exact hVl
    have hc_13 : w_2 87 = .inl (cJ, 17, .inr (.inl plf)) := by rw [hu_1, va_up_ne _ _ (by decide)]; exact hPl
    refine lv_if_eq (tgt := 34) hx hb dX5_begin_30 (by decide) (fun q_14 => absurd q_14 (by decide)) (fun q_14 => ?_)
    have hfr : ∀ z, z ≠ 77 → w_2 z = w z := fun z hhfr0 => by rw [hu_1, va_up_ne _ _ hhfr0]
    exact x_wretV hx hb hr hlocks hw ⟨fun z hz => hfr z (by omega), RM.set77 hRM hfr hc_3⟩ dX5_begin_33
  · skip
    refine lv_iload_n hx hb dX5_begin_6 rfl (lv_at hl 1 rfl) ?_
    refine lv_bipush (v := nI 16) hx hb dX5_begin_7 (by decide) ?_
    refine lv_icmp_gt (tgt := 22) hx hb dX5_begin_9 (by decide) (fun q2 => ?_) (fun q2 => ?_)
    · skip
      refine lv_iconst (v := nI 1) hx hb dX5_begin_22 (by decide) ?_
      refine lv_goto (tgt := 27) hx hb dX5_begin_23 (by decide) ?_
      refine x_callW1 (As := [.int (nI 1)]) (rest := []) hC vf_X5_64 hw hA (by decide) hM rfl rfl (k5_refuses1 l _ _ _ _ _ _ _ _ hM) ⟨rfl, rfl, Nat.le_of_ble_eq_true rfl, Nat.le_of_ble_eq_true rfl⟩ hl.1 (Nat.le_of_ble_eq_true rfl) dX5_begin_27 ⟨Nat.zero_le _, Nat.zero_le _⟩ rfl (fun w_16 H locs hu_15 hw => ?_)
      have hc_17 : w_16 77 = .inr (4, [.int (nI 1), .int (nI n), .int (nI t), .int (nI cl), .ref (ad 78), .ref (ad 79), .ref (ad 80), .ref (ad 81), .ref (ad 82), .ref (ad 83), .int (nI qu), .ref (ad 84), .ref (ad 85), .ref (ad 86), .int (nI en), .int (nI kp), .ref (ad 87), .long hs]) := by rw [hu_15]; exact va_up_self _ _ _
      have hc_18 : w_16 78 = .inl (cZ, 17, .inl dz) := by rw [hu_15, va_up_ne _ _ (by decide)]; exact hDz
      have hc_19 : w_16 79 = .inl (cZ, 17, .inl oz) := by rw [hu_15, va_up_ne _ _ (by decide)]; exact hOz
      have hc_20 : w_16 80 = .inl (cJ, 289, .inr (.inl cf)) := by rw [hu_15, va_up_ne _ _ (by decide)]; exact hCf
      have hc_21 : w_16 81 = .inl (cJ, 289, .inr (.inl mf)) := by rw [hu_15, va_up_ne _ _ (by decide)]; exact hMf
      have hc_22 : w_16 82 = .inl (cJ, 289, .inr (.inl sf)) := by rw [hu_15, va_up_ne _ _ (by decide)]; exact hSf
      have hc_23 : w_16 83 = .inl (cZ, 289, .inl xf) := by rw [hu_15, va_up_ne _ _ (by decide)]; exact hXf
      have hc_24 : w_16 84 = .inl (cJ, 17, .inr (.inl kyf)) := by rw [hu_15, va_up_ne _ _ (by decide)]; exact hKy
      have hc_25 : w_16 85 = .inl (cJ, 17, .inr (.inl swf)) := by rw [hu_15, va_up_ne _ _ (by decide)]; exact hSw
      have hc_26 : w_16 86 = .inl (cJ, 301, .inr (.inl vlf)) := by rw [hu_15, va_up_ne _ _ (by decide)]; exact hVl
      have hc_27 : w_16 87 = .inl (cJ, 17, .inr (.inl plf)) := by rw [hu_15, va_up_ne _ _ (by decide)]; exact hPl
      refine lv_if_eq (tgt := 34) hx hb dX5_begin_30 (by decide) (fun q_28 => absurd q_28 (by decide)) (fun q_28 => ?_)
      have hfr : ∀ z, z ≠ 77 → w_16 z = w z := fun z hhfr0 => by rw [hu_15, va_up_ne _ _ hhfr0]
      exact x_wretV hx hb hr hlocks hw ⟨fun z hz => hfr z (by omega), RM.set77 hRM hfr hc_17⟩ dX5_begin_33
    · skip
      refine lv_iload_n hx hb dX5_begin_12 rfl (lv_at hl 2 rfl) ?_
      refine lv_iconst (v := nI 1) hx hb dX5_begin_13 (by decide) ?_
      refine lv_icmp_lt (tgt := 22) hx hb dX5_begin_14 (by decide) (fun q3 => ?_) (fun q3 => ?_)
      · skip
        refine lv_iconst (v := nI 1) hx hb dX5_begin_22 (by decide) ?_
        refine lv_goto (tgt := 27) hx hb dX5_begin_23 (by decide) ?_
        refine x_callW1 (As := [.int (nI 1)]) (rest := []) hC vf_X5_64 hw hA (by decide) hM rfl rfl (k5_refuses1 l _ _ _ _ _ _ _ _ hM) ⟨rfl, rfl, Nat.le_of_ble_eq_true rfl, Nat.le_of_ble_eq_true rfl⟩ hl.1 (Nat.le_of_ble_eq_true rfl) dX5_begin_27 ⟨Nat.zero_le _, Nat.zero_le _⟩ rfl (fun w_30 H locs hu_29 hw => ?_)
        have hc_31 : w_30 77 = .inr (4, [.int (nI 1), .int (nI n), .int (nI t), .int (nI cl), .ref (ad 78), .ref (ad 79), .ref (ad 80), .ref (ad 81), .ref (ad 82), .ref (ad 83), .int (nI qu), .ref (ad 84), .ref (ad 85), .ref (ad 86), .int (nI en), .int (nI kp), .ref (ad 87), .long hs]) := by rw [hu_29]; exact va_up_self _ _ _
        have hc_32 : w_30 78 = .inl (cZ, 17, .inl dz) := by rw [hu_29, va_up_ne _ _ (by decide)]; exact hDz
        have hc_33 : w_30 79 = .inl (cZ, 17, .inl oz) := by rw [hu_29, va_up_ne _ _ (by decide)]; exact hOz
        have hc_34 : w_30 80 = .inl (cJ, 289, .inr (.inl cf)) := by rw [hu_29, va_up_ne _ _ (by decide)]; exact hCf
        have hc_35 : w_30 81 = .inl (cJ, 289, .inr (.inl mf)) := by rw [hu_29, va_up_ne _ _ (by decide)]; exact hMf
        have hc_36 : w_30 82 = .inl (cJ, 289, .inr (.inl sf)) := by rw [hu_29, va_up_ne _ _ (by decide)]; exact hSf
        have hc_37 : w_30 83 = .inl (cZ, 289, .inl xf) := by rw [hu_29, va_up_ne _ _ (by decide)]; exact hXf
        have hc_38 : w_30 84 = .inl (cJ, 17, .inr (.inl kyf)) := by rw [hu_29, va_up_ne _ _ (by decide)]; exact hKy
        have hc_39 : w_30 85 = .inl (cJ, 17, .inr (.inl swf)) := by rw [hu_29, va_up_ne _ _ (by decide)]; exact hSw
        have hc_40 : w_30 86 = .inl (cJ, 301, .inr (.inl vlf)) := by rw [hu_29, va_up_ne _ _ (by decide)]; exact hVl
        have hc_41 : w_30 87 = .inl (cJ, 17, .inr (.inl plf)) := by rw [hu_29, va_up_ne _ _ (by decide)]; exact hPl
        refine lv_if_eq (tgt := 34) hx hb dX5_begin_30 (by decide) (fun q_42 => absurd q_42 (by decide)) (fun q_42 => ?_)
        have hfr : ∀ z, z ≠ 77 → w_30 z = w z := fun z hhfr0 => by rw [hu_29, va_up_ne _ _ hhfr0]
        exact x_wretV hx hb hr hlocks hw ⟨fun z hz => hfr z (by omega), RM.set77 hRM hfr hc_31⟩ dX5_begin_33
      · skip
        refine lv_iload_n hx hb dX5_begin_17 rfl (lv_at hl 2 rfl) ?_
        refine lv_iload_n hx hb dX5_begin_18 rfl (lv_at hl 1 rfl) ?_
        refine lv_icmp_le (tgt := 26) hx hb dX5_begin_19 (by decide) (fun q4 => absurd q4 (fun q => hbad ⟨nle_of q1, nle_of q2, nle_of q3, q⟩)) (fun q4 => ?_)
        refine lv_iconst (v := nI 1) hx hb dX5_begin_22 (by decide) ?_
        refine lv_goto (tgt := 27) hx hb dX5_begin_23 (by decide) ?_
        refine x_callW1 (As := [.int (nI 1)]) (rest := []) hC vf_X5_64 hw hA (by decide) hM rfl rfl (k5_refuses1 l _ _ _ _ _ _ _ _ hM) ⟨rfl, rfl, Nat.le_of_ble_eq_true rfl, Nat.le_of_ble_eq_true rfl⟩ hl.1 (Nat.le_of_ble_eq_true rfl) dX5_begin_27 ⟨Nat.zero_le _, Nat.zero_le _⟩ rfl (fun w_44 H locs hu_43 hw => ?_)
        have hc_45 : w_44 77 = .inr (4, [.int (nI 1), .int (nI n), .int (nI t), .int (nI cl), .ref (ad 78), .ref (ad 79), .ref (ad 80), .ref (ad 81), .ref (ad 82), .ref (ad 83), .int (nI qu), .ref (ad 84), .ref (ad 85), .ref (ad 86), .int (nI en), .int (nI kp), .ref (ad 87), .long hs]) := by rw [hu_43]; exact va_up_self _ _ _
        have hc_46 : w_44 78 = .inl (cZ, 17, .inl dz) := by rw [hu_43, va_up_ne _ _ (by decide)]; exact hDz
        have hc_47 : w_44 79 = .inl (cZ, 17, .inl oz) := by rw [hu_43, va_up_ne _ _ (by decide)]; exact hOz
        have hc_48 : w_44 80 = .inl (cJ, 289, .inr (.inl cf)) := by rw [hu_43, va_up_ne _ _ (by decide)]; exact hCf
        have hc_49 : w_44 81 = .inl (cJ, 289, .inr (.inl mf)) := by rw [hu_43, va_up_ne _ _ (by decide)]; exact hMf
        have hc_50 : w_44 82 = .inl (cJ, 289, .inr (.inl sf)) := by rw [hu_43, va_up_ne _ _ (by decide)]; exact hSf
        have hc_51 : w_44 83 = .inl (cZ, 289, .inl xf) := by rw [hu_43, va_up_ne _ _ (by decide)]; exact hXf
        have hc_52 : w_44 84 = .inl (cJ, 17, .inr (.inl kyf)) := by rw [hu_43, va_up_ne _ _ (by decide)]; exact hKy
        have hc_53 : w_44 85 = .inl (cJ, 17, .inr (.inl swf)) := by rw [hu_43, va_up_ne _ _ (by decide)]; exact hSw
        have hc_54 : w_44 86 = .inl (cJ, 301, .inr (.inl vlf)) := by rw [hu_43, va_up_ne _ _ (by decide)]; exact hVl
        have hc_55 : w_44 87 = .inl (cJ, 17, .inr (.inl plf)) := by rw [hu_43, va_up_ne _ _ (by decide)]; exact hPl
        refine lv_if_eq (tgt := 34) hx hb dX5_begin_30 (by decide) (fun q_56 => absurd q_56 (by decide)) (fun q_56 => ?_)
        have hfr : ∀ z, z ≠ 77 → w_44 z = w z := fun z hhfr0 => by rw [hu_43, va_up_ne _ _ hhfr0]
        exact x_wretV hx hb hr hlocks hw ⟨fun z hz => hfr z (by omega), RM.set77 hRM hfr hc_45⟩ dX5_begin_33
theorem uL_s (f : Nat → Int64) (k : Nat) (x : Int64) : vp_updL f k x k = x := pk_uLs
theorem uL_n (f : Nat → Int64) {k j : Nat} (x : Int64) (h : j ≠ k) : vp_updL f k x j = f j := pk_uLn h

set_option maxHeartbeats 4000000 in
set_option maxRecDepth 100000 in
theorem k5_deal1 {l : Launch} {p : Program} {e : Env} {s : State} {m : MethodId} {args : Array Value} {below : List Frame} {meth : Method} {c : Code} {Q : State → Prop} {D : va_G} {cI cJ cZ cD : ClassId} {ad : Nat → Nat} {A : Nat → Prop} {H0 : Heap} {w0 : Nat → va_E} (hC : CallFix p m c cX5_deal 5 s args wsL_law RX5) (hA : ∀ q, H0.size ≤ q → A q) (cd : Int32) (n t cl qu en kp : Nat) (i : Nat) (hi : i ≤ 16) (ht : t ≤ 16) (seed : Int64) (cf0 mf0 : Nat → Int64)
    (kx : ∀ (hs : Int64) (cf : Nat → Int64) (mf : Nat → Int64) (w : Nat → va_E) (ls : Array Slot) (H : Heap) (locs : List Loc), (∀ z, z ≠ 77 → z ≠ 80 → z ≠ 81 → w z = w0 z) → w 77 = .inr (4, [.int cd, .int (nI n), .int (nI t), .int (nI cl), .ref (ad 78), .ref (ad 79), .ref (ad 80), .ref (ad 81), .ref (ad 82), .ref (ad 83), .int (nI qu), .ref (ad 84), .ref (ad 85), .ref (ad 86), .int (nI en), .int (nI kp), .ref (ad 87), .long hs]) → w 80 = .inl (cJ, 289, .inr (.inl cf)) → w 81 = .inl (cJ, 289, .inr (.inl mf)) → (∀ j, j < t → cf (17 * i + j) = lN (coF seed i j) ∧ mf (17 * i + j) = lN (4 ^ coF seed i j % 2147483579)) → (∀ z, z < 17 * i ∨ 17 * i + 16 < z → cf z = cf0 z ∧ mf z = mf0 z) → WW D vwCl (tyL cI cJ cZ cD) A H0 ad 89 w s H locs → lv_has ls 5 [(0, .ref (ad 77)), (1, .int (nI i))] → W p l e ({ frames := 2, cells := 0, slots := 0, locals := 72 }) s m args below meth c H locs 0 0 Q (F0 m 144 ls [])) :
    ∀ (j q : Nat) (hs : Int64) (cf : Nat → Int64) (mf : Nat → Int64) (w : Nat → va_E) (ls : Array Slot) (H : Heap) (locs : List Loc), q + j = t → (∀ z, z ≠ 77 → z ≠ 80 → z ≠ 81 → w z = w0 z) → w 77 = .inr (4, [.int cd, .int (nI n), .int (nI t), .int (nI cl), .ref (ad 78), .ref (ad 79), .ref (ad 80), .ref (ad 81), .ref (ad 82), .ref (ad 83), .int (nI qu), .ref (ad 84), .ref (ad 85), .ref (ad 86), .int (nI en), .int (nI kp), .ref (ad 87), .long hs]) → w 80 = .inl (cJ, 289, .inr (.inl cf)) → w 81 = .inl (cJ, 289, .inr (.inl mf)) → (∀ j, j < q → cf (17 * i + j) = lN (coF seed i j) ∧ mf (17 * i + j) = lN (4 ^ coF seed i j % 2147483579)) → (∀ z, z < 17 * i ∨ 17 * i + 16 < z → cf z = cf0 z ∧ mf z = mf0 z) → WW D vwCl (tyL cI cJ cZ cD) A H0 ad 89 w s H locs → lv_has ls 5 [(0, .ref (ad 77)), (1, .int (nI i)), (2, .long seed), (4, .int (nI q))] → W p l e ({ frames := 2, cells := 0, slots := 0, locals := 72 }) s m args below meth c H locs 0 0 Q (F0 m 51 ls []) := by
  obtain ⟨hx, hb, hml, hown, hts⟩ := id hC
  intro j
  induction j with
  | zero =>
    intro q hs cf mf w ls H locs hq hfr hM hd1 hd2 hz hz2 hw hl
    obtain rfl : t = q := by omega
    have hl : lv_has ls 5 [(0, .ref (ad 77)), (1, .int (nI i)), (2, .long seed), (4, .int (nI t))] := hl
    refine lv_iload hx hb dX5_deal_51 (lv_at hl 3 rfl) ?_
    refine lv_aload_n hx hb dX5_deal_53 rfl (lv_at hl 0 rfl) ?_
    refine gf_X5_68 hx hb hts hown hw (by decide) hM rfl dX5_deal_54 ?_
    refine lv_icmp_ge (tgt := 144) hx hb dX5_deal_57 (by decide) (fun hc => ?_) (fun hc => absurd (nI_le (by omega) (by omega)) hc)
    exact kx hs cf mf w ls H locs hfr hM hd1 hd2 hz hz2 hw (lv_sub hl [0, 1] rfl)
  | succ j ih =>
    intro q hs cf mf w ls H locs hq hfr hM hd1 hd2 hz hz2 hw hl
    refine lv_iload hx hb dX5_deal_51 (lv_at hl 3 rfl) ?_
    refine lv_aload_n hx hb dX5_deal_53 rfl (lv_at hl 0 rfl) ?_
    refine gf_X5_68 hx hb hts hown hw (by decide) hM rfl dX5_deal_54 ?_
    refine lv_icmp_ge (tgt := 144) hx hb dX5_deal_57 (by decide) (fun hc => absurd hc (fun q => by rw [nI_leI (by omega) (by omega)] at q; omega)) (fun hc => ?_)
    have hcl9 := coF_lt seed i q
    refine lv_aload_n hx hb dX5_deal_60 rfl (lv_at hl 0 rfl) ?_
    refine lv_lconst (v := lN 0) hx hb dX5_deal_61 (by decide) ?_
    refine pf_X5_45 (v := .long (lN 0)) hx hb hts hown hw (by decide) hM rfl rfl (Nat.le_of_ble_eq_true rfl) dX5_deal_62 (fun w_1 H locs ew_2 hw => ?_)
    have hc_3 : w_1 77 = .inr (4, [.int cd, .int (nI n), .int (nI t), .int (nI cl), .ref (ad 78), .ref (ad 79), .ref (ad 80), .ref (ad 81), .ref (ad 82), .ref (ad 83), .int (nI qu), .ref (ad 84), .ref (ad 85), .ref (ad 86), .int (nI en), .int (nI kp), .ref (ad 87), .long (lN 0)]) := by rw [ew_2]; exact va_up_self _ _ _
    have hc_4 : w_1 80 = .inl (cJ, 289, .inr (.inl cf)) := by rw [ew_2]; exact (va_up_ne _ _ (by omega)).trans hd1
    have hc_5 : w_1 81 = .inl (cJ, 289, .inr (.inl mf)) := by rw [ew_2]; exact (va_up_ne _ _ (by omega)).trans hd2
    refine lv_aload_n hx hb dX5_deal_65 rfl (lv_at hl 0 rfl) ?_
    refine lv_lload_n hx hb dX5_deal_66 rfl (lv_at hl 2 rfl) ?_
    refine x_callW0 (As := [.long seed]) (rest := []) hC vf_X5_87 hw hA (by decide) hc_3 rfl rfl (k5_hashes l _ _ _ _ _ _ _ _ (seed) hc_3) ⟨rfl, rfl, Nat.le_of_ble_eq_true rfl, Nat.le_of_ble_eq_true rfl⟩ hl.1 (Nat.le_of_ble_eq_true rfl) dX5_deal_67 ⟨Nat.zero_le _, Nat.zero_le _⟩ rfl (fun w_7 H locs hu_6 hw => ?_)
    have hc_8 : w_7 77 = .inr (4, [.int cd, .int (nI n), .int (nI t), .int (nI cl), .ref (ad 78), .ref (ad 79), .ref (ad 80), .ref (ad 81), .ref (ad 82), .ref (ad 83), .int (nI qu), .ref (ad 84), .ref (ad 85), .ref (ad 86), .int (nI en), .int (nI kp), .ref (ad 87), .long (stirF (lN 0) (seed))]) := by rw [hu_6]; exact va_up_self _ _ _
    have hc_9 : w_7 80 = .inl (cJ, 289, .inr (.inl cf)) := by rw [hu_6, va_up_ne _ _ (by decide)]; exact hc_4
    have hc_10 : w_7 81 = .inl (cJ, 289, .inr (.inl mf)) := by rw [hu_6, va_up_ne _ _ (by decide)]; exact hc_5
    refine lv_aload_n hx hb dX5_deal_70 rfl (lv_at hl 0 rfl) ?_
    refine lv_iload_n hx hb dX5_deal_71 rfl (lv_at hl 1 rfl) ?_
    refine lv_i2l hx hb dX5_deal_72 (nI_l (by omega)) ?_
    refine x_callW0 (As := [.long (lN i)]) (rest := []) hC vf_X5_87 hw hA (by decide) hc_8 rfl rfl (k5_hashes l _ _ _ _ _ _ _ _ (lN i) hc_8) ⟨rfl, rfl, Nat.le_of_ble_eq_true rfl, Nat.le_of_ble_eq_true rfl⟩ hl.1 (Nat.le_of_ble_eq_true rfl) dX5_deal_73 ⟨Nat.zero_le _, Nat.zero_le _⟩ rfl (fun w_12 H locs hu_11 hw => ?_)
    have hc_13 : w_12 77 = .inr (4, [.int cd, .int (nI n), .int (nI t), .int (nI cl), .ref (ad 78), .ref (ad 79), .ref (ad 80), .ref (ad 81), .ref (ad 82), .ref (ad 83), .int (nI qu), .ref (ad 84), .ref (ad 85), .ref (ad 86), .int (nI en), .int (nI kp), .ref (ad 87), .long (stirF (stirF (lN 0) seed) (lN i))]) := by rw [hu_11]; exact va_up_self _ _ _
    have hc_14 : w_12 80 = .inl (cJ, 289, .inr (.inl cf)) := by rw [hu_11, va_up_ne _ _ (by decide)]; exact hc_9
    have hc_15 : w_12 81 = .inl (cJ, 289, .inr (.inl mf)) := by rw [hu_11, va_up_ne _ _ (by decide)]; exact hc_10
    refine lv_aload_n hx hb dX5_deal_76 rfl (lv_at hl 0 rfl) ?_
    refine lv_iload hx hb dX5_deal_77 (lv_at hl 3 rfl) ?_
    refine lv_i2l hx hb dX5_deal_79 (nI_l (by omega)) ?_
    refine x_callW0 (As := [.long (lN q)]) (rest := []) hC vf_X5_87 hw hA (by decide) hc_13 rfl rfl (k5_hashes l _ _ _ _ _ _ _ _ (lN q) hc_13) ⟨rfl, rfl, Nat.le_of_ble_eq_true rfl, Nat.le_of_ble_eq_true rfl⟩ hl.1 (Nat.le_of_ble_eq_true rfl) dX5_deal_80 ⟨Nat.zero_le _, Nat.zero_le _⟩ rfl (fun w_17 H locs hu_16 hw => ?_)
    have hc_18 : w_17 77 = .inr (4, [.int cd, .int (nI n), .int (nI t), .int (nI cl), .ref (ad 78), .ref (ad 79), .ref (ad 80), .ref (ad 81), .ref (ad 82), .ref (ad 83), .int (nI qu), .ref (ad 84), .ref (ad 85), .ref (ad 86), .int (nI en), .int (nI kp), .ref (ad 87), .long (stirF (stirF (stirF (lN 0) seed) (lN i)) (lN q))]) := by rw [hu_16]; exact va_up_self _ _ _
    have hc_19 : w_17 80 = .inl (cJ, 289, .inr (.inl cf)) := by rw [hu_16, va_up_ne _ _ (by decide)]; exact hc_14
    have hc_20 : w_17 81 = .inl (cJ, 289, .inr (.inl mf)) := by rw [hu_16, va_up_ne _ _ (by decide)]; exact hc_15
    refine lv_aload_n hx hb dX5_deal_83 rfl (lv_at hl 0 rfl) ?_
    refine gf_X5_16 hx hb hts hown hw (by decide) hc_18 rfl dX5_deal_84 ?_
    refine lv_bipush (v := nI 17) hx hb dX5_deal_87 (by decide) ?_
    refine lv_iload_n hx hb dX5_deal_89 rfl (lv_at hl 1 rfl) ?_
    refine t_imul hx hb dX5_deal_90 (v := nI (17 * i)) (pk_mul _ _) ?_
    refine lv_iload hx hb dX5_deal_91 (lv_at hl 3 rfl) ?_
    refine t_iadd hx hb dX5_deal_93 (v := nI (17 * i + q)) (nI_add _ _) ?_
    refine lv_aload_n hx hb dX5_deal_94 rfl (lv_at hl 0 rfl) ?_
    refine gf_X5_45 hx hb hts hown hw (by decide) hc_18 rfl dX5_deal_95 ?_
    refine lv_ldc2 hx hb hown (hts _ ct_X5_62) dX5_deal_98 ?_
    refine x_callS (As := [.long (stirF (stirF (stirF (lN 0) seed) (lN i)) (lN q)), .long (lN 1073741789)]) (rest := [.int (nI (17 * i + q)), .ref (ad 80)]) hC sf_X5_55 (k5_rest l (stirF (stirF (stirF (lN 0) seed) (lN i)) (lN q)) 1073741789 (by decide) (by decide)) ⟨rfl, rfl, Nat.le_of_ble_eq_true rfl, Nat.le_of_ble_eq_true rfl⟩ hl.1 (Nat.le_of_ble_eq_true rfl) dX5_deal_101 ⟨Nat.zero_le _, Nat.zero_le _⟩ rfl ?_
    refine x_last hx hb hw (by decide) 1 hc_19 rfl (j := 17 * i + q) (by omega) (by decide) dX5_deal_104 (fun w_21 H locs ew_22 hw => ?_)
    have hc_23 : w_21 77 = .inr (4, [.int cd, .int (nI n), .int (nI t), .int (nI cl), .ref (ad 78), .ref (ad 79), .ref (ad 80), .ref (ad 81), .ref (ad 82), .ref (ad 83), .int (nI qu), .ref (ad 84), .ref (ad 85), .ref (ad 86), .int (nI en), .int (nI kp), .ref (ad 87), .long (stirF (stirF (stirF (lN 0) seed) (lN i)) (lN q))]) := by rw [ew_22]; exact (va_up_ne _ _ (by omega)).trans hc_18
    have hc_24 : w_21 80 = .inl (cJ, 289, .inr (.inl (vp_updL cf (17 * i + q) (lN (coF seed i q))))) := by rw [ew_22]; exact va_up_self _ _ _
    have hc_25 : w_21 81 = .inl (cJ, 289, .inr (.inl mf)) := by rw [ew_22]; exact (va_up_ne _ _ (by omega)).trans hc_20
    refine lv_aload_n hx hb dX5_deal_105 rfl (lv_at hl 0 rfl) ?_
    refine gf_X5_20 hx hb hts hown hw (by decide) hc_23 rfl dX5_deal_106 ?_
    refine lv_bipush (v := nI 17) hx hb dX5_deal_109 (by decide) ?_
    refine lv_iload_n hx hb dX5_deal_111 rfl (lv_at hl 1 rfl) ?_
    refine t_imul hx hb dX5_deal_112 (v := nI (17 * i)) (pk_mul _ _) ?_
    refine lv_iload hx hb dX5_deal_113 (lv_at hl 3 rfl) ?_
    refine t_iadd hx hb dX5_deal_115 (v := nI (17 * i + q)) (nI_add _ _) ?_
    refine lv_ldc2 hx hb hown (hts _ ct_X5_91) dX5_deal_116 ?_
    refine lv_aload_n hx hb dX5_deal_119 rfl (lv_at hl 0 rfl) ?_
    refine gf_X5_16 hx hb hts hown hw (by decide) hc_23 rfl dX5_deal_120 ?_
    refine lv_bipush (v := nI 17) hx hb dX5_deal_123 (by decide) ?_
    refine lv_iload_n hx hb dX5_deal_125 rfl (lv_at hl 1 rfl) ?_
    refine t_imul hx hb dX5_deal_126 (v := nI (17 * i)) (pk_mul _ _) ?_
    refine lv_iload hx hb dX5_deal_127 (lv_at hl 3 rfl) ?_
    refine t_iadd hx hb dX5_deal_129 (v := nI (17 * i + q)) (nI_add _ _) ?_
    refine x_lald hx hb hw (by decide) 1 hc_24 rfl (j := 17 * i + q) (by omega) (by decide) (uL_s _ _ _) dX5_deal_130 ?_
    refine lv_ldc2 hx hb hown (hts _ ct_X5_93) dX5_deal_131 ?_
    refine x_callS (As := [.long (lN 4), .long (lN (coF seed i q)), .long (lN 2147483579)]) (rest := [.int (nI (17 * i + q)), .ref (ad 81)]) hC sf_X5_95 (k5_power l 4 (coF seed i q) 2147483579 (by decide) (by omega) (by decide) (by decide)) ⟨rfl, rfl, Nat.le_of_ble_eq_true rfl, Nat.le_of_ble_eq_true rfl⟩ hl.1 (Nat.le_of_ble_eq_true rfl) dX5_deal_134 ⟨Nat.zero_le _, Nat.zero_le _⟩ rfl ?_
    refine x_last hx hb hw (by decide) 1 hc_25 rfl (j := 17 * i + q) (by omega) (by decide) dX5_deal_137 (fun w_26 H locs ew_27 hw => ?_)
    have hc_28 : w_26 77 = .inr (4, [.int cd, .int (nI n), .int (nI t), .int (nI cl), .ref (ad 78), .ref (ad 79), .ref (ad 80), .ref (ad 81), .ref (ad 82), .ref (ad 83), .int (nI qu), .ref (ad 84), .ref (ad 85), .ref (ad 86), .int (nI en), .int (nI kp), .ref (ad 87), .long (stirF (stirF (stirF (lN 0) seed) (lN i)) (lN q))]) := by rw [ew_27]; exact (va_up_ne _ _ (by omega)).trans hc_23
    have hc_29 : w_26 80 = .inl (cJ, 289, .inr (.inl (vp_updL cf (17 * i + q) (lN (coF seed i q))))) := by rw [ew_27]; exact (va_up_ne _ _ (by omega)).trans hc_24
    have hc_30 : w_26 81 = .inl (cJ, 289, .inr (.inl (vp_updL mf (17 * i + q) (lN (4 ^ coF seed i q % 2147483579))))) := by rw [ew_27]; exact va_up_self _ _ _
    refine lv_iinc (v := nI (q + 1)) (lv' := [(4, .int (nI (q + 1))), (0, .ref (ad 77)), (1, .int (nI i)), (2, .long seed)]) hx hb dX5_deal_138 hl (k := 3) rfl (nI_1 q) (by decide) rfl (fun ls hl => ?_)
    refine lv_goto (tgt := 51) hx hb dX5_deal_141 (by decide) ?_
    have hf2 : ∀ z, z ≠ 77 → z ≠ 80 → z ≠ 81 → w_26 z = w z := fun z hhf20 hhf21 hhf22 => by rw [ew_27, va_up_ne _ _ hhf22, ew_22, va_up_ne _ _ hhf21, hu_16, va_up_ne _ _ hhf20, hu_11, va_up_ne _ _ hhf20, hu_6, va_up_ne _ _ hhf20, ew_2, va_up_ne _ _ hhf20]
    refine ih (q + 1) _ _ _ _ ls H locs (by omega) (fun z h1 h2 h3 => (hf2 z h1 h2 h3).trans (hfr z h1 h2 h3)) hc_28 hc_29 hc_30 (fun j9 hj => ?_) (fun z hz9 => ?_) hw (lv_sub hl [1, 2, 3, 0] rfl)
    · by_cases hjq : j9 = q
      · subst hjq; exact ⟨uL_s _ _ _, uL_s _ _ _⟩
      · rw [uL_n _ _ (by omega), uL_n _ _ (by omega)]; exact hz j9 (by omega)
    · rw [uL_n _ _ (by omega), uL_n _ _ (by omega)]; exact hz2 z hz9
set_option maxHeartbeats 4000000 in
set_option maxRecDepth 100000 in
theorem k5_deal2 {l : Launch} {p : Program} {e : Env} {s : State} {m : MethodId} {args : Array Value} {below : List Frame} {meth : Method} {c : Code} {Q : State → Prop} {D : va_G} {cI cJ cZ cD : ClassId} {ad : Nat → Nat} {A : Nat → Prop} {H0 : Heap} {w0 : Nat → va_E} (hC : CallFix p m c cX5_deal 5 s args wsL_law RX5) (hA : ∀ q, H0.size ≤ q → A q) (cd : Int32) (n t cl qu en kp : Nat) (hs : Int64) (cf : Nat → Int64) (i : Nat) (hi : i ≤ 16) (hn : n ≤ 16) (ht : t ≤ 16) (co : Nat → Nat) (hco : ∀ j, j < t → cf (17 * i + j) = lN (co j) ∧ co j < 1073741789) (sf0 : Nat → Int64) (hM : w0 77 = .inr (4, [.int cd, .int (nI n), .int (nI t), .int (nI cl), .ref (ad 78), .ref (ad 79), .ref (ad 80), .ref (ad 81), .ref (ad 82), .ref (ad 83), .int (nI qu), .ref (ad 84), .ref (ad 85), .ref (ad 86), .int (nI en), .int (nI kp), .ref (ad 87), .long hs])) (hCf : w0 80 = .inl (cJ, 289, .inr (.inl cf)))
    (kx : ∀ (sf : Nat → Int64) (w : Nat → va_E) (ls : Array Slot) (H : Heap) (locs : List Loc), (∀ z, z ≠ 82 → w z = w0 z) → w 82 = .inl (cJ, 289, .inr (.inl sf)) → (∀ k, 1 ≤ k → k ≤ n → sf (17 * i + k) = lN (rgt co t k)) → (∀ z, z < 17 * i ∨ 17 * i + 16 < z → sf z = sf0 z) → WW D vwCl (tyL cI cJ cZ cD) A H0 ad 89 w s H locs → lv_has ls 5 [(0, .ref (ad 77))] → W p l e ({ frames := 2, cells := 0, slots := 0, locals := 72 }) s m args below meth c H locs 0 0 Q (F0 m 181 ls [])) :
    ∀ (j q : Nat) (sf : Nat → Int64) (w : Nat → va_E) (ls : Array Slot) (H : Heap) (locs : List Loc), q + j = n → (∀ z, z ≠ 82 → w z = w0 z) → w 82 = .inl (cJ, 289, .inr (.inl sf)) → (∀ k, 1 ≤ k → k ≤ q → sf (17 * i + k) = lN (rgt co t k)) → (∀ z, z < 17 * i ∨ 17 * i + 16 < z → sf z = sf0 z) → WW D vwCl (tyL cI cJ cZ cD) A H0 ad 89 w s H locs → lv_has ls 5 [(0, .ref (ad 77)), (1, .int (nI i)), (4, .int (nI (q + 1)))] → W p l e ({ frames := 2, cells := 0, slots := 0, locals := 72 }) s m args below meth c H locs 0 0 Q (F0 m 147 ls []) := by
  obtain ⟨hx, hb, hml, hown, hts⟩ := id hC
  intro j
  induction j with
  | zero =>
    intro q sf w ls H locs hq hfr hd1 hz hz2 hw hl
    obtain rfl : n = q := by omega
    have hl : lv_has ls 5 [(0, .ref (ad 77)), (1, .int (nI i)), (4, .int (nI (n + 1)))] := hl
    have hM : w 77 = .inr (4, [.int cd, .int (nI n), .int (nI t), .int (nI cl), .ref (ad 78), .ref (ad 79), .ref (ad 80), .ref (ad 81), .ref (ad 82), .ref (ad 83), .int (nI qu), .ref (ad 84), .ref (ad 85), .ref (ad 86), .int (nI en), .int (nI kp), .ref (ad 87), .long hs]) := (hfr 77 (by decide)).trans hM
    have hCf : w 80 = .inl (cJ, 289, .inr (.inl cf)) := (hfr 80 (by decide)).trans hCf
    refine lv_iload hx hb dX5_deal_147 (lv_at hl 2 rfl) ?_
    refine lv_aload_n hx hb dX5_deal_149 rfl (lv_at hl 0 rfl) ?_
    refine gf_X5_59 hx hb hts hown hw (by decide) hM rfl dX5_deal_150 ?_
    refine lv_icmp_gt (tgt := 181) hx hb dX5_deal_153 (by decide) (fun hc => ?_) (fun hc => absurd (nI_lt (by omega) (by omega)) hc)
    exact kx sf w ls H locs hfr hd1 hz hz2 hw (lv_sub hl [0] rfl)
  | succ j ih =>
    intro q sf w ls H locs hq hfr hd1 hz hz2 hw hl
    have hM : w 77 = .inr (4, [.int cd, .int (nI n), .int (nI t), .int (nI cl), .ref (ad 78), .ref (ad 79), .ref (ad 80), .ref (ad 81), .ref (ad 82), .ref (ad 83), .int (nI qu), .ref (ad 84), .ref (ad 85), .ref (ad 86), .int (nI en), .int (nI kp), .ref (ad 87), .long hs]) := (hfr 77 (by decide)).trans hM
    have hCf : w 80 = .inl (cJ, 289, .inr (.inl cf)) := (hfr 80 (by decide)).trans hCf
    refine lv_iload hx hb dX5_deal_147 (lv_at hl 2 rfl) ?_
    refine lv_aload_n hx hb dX5_deal_149 rfl (lv_at hl 0 rfl) ?_
    refine gf_X5_59 hx hb hts hown hw (by decide) hM rfl dX5_deal_150 ?_
    refine lv_icmp_gt (tgt := 181) hx hb dX5_deal_153 (by decide) (fun hc => absurd hc (nI_nlt (by omega) (by omega))) (fun hc => ?_)
    refine lv_aload_n hx hb dX5_deal_156 rfl (lv_at hl 0 rfl) ?_
    refine gf_X5_23 hx hb hts hown hw (by decide) hM rfl dX5_deal_157 ?_
    refine lv_bipush (v := nI 17) hx hb dX5_deal_160 (by decide) ?_
    refine lv_iload_n hx hb dX5_deal_162 rfl (lv_at hl 1 rfl) ?_
    refine t_imul hx hb dX5_deal_163 (v := nI (17 * i)) (pk_mul _ _) ?_
    refine lv_iload hx hb dX5_deal_164 (lv_at hl 2 rfl) ?_
    refine t_iadd hx hb dX5_deal_166 (v := nI (17 * i + (q + 1))) (nI_add _ _) ?_
    refine lv_aload_n hx hb dX5_deal_167 rfl (lv_at hl 0 rfl) ?_
    refine lv_iload_n hx hb dX5_deal_168 rfl (lv_at hl 1 rfl) ?_
    refine lv_iload hx hb dX5_deal_169 (lv_at hl 2 rfl) ?_
    refine x_callW1 (As := [.int (nI i), .int (nI (q + 1))]) (rest := [.int (nI (17 * i + (q + 1))), .ref (ad 82)]) hC vf_X5_99 hw hA (by decide) hM rfl rfl (k5_right l _ _ _ _ _ _ _ _ cf i (q + 1) hi (by omega) (by omega) co hco hM hCf) ⟨rfl, rfl, Nat.le_of_ble_eq_true rfl, Nat.le_of_ble_eq_true rfl⟩ hl.1 (Nat.le_of_ble_eq_true rfl) dX5_deal_171 ⟨Nat.zero_le _, Nat.zero_le _⟩ rfl (fun w_1 H locs hu hw => ?_)
    rw [hu] at hw
    refine x_last hx hb hw (by decide) 1 hd1 rfl (j := 17 * i + (q + 1)) (by omega) (by decide) dX5_deal_174 (fun w_2 H locs ew_3 hw => ?_)
    have hc_4 : w_2 77 = .inr (4, [.int cd, .int (nI n), .int (nI t), .int (nI cl), .ref (ad 78), .ref (ad 79), .ref (ad 80), .ref (ad 81), .ref (ad 82), .ref (ad 83), .int (nI qu), .ref (ad 84), .ref (ad 85), .ref (ad 86), .int (nI en), .int (nI kp), .ref (ad 87), .long hs]) := by rw [ew_3]; exact (va_up_ne _ _ (by omega)).trans hM
    have hc_5 : w_2 80 = .inl (cJ, 289, .inr (.inl cf)) := by rw [ew_3]; exact (va_up_ne _ _ (by omega)).trans hCf
    have hc_6 : w_2 82 = .inl (cJ, 289, .inr (.inl (vp_updL sf (17 * i + (q + 1)) (lN (rgt co t (q + 1)))))) := by rw [ew_3]; exact va_up_self _ _ _
    refine lv_iinc (v := nI (q + 1 + 1)) (lv' := [(4, .int (nI (q + 1 + 1))), (0, .ref (ad 77)), (1, .int (nI i))]) hx hb dX5_deal_175 hl (k := 2) rfl (nI_1 (q + 1)) (by decide) rfl (fun ls hl => ?_)
    refine lv_goto (tgt := 147) hx hb dX5_deal_178 (by decide) ?_
    have hf2 : ∀ z, z ≠ 82 → w_2 z = w z := fun z hhf20 => by rw [ew_3, va_up_ne _ _ hhf20]
    refine ih (q + 1) _ _ ls H locs (by omega) (fun z h1 => (hf2 z h1).trans (hfr z h1)) hc_6 (fun k9 h1 h2 => ?_) (fun z hz9 => ?_) hw (lv_sub hl [1, 2, 0] rfl)
    · by_cases hkq : k9 = q + 1
      · subst hkq; exact uL_s _ _ _
      · rw [uL_n _ _ (by omega)]; exact hz k9 h1 (by omega)
    · rw [uL_n _ _ (by omega)]; exact hz2 z hz9
set_option maxHeartbeats 4000000 in
set_option maxRecDepth 100000 in
theorem m_deal (l : Launch) {D : va_G} {cI cJ cZ cD : ClassId} {ad : Nat → Nat} {w : Nat → va_E} {sz : Nat} (n t cl qu en kp : Nat) (dl ou cp ks pt : Nat → Nat) (co sh : Nat → Nat → Nat) (vs : Nat → Int64) (cd : Int32) (hok : OkS n t cl qu en kp dl ou cp ks pt co sh) (hRM : RM ad cJ cZ w cd n t cl qu en kp dl ou cp ks pt co sh vs) (i : Nat) (hi1 : 1 ≤ i) (hi2 : i ≤ n) (seed : Int64) (hcl0 : cl = 0) (hdl : dl i = 0)  : MW l yX5_deal (.code yX5_deal cX5_deal 5 none) ({ frames := 2, cells := 0, slots := 0, locals := 72 }) [.ref (ad 77), .int (nI i), .long seed] D (tyL cI cJ cZ cD) ad 89 w sz none (fun u => (∀ z, z < 77 ∨ 87 < z → u z = w z) ∧ RM ad cJ cZ u (nI 0) n t 0 qu en kp (va_up dl i 1) ou cp ks pt (va_up co i (coF seed i)) (va_up sh i (rgt (coF seed i) t)) vs) := by
  refine MW.of (by decide) (Nat.le_of_ble_eq_true rfl) ?_
  intro p e s m below meth c ls hC hr hlocks hl hw
  obtain ⟨hx, hb, hml, hown, hts⟩ := id hC
  have hA : ∀ q, s.heap.size ≤ q → xA ad 89 s.heap.size q := fun q h => Or.inr h
  have hl : lv_has ls 5 [(0, .ref (ad 77)), (1, .int (nI i)), (2, .long seed)] := hl
  obtain ⟨⟨hs, hM⟩, ⟨dz, oz, hDz, hOz, hdo⟩, ⟨cf, mf, sf, hCf, hMf, hSf, hcs⟩, ⟨xf, hXf, hxx⟩, ⟨kyf, swf, hKy, hSw, hks⟩, ⟨vlf, hVl, hvl⟩, ⟨plf, hPl, hpl⟩⟩ := id hRM
  obtain ⟨⟨hn, ht, hcl, hqu, hen, hkp⟩, hle, ⟨hqb, hkb, hcb⟩, hvals, hclv, hptl, ⟨hz1, hz2, hz3⟩⟩ := id hok
  subst hcl0
  refine lv_aload_n hx hb dX5_deal_0 rfl (lv_at hl 0 rfl) ?_
  refine lv_aload_n hx hb dX5_deal_1 rfl (lv_at hl 0 rfl) ?_
  refine lv_iload_n hx hb dX5_deal_2 rfl (lv_at hl 1 rfl) ?_
  refine x_callW1 (As := [.int (nI i)]) (rest := [.ref (ad 77)]) hC vf_X5_84 hw hA (by decide) hM rfl rfl (k5_isNode l _ _ _ _ _ _ _ _ hn i hi1 hi2 hM) ⟨rfl, rfl, Nat.le_of_ble_eq_true rfl, Nat.le_of_ble_eq_true rfl⟩ hl.1 (Nat.le_of_ble_eq_true rfl) dX5_deal_3 ⟨Nat.zero_le _, Nat.zero_le _⟩ rfl (fun w_1 H locs hu hw => ?_)
  rw [hu] at hw
  refine lv_if_ne (tgt := 13) hx hb dX5_deal_6 (by decide) (fun q_2 => ?_) (fun q_2 => absurd q_2 (by decide))
  refine lv_aload_n hx hb dX5_deal_13 rfl (lv_at hl 0 rfl) ?_
  refine gf_X5_7 hx hb hts hown hw (by decide) hM rfl dX5_deal_14 ?_
  refine lv_iload_n hx hb dX5_deal_17 rfl (lv_at hl 1 rfl) ?_
  refine x_zald hx hb hw (by decide) 2 hDz rfl (j := i) (by omega) (by decide) (by rw [(hdo i (by omega)).1, hdl]) dX5_deal_18 ?_
  refine lv_if_ne (tgt := 29) hx hb dX5_deal_19 (by decide) (fun q_3 => absurd (by decide) q_3) (fun q_3 => ?_)
  refine lv_aload_n hx hb dX5_deal_22 rfl (lv_at hl 0 rfl) ?_
  refine gf_X5_71 hx hb hts hown hw (by decide) hM rfl dX5_deal_23 ?_
  refine lv_if_eq (tgt := 33) hx hb dX5_deal_26 (by decide) (fun q_4 => ?_) (fun q_4 => absurd (by decide) q_4)
  refine lv_iconst (v := nI 0) hx hb dX5_deal_33 (by decide) ?_
  refine x_callW1 (As := [.int (nI 0)]) (rest := []) hC vf_X5_64 hw hA (by decide) hM rfl rfl (k5_refuses0 l _ _ _ _ _ _ _ _ hM) ⟨rfl, rfl, Nat.le_of_ble_eq_true rfl, Nat.le_of_ble_eq_true rfl⟩ hl.1 (Nat.le_of_ble_eq_true rfl) dX5_deal_34 ⟨Nat.zero_le _, Nat.zero_le _⟩ rfl (fun w_6 H locs hu_5 hw => ?_)
  have hc_7 : w_6 77 = .inr (4, [.int (nI 0), .int (nI n), .int (nI t), .int (nI 0), .ref (ad 78), .ref (ad 79), .ref (ad 80), .ref (ad 81), .ref (ad 82), .ref (ad 83), .int (nI qu), .ref (ad 84), .ref (ad 85), .ref (ad 86), .int (nI en), .int (nI kp), .ref (ad 87), .long hs]) := by rw [hu_5]; exact va_up_self _ _ _
  have hc_8 : w_6 78 = .inl (cZ, 17, .inl dz) := by rw [hu_5, va_up_ne _ _ (by decide)]; exact hDz
  have hc_9 : w_6 79 = .inl (cZ, 17, .inl oz) := by rw [hu_5, va_up_ne _ _ (by decide)]; exact hOz
  have hc_10 : w_6 80 = .inl (cJ, 289, .inr (.inl cf)) := by rw [hu_5, va_up_ne _ _ (by decide)]; exact hCf
  have hc_11 : w_6 81 = .inl (cJ, 289, .inr (.inl mf)) := by rw [hu_5, va_up_ne _ _ (by decide)]; exact hMf
  have hc_12 : w_6 82 = .inl (cJ, 289, .inr (.inl sf)) := by rw [hu_5, va_up_ne _ _ (by decide)]; exact hSf
  have hc_13 : w_6 83 = .inl (cZ, 289, .inl xf) := by rw [hu_5, va_up_ne _ _ (by decide)]; exact hXf
  have hc_14 : w_6 84 = .inl (cJ, 17, .inr (.inl kyf)) := by rw [hu_5, va_up_ne _ _ (by decide)]; exact hKy
  have hc_15 : w_6 85 = .inl (cJ, 17, .inr (.inl swf)) := by rw [hu_5, va_up_ne _ _ (by decide)]; exact hSw
  have hc_16 : w_6 86 = .inl (cJ, 301, .inr (.inl vlf)) := by rw [hu_5, va_up_ne _ _ (by decide)]; exact hVl
  have hc_17 : w_6 87 = .inl (cJ, 17, .inr (.inl plf)) := by rw [hu_5, va_up_ne _ _ (by decide)]; exact hPl
  refine lv_if_eq (tgt := 41) hx hb dX5_deal_37 (by decide) (fun q_18 => ?_) (fun q_18 => absurd (by decide) q_18)
  refine lv_aload_n hx hb dX5_deal_41 rfl (lv_at hl 0 rfl) ?_
  refine gf_X5_7 hx hb hts hown hw (by decide) hc_7 rfl dX5_deal_42 ?_
  refine lv_iload_n hx hb dX5_deal_45 rfl (lv_at hl 1 rfl) ?_
  refine lv_iconst (v := nI 1) hx hb dX5_deal_46 (by decide) ?_
  refine x_zast hx hb hw (by decide) 2 hc_8 rfl (j := i) (by omega) (by decide) (by decide) dX5_deal_47 (fun w_19 H locs ew_20 hw => ?_)
  have hc_21 : w_19 77 = .inr (4, [.int (nI 0), .int (nI n), .int (nI t), .int (nI 0), .ref (ad 78), .ref (ad 79), .ref (ad 80), .ref (ad 81), .ref (ad 82), .ref (ad 83), .int (nI qu), .ref (ad 84), .ref (ad 85), .ref (ad 86), .int (nI en), .int (nI kp), .ref (ad 87), .long hs]) := by rw [ew_20]; exact (va_up_ne _ _ (by omega)).trans hc_7
  have hc_22 : w_19 78 = .inl (cZ, 17, .inl (upd dz i (nI 1))) := by rw [ew_20]; exact va_up_self _ _ _
  have hc_23 : w_19 79 = .inl (cZ, 17, .inl oz) := by rw [ew_20]; exact (va_up_ne _ _ (by omega)).trans hc_9
  have hc_24 : w_19 80 = .inl (cJ, 289, .inr (.inl cf)) := by rw [ew_20]; exact (va_up_ne _ _ (by omega)).trans hc_10
  have hc_25 : w_19 81 = .inl (cJ, 289, .inr (.inl mf)) := by rw [ew_20]; exact (va_up_ne _ _ (by omega)).trans hc_11
  have hc_26 : w_19 82 = .inl (cJ, 289, .inr (.inl sf)) := by rw [ew_20]; exact (va_up_ne _ _ (by omega)).trans hc_12
  have hc_27 : w_19 83 = .inl (cZ, 289, .inl xf) := by rw [ew_20]; exact (va_up_ne _ _ (by omega)).trans hc_13
  have hc_28 : w_19 84 = .inl (cJ, 17, .inr (.inl kyf)) := by rw [ew_20]; exact (va_up_ne _ _ (by omega)).trans hc_14
  have hc_29 : w_19 85 = .inl (cJ, 17, .inr (.inl swf)) := by rw [ew_20]; exact (va_up_ne _ _ (by omega)).trans hc_15
  have hc_30 : w_19 86 = .inl (cJ, 301, .inr (.inl vlf)) := by rw [ew_20]; exact (va_up_ne _ _ (by omega)).trans hc_16
  have hc_31 : w_19 87 = .inl (cJ, 17, .inr (.inl plf)) := by rw [ew_20]; exact (va_up_ne _ _ (by omega)).trans hc_17
  refine lv_iconst (v := nI 0) hx hb dX5_deal_48 (by decide) ?_
  refine lv_istore (lv' := [(4, .int (nI 0)), (0, .ref (ad 77)), (1, .int (nI i)), (2, .long seed)]) hx hb dX5_deal_49 hl (by decide) rfl (fun ls hl => ?_)
  have hf1 : ∀ z, z ≠ 77 → z ≠ 78 → w_19 z = w z := fun z hhf10 hhf11 => by rw [ew_20, va_up_ne _ _ hhf11, hu_5, va_up_ne _ _ hhf10]
  refine k5_deal1 (w0 := w_19) hC hA (nI 0) n t 0 qu en kp i (by omega) (by omega) seed cf mf (fun hs2 cf2 mf2 w2 ls H locs hfr2 hM2 hd1 hd2 hz2 hz3 hw hl => ?_) t 0 _ cf mf w_19 ls H locs (by omega) (fun _ _ _ _ => rfl) hc_21 hc_24 hc_25 (fun j hj => absurd hj (by omega)) (fun _ _ => ⟨rfl, rfl⟩) hw (lv_sub hl [1, 2, 3, 0] rfl)
  refine lv_iconst (v := nI 1) hx hb dX5_deal_144 (by decide) ?_
  refine lv_istore (lv' := [(4, .int (nI 1)), (0, .ref (ad 77)), (1, .int (nI i))]) hx hb dX5_deal_145 hl (by decide) rfl (fun ls hl => ?_)
  refine k5_deal2 (w0 := w2) hC hA (nI 0) n t 0 qu en kp hs2 cf2 i (by omega) hn (by omega) (coF seed i) (fun j hj => ⟨(hz2 j hj).1, coF_lt _ _ _⟩) sf hM2 hd1 (fun sf2 w3 ls H locs hfr3 hd3 hz4 hz5 hw hl => ?_) n 0 sf w2 ls H locs (by omega) (fun _ _ => rfl) ((hfr2 82 (by decide) (by decide) (by decide)).trans hc_26) (fun k h1 h2 => by omega) (fun _ _ => rfl) hw (lv_sub hl [1, 2, 0] rfl)
  have hall : ∀ z, z ≠ 77 → z ≠ 78 → z ≠ 80 → z ≠ 81 → z ≠ 82 → w3 z = w z := fun z h1 h2 h3 h4 h5 => (hfr3 z h5).trans ((hfr2 z h1 h3 h4).trans (hf1 z h1 h2))
  refine x_wretV hx hb hr hlocks hw ⟨fun z hz => hall z (by omega) (by omega) (by omega) (by omega) (by omega), ⟨hs2, (hfr3 77 (by decide)).trans hM2⟩, ⟨upd dz i (nI 1), oz, (hfr3 78 (by decide)).trans ((hfr2 78 (by decide) (by decide) (by decide)).trans hc_22), (hall 79 (by decide) (by decide) (by decide) (by decide) (by decide)).trans hOz, fun i9 hi9 => ?_⟩, ⟨cf2, mf2, sf2, (hfr3 80 (by decide)).trans hd1, (hfr3 81 (by decide)).trans hd2, hd3, fun i9 h1 h2 h3 => ?_⟩, RMx.of ⟨xf, hXf, hxx⟩ (hall 83 (by decide) (by decide) (by decide) (by decide) (by decide)), RMk.of ⟨kyf, swf, hKy, hSw, hks⟩ (hall 84 (by decide) (by decide) (by decide) (by decide) (by decide)) (hall 85 (by decide) (by decide) (by decide) (by decide) (by decide)), RMv.of ⟨vlf, hVl, hvl⟩ (hall 86 (by decide) (by decide) (by decide) (by decide) (by decide)), RMp.of ⟨plf, hPl, hpl⟩ (hall 87 (by decide) (by decide) (by decide) (by decide) (by decide))⟩ dX5_deal_181
  · by_cases hii : i9 = i
    · subst hii; rw [upd_s, va_up_self]; exact ⟨rfl, (hdo i9 hi9).2⟩
    · rw [upd_n _ _ hii, va_up_ne _ _ hii]; exact hdo i9 hi9
  · by_cases hii : i9 = i
    · subst hii; rw [va_up_self, va_up_self]; exact ⟨hz2, hz4⟩
    · rw [va_up_ne _ _ hii] at h3
      rw [va_up_ne _ _ hii, va_up_ne _ _ hii]
      obtain ⟨e1, e2⟩ := hcs i9 h1 h2 h3
      refine ⟨fun j hj => ?_, fun k h4 h5 => ?_⟩
      · rw [(hz3 _ (by omega)).1, (hz3 _ (by omega)).2]; exact e1 j hj
      · rw [hz5 _ (by omega)]; exact e2 k h4 h5
set_option maxHeartbeats 4000000 in
set_option maxRecDepth 100000 in
theorem m_dealA (l : Launch) {D : va_G} {cI cJ cZ cD : ClassId} {ad : Nat → Nat} {w : Nat → va_E} {sz : Nat} (n t cl qu en kp : Nat) (dl ou cp ks pt : Nat → Nat) (co sh : Nat → Nat → Nat) (vs : Nat → Int64) (cd : Int32) (hok : OkS n t cl qu en kp dl ou cp ks pt co sh) (hRM : RM ad cJ cZ w cd n t cl qu en kp dl ou cp ks pt co sh vs) (x : Int32) (seed : Int64) (hbad : ¬ isNd n x)  : MW l yX5_deal (.code yX5_deal cX5_deal 5 none) ({ frames := 2, cells := 0, slots := 0, locals := 72 }) [.ref (ad 77), .int x, .long seed] D (tyL cI cJ cZ cD) ad 89 w sz none (fun u => (∀ z, z < 77 ∨ 87 < z → u z = w z) ∧ RM ad cJ cZ u (nI 1) n t cl qu en kp dl ou cp ks pt co sh vs) := by
  refine MW.of (by decide) (Nat.le_of_ble_eq_true rfl) ?_
  intro p e s m below meth c ls hC hr hlocks hl hw
  obtain ⟨hx, hb, hml, hown, hts⟩ := id hC
  have hA : ∀ q, s.heap.size ≤ q → xA ad 89 s.heap.size q := fun q h => Or.inr h
  have hl : lv_has ls 5 [(0, .ref (ad 77)), (1, .int x), (2, .long seed)] := hl
  obtain ⟨⟨hs, hM⟩, ⟨dz, oz, hDz, hOz, hdo⟩, ⟨cf, mf, sf, hCf, hMf, hSf, hcs⟩, ⟨xf, hXf, hxx⟩, ⟨kyf, swf, hKy, hSw, hks⟩, ⟨vlf, hVl, hvl⟩, ⟨plf, hPl, hpl⟩⟩ := id hRM
  obtain ⟨⟨hn, ht, hcl, hqu, hen, hkp⟩, hle, ⟨hqb, hkb, hcb⟩, hvals, hclv, hptl, ⟨hz1, hz2, hz3⟩⟩ := id hok
  refine lv_aload_n hx hb dX5_deal_0 rfl (lv_at hl 0 rfl) ?_
  refine lv_aload_n hx hb dX5_deal_1 rfl (lv_at hl 0 rfl) ?_
  refine lv_iload_n hx hb dX5_deal_2 rfl (lv_at hl 1 rfl) ?_
  refine x_callW1 (As := [.int x]) (rest := [.ref (ad 77)]) hC vf_X5_84 hw hA (by decide) hM rfl rfl (k5_isNodeN l _ _ _ _ _ _ _ _ x hbad hM) ⟨rfl, rfl, Nat.le_of_ble_eq_true rfl, Nat.le_of_ble_eq_true rfl⟩ hl.1 (Nat.le_of_ble_eq_true rfl) dX5_deal_3 ⟨Nat.zero_le _, Nat.zero_le _⟩ rfl (fun w_1 H locs hu hw => ?_)
  rw [hu] at hw
  refine lv_if_ne (tgt := 13) hx hb dX5_deal_6 (by decide) (fun q_2 => absurd (by decide) q_2) (fun q_2 => ?_)
  refine lv_iconst (v := nI 1) hx hb dX5_deal_9 (by decide) ?_
  refine lv_goto (tgt := 34) hx hb dX5_deal_10 (by decide) ?_
  refine x_callW1 (As := [.int (nI 1)]) (rest := []) hC vf_X5_64 hw hA (by decide) hM rfl rfl (k5_refuses1 l _ _ _ _ _ _ _ _ hM) ⟨rfl, rfl, Nat.le_of_ble_eq_true rfl, Nat.le_of_ble_eq_true rfl⟩ hl.1 (Nat.le_of_ble_eq_true rfl) dX5_deal_34 ⟨Nat.zero_le _, Nat.zero_le _⟩ rfl (fun w_4 H locs hu_3 hw => ?_)
  have hc_5 : w_4 77 = .inr (4, [.int (nI 1), .int (nI n), .int (nI t), .int (nI cl), .ref (ad 78), .ref (ad 79), .ref (ad 80), .ref (ad 81), .ref (ad 82), .ref (ad 83), .int (nI qu), .ref (ad 84), .ref (ad 85), .ref (ad 86), .int (nI en), .int (nI kp), .ref (ad 87), .long hs]) := by rw [hu_3]; exact va_up_self _ _ _
  have hc_6 : w_4 78 = .inl (cZ, 17, .inl dz) := by rw [hu_3, va_up_ne _ _ (by decide)]; exact hDz
  have hc_7 : w_4 79 = .inl (cZ, 17, .inl oz) := by rw [hu_3, va_up_ne _ _ (by decide)]; exact hOz
  have hc_8 : w_4 80 = .inl (cJ, 289, .inr (.inl cf)) := by rw [hu_3, va_up_ne _ _ (by decide)]; exact hCf
  have hc_9 : w_4 81 = .inl (cJ, 289, .inr (.inl mf)) := by rw [hu_3, va_up_ne _ _ (by decide)]; exact hMf
  have hc_10 : w_4 82 = .inl (cJ, 289, .inr (.inl sf)) := by rw [hu_3, va_up_ne _ _ (by decide)]; exact hSf
  have hc_11 : w_4 83 = .inl (cZ, 289, .inl xf) := by rw [hu_3, va_up_ne _ _ (by decide)]; exact hXf
  have hc_12 : w_4 84 = .inl (cJ, 17, .inr (.inl kyf)) := by rw [hu_3, va_up_ne _ _ (by decide)]; exact hKy
  have hc_13 : w_4 85 = .inl (cJ, 17, .inr (.inl swf)) := by rw [hu_3, va_up_ne _ _ (by decide)]; exact hSw
  have hc_14 : w_4 86 = .inl (cJ, 301, .inr (.inl vlf)) := by rw [hu_3, va_up_ne _ _ (by decide)]; exact hVl
  have hc_15 : w_4 87 = .inl (cJ, 17, .inr (.inl plf)) := by rw [hu_3, va_up_ne _ _ (by decide)]; exact hPl
  refine lv_if_eq (tgt := 41) hx hb dX5_deal_37 (by decide) (fun q_16 => absurd q_16 (by decide)) (fun q_16 => ?_)
  have hfr : ∀ z, z ≠ 77 → w_4 z = w z := fun z hhfr0 => by rw [hu_3, va_up_ne _ _ hhfr0]
  exact x_wretV hx hb hr hlocks hw ⟨fun z hz => hfr z (by omega), RM.set77 hRM hfr hc_5⟩ dX5_deal_40
set_option maxHeartbeats 4000000 in
set_option maxRecDepth 100000 in
theorem m_dealS (l : Launch) {D : va_G} {cI cJ cZ cD : ClassId} {ad : Nat → Nat} {w : Nat → va_E} {sz : Nat} (n t cl qu en kp : Nat) (dl ou cp ks pt : Nat → Nat) (co sh : Nat → Nat → Nat) (vs : Nat → Int64) (cd : Int32) (hok : OkS n t cl qu en kp dl ou cp ks pt co sh) (hRM : RM ad cJ cZ w cd n t cl qu en kp dl ou cp ks pt co sh vs) (i : Nat) (hi1 : 1 ≤ i) (hi2 : i ≤ n) (seed : Int64) (hbad : cl = 1 ∨ dl i = 1)  : MW l yX5_deal (.code yX5_deal cX5_deal 5 none) ({ frames := 2, cells := 0, slots := 0, locals := 72 }) [.ref (ad 77), .int (nI i), .long seed] D (tyL cI cJ cZ cD) ad 89 w sz none (fun u => (∀ z, z < 77 ∨ 87 < z → u z = w z) ∧ RM ad cJ cZ u (nI 2) n t cl qu en kp dl ou cp ks pt co sh vs) := by
  refine MW.of (by decide) (Nat.le_of_ble_eq_true rfl) ?_
  intro p e s m below meth c ls hC hr hlocks hl hw
  obtain ⟨hx, hb, hml, hown, hts⟩ := id hC
  have hA : ∀ q, s.heap.size ≤ q → xA ad 89 s.heap.size q := fun q h => Or.inr h
  have hl : lv_has ls 5 [(0, .ref (ad 77)), (1, .int (nI i)), (2, .long seed)] := hl
  obtain ⟨⟨hs, hM⟩, ⟨dz, oz, hDz, hOz, hdo⟩, ⟨cf, mf, sf, hCf, hMf, hSf, hcs⟩, ⟨xf, hXf, hxx⟩, ⟨kyf, swf, hKy, hSw, hks⟩, ⟨vlf, hVl, hvl⟩, ⟨plf, hPl, hpl⟩⟩ := id hRM
  obtain ⟨⟨hn, ht, hcl, hqu, hen, hkp⟩, hle, ⟨hqb, hkb, hcb⟩, hvals, hclv, hptl, ⟨hz1, hz2, hz3⟩⟩ := id hok
  refine lv_aload_n hx hb dX5_deal_0 rfl (lv_at hl 0 rfl) ?_
  refine lv_aload_n hx hb dX5_deal_1 rfl (lv_at hl 0 rfl) ?_
  refine lv_iload_n hx hb dX5_deal_2 rfl (lv_at hl 1 rfl) ?_
  refine x_callW1 (As := [.int (nI i)]) (rest := [.ref (ad 77)]) hC vf_X5_84 hw hA (by decide) hM rfl rfl (k5_isNode l _ _ _ _ _ _ _ _ hn i hi1 hi2 hM) ⟨rfl, rfl, Nat.le_of_ble_eq_true rfl, Nat.le_of_ble_eq_true rfl⟩ hl.1 (Nat.le_of_ble_eq_true rfl) dX5_deal_3 ⟨Nat.zero_le _, Nat.zero_le _⟩ rfl (fun w_1 H locs hu hw => ?_)
  rw [hu] at hw
  refine lv_if_ne (tgt := 13) hx hb dX5_deal_6 (by decide) (fun q_2 => ?_) (fun q_2 => absurd q_2 (by decide))
  obtain ⟨g1, g2, g3⟩ := hle i
  refine lv_aload_n hx hb dX5_deal_13 rfl (lv_at hl 0 rfl) ?_
  refine gf_X5_7 hx hb hts hown hw (by decide) hM rfl dX5_deal_14 ?_
  refine lv_iload_n hx hb dX5_deal_17 rfl (lv_at hl 1 rfl) ?_
  refine x_zald hx hb hw (by decide) 2 hDz rfl (j := i) (by omega) (by decide) (hdo i (by omega)).1 dX5_deal_18 ?_
  refine lv_if_ne (tgt := 29) hx hb dX5_deal_19 (by decide) (fun q1 => ?_) (fun q1 => ?_)
  · rw [nI_z (by omega)] at q1
    refine lv_iconst (v := nI 2) hx hb dX5_deal_29 (by decide) ?_
    refine lv_goto (tgt := 34) hx hb dX5_deal_30 (by decide) ?_
    refine x_callW1 (As := [.int (nI 2)]) (rest := []) hC vf_X5_64 hw hA (by decide) hM rfl rfl (k5_refuses2 l _ _ _ _ _ _ _ _ hM) ⟨rfl, rfl, Nat.le_of_ble_eq_true rfl, Nat.le_of_ble_eq_true rfl⟩ hl.1 (Nat.le_of_ble_eq_true rfl) dX5_deal_34 ⟨Nat.zero_le _, Nat.zero_le _⟩ rfl (fun w_4 H locs hu_3 hw => ?_)
    have hc_5 : w_4 77 = .inr (4, [.int (nI 2), .int (nI n), .int (nI t), .int (nI cl), .ref (ad 78), .ref (ad 79), .ref (ad 80), .ref (ad 81), .ref (ad 82), .ref (ad 83), .int (nI qu), .ref (ad 84), .ref (ad 85), .ref (ad 86), .int (nI en), .int (nI kp), .ref (ad 87), .long hs]) := by rw [hu_3]; exact va_up_self _ _ _
    have hc_6 : w_4 78 = .inl (cZ, 17, .inl dz) := by rw [hu_3, va_up_ne _ _ (by decide)]; exact hDz
    have hc_7 : w_4 79 = .inl (cZ, 17, .inl oz) := by rw [hu_3, va_up_ne _ _ (by decide)]; exact hOz
    have hc_8 : w_4 80 = .inl (cJ, 289, .inr (.inl cf)) := by rw [hu_3, va_up_ne _ _ (by decide)]; exact hCf
    have hc_9 : w_4 81 = .inl (cJ, 289, .inr (.inl mf)) := by rw [hu_3, va_up_ne _ _ (by decide)]; exact hMf
    have hc_10 : w_4 82 = .inl (cJ, 289, .inr (.inl sf)) := by rw [hu_3, va_up_ne _ _ (by decide)]; exact hSf
    have hc_11 : w_4 83 = .inl (cZ, 289, .inl xf) := by rw [hu_3, va_up_ne _ _ (by decide)]; exact hXf
    have hc_12 : w_4 84 = .inl (cJ, 17, .inr (.inl kyf)) := by rw [hu_3, va_up_ne _ _ (by decide)]; exact hKy
    have hc_13 : w_4 85 = .inl (cJ, 17, .inr (.inl swf)) := by rw [hu_3, va_up_ne _ _ (by decide)]; exact hSw
    have hc_14 : w_4 86 = .inl (cJ, 301, .inr (.inl vlf)) := by rw [hu_3, va_up_ne _ _ (by decide)]; exact hVl
    have hc_15 : w_4 87 = .inl (cJ, 17, .inr (.inl plf)) := by rw [hu_3, va_up_ne _ _ (by decide)]; exact hPl
    refine lv_if_eq (tgt := 41) hx hb dX5_deal_37 (by decide) (fun q_16 => absurd q_16 (by decide)) (fun q_16 => ?_)
    have hfr : ∀ z, z ≠ 77 → w_4 z = w z := fun z hhfr0 => by rw [hu_3, va_up_ne _ _ hhfr0]
    exact x_wretV hx hb hr hlocks hw ⟨fun z hz => hfr z (by omega), RM.set77 hRM hfr hc_5⟩ dX5_deal_40
  · rw [nI_z (by omega)] at q1
    refine lv_aload_n hx hb dX5_deal_22 rfl (lv_at hl 0 rfl) ?_
    refine gf_X5_71 hx hb hts hown hw (by decide) hM rfl dX5_deal_23 ?_
    refine lv_if_eq (tgt := 33) hx hb dX5_deal_26 (by decide) (fun q2 => absurd q2 (fun q => by rw [nI_z (by omega)] at q; omega)) (fun q2 => ?_)
    refine lv_iconst (v := nI 2) hx hb dX5_deal_29 (by decide) ?_
    refine lv_goto (tgt := 34) hx hb dX5_deal_30 (by decide) ?_
    refine x_callW1 (As := [.int (nI 2)]) (rest := []) hC vf_X5_64 hw hA (by decide) hM rfl rfl (k5_refuses2 l _ _ _ _ _ _ _ _ hM) ⟨rfl, rfl, Nat.le_of_ble_eq_true rfl, Nat.le_of_ble_eq_true rfl⟩ hl.1 (Nat.le_of_ble_eq_true rfl) dX5_deal_34 ⟨Nat.zero_le _, Nat.zero_le _⟩ rfl (fun w_18 H locs hu_17 hw => ?_)
    have hc_19 : w_18 77 = .inr (4, [.int (nI 2), .int (nI n), .int (nI t), .int (nI cl), .ref (ad 78), .ref (ad 79), .ref (ad 80), .ref (ad 81), .ref (ad 82), .ref (ad 83), .int (nI qu), .ref (ad 84), .ref (ad 85), .ref (ad 86), .int (nI en), .int (nI kp), .ref (ad 87), .long hs]) := by rw [hu_17]; exact va_up_self _ _ _
    have hc_20 : w_18 78 = .inl (cZ, 17, .inl dz) := by rw [hu_17, va_up_ne _ _ (by decide)]; exact hDz
    have hc_21 : w_18 79 = .inl (cZ, 17, .inl oz) := by rw [hu_17, va_up_ne _ _ (by decide)]; exact hOz
    have hc_22 : w_18 80 = .inl (cJ, 289, .inr (.inl cf)) := by rw [hu_17, va_up_ne _ _ (by decide)]; exact hCf
    have hc_23 : w_18 81 = .inl (cJ, 289, .inr (.inl mf)) := by rw [hu_17, va_up_ne _ _ (by decide)]; exact hMf
    have hc_24 : w_18 82 = .inl (cJ, 289, .inr (.inl sf)) := by rw [hu_17, va_up_ne _ _ (by decide)]; exact hSf
    have hc_25 : w_18 83 = .inl (cZ, 289, .inl xf) := by rw [hu_17, va_up_ne _ _ (by decide)]; exact hXf
    have hc_26 : w_18 84 = .inl (cJ, 17, .inr (.inl kyf)) := by rw [hu_17, va_up_ne _ _ (by decide)]; exact hKy
    have hc_27 : w_18 85 = .inl (cJ, 17, .inr (.inl swf)) := by rw [hu_17, va_up_ne _ _ (by decide)]; exact hSw
    have hc_28 : w_18 86 = .inl (cJ, 301, .inr (.inl vlf)) := by rw [hu_17, va_up_ne _ _ (by decide)]; exact hVl
    have hc_29 : w_18 87 = .inl (cJ, 17, .inr (.inl plf)) := by rw [hu_17, va_up_ne _ _ (by decide)]; exact hPl
    refine lv_if_eq (tgt := 41) hx hb dX5_deal_37 (by decide) (fun q_30 => absurd q_30 (by decide)) (fun q_30 => ?_)
    have hfr : ∀ z, z ≠ 77 → w_18 z = w z := fun z hhfr0 => by rw [hu_17, va_up_ne _ _ hhfr0]
    exact x_wretV hx hb hr hlocks hw ⟨fun z hz => hfr z (by omega), RM.set77 hRM hfr hc_19⟩ dX5_deal_40
set_option maxHeartbeats 4000000 in
set_option maxRecDepth 100000 in
theorem m_spoilA (l : Launch) {D : va_G} {cI cJ cZ cD : ClassId} {ad : Nat → Nat} {w : Nat → va_E} {sz : Nat} (n t cl qu en kp : Nat) (dl ou cp ks pt : Nat → Nat) (co sh : Nat → Nat → Nat) (vs : Nat → Int64) (cd : Int32) (hok : OkS n t cl qu en kp dl ou cp ks pt co sh) (hRM : RM ad cJ cZ w cd n t cl qu en kp dl ou cp ks pt co sh vs) (x y z : Int32) (hbad : ¬ (isNd n x ∧ isNd n y ∧ isEx z))  : MW l yX5_spoil (.code yX5_spoil cX5_spoil 6 (some .int)) ({ frames := 1, cells := 0, slots := 0, locals := 35 }) [.ref (ad 77), .int x, .int y, .int z] D (tyL cI cJ cZ cD) ad 89 w sz (some (.int (nI 0))) (fun u => (∀ z, z < 77 ∨ 87 < z → u z = w z) ∧ RM ad cJ cZ u (nI 1) n t cl qu en kp dl ou cp ks pt co sh vs) := by
  refine MW.of (by decide) (Nat.le_of_ble_eq_true rfl) ?_
  intro p e s m below meth c ls hC hr hlocks hl hw
  obtain ⟨hx, hb, hml, hown, hts⟩ := id hC
  have hA : ∀ q, s.heap.size ≤ q → xA ad 89 s.heap.size q := fun q h => Or.inr h
  have hl : lv_has ls 6 [(0, .ref (ad 77)), (1, .int x), (2, .int y), (3, .int z)] := hl
  obtain ⟨⟨hs, hM⟩, ⟨dz, oz, hDz, hOz, hdo⟩, ⟨cf, mf, sf, hCf, hMf, hSf, hcs⟩, ⟨xf, hXf, hxx⟩, ⟨kyf, swf, hKy, hSw, hks⟩, ⟨vlf, hVl, hvl⟩, ⟨plf, hPl, hpl⟩⟩ := id hRM
  obtain ⟨⟨hn, ht, hcl, hqu, hen, hkp⟩, hle, ⟨hqb, hkb, hcb⟩, hvals, hclv, hptl, ⟨hz1, hz2, hz3⟩⟩ := id hok
  by_cases c1 : isNd n x
  · skip
    obtain ⟨i, hi1, hi2, rfl⟩ := isNd_of hn c1
    refine lv_aload_n hx hb dX5_spoil_0 rfl (lv_at hl 0 rfl) ?_
    refine lv_iload_n hx hb dX5_spoil_1 rfl (lv_at hl 1 rfl) ?_
    refine x_callW1 (As := [.int (nI i)]) (rest := []) hC vf_X5_84 hw hA (by decide) hM rfl rfl (k5_isNode l _ _ _ _ _ _ _ _ hn i hi1 hi2 hM) ⟨rfl, rfl, Nat.le_of_ble_eq_true rfl, Nat.le_of_ble_eq_true rfl⟩ hl.1 (Nat.le_of_ble_eq_true rfl) dX5_spoil_2 ⟨Nat.zero_le _, Nat.zero_le _⟩ rfl (fun w_1 H locs hu hw => ?_)
    rw [hu] at hw
    refine lv_if_eq (tgt := 27) hx hb dX5_spoil_5 (by decide) (fun q_2 => absurd q_2 (by decide)) (fun q_2 => ?_)
    by_cases c2 : isNd n y
    · skip
      obtain ⟨k, hk1, hk2, rfl⟩ := isNd_of hn c2
      refine lv_aload_n hx hb dX5_spoil_8 rfl (lv_at hl 0 rfl) ?_
      refine lv_iload_n hx hb dX5_spoil_9 rfl (lv_at hl 2 rfl) ?_
      refine x_callW1 (As := [.int (nI k)]) (rest := []) hC vf_X5_84 hw hA (by decide) hM rfl rfl (k5_isNode l _ _ _ _ _ _ _ _ hn k hk1 hk2 hM) ⟨rfl, rfl, Nat.le_of_ble_eq_true rfl, Nat.le_of_ble_eq_true rfl⟩ hl.1 (Nat.le_of_ble_eq_true rfl) dX5_spoil_10 ⟨Nat.zero_le _, Nat.zero_le _⟩ rfl (fun w_3 H locs hu hw => ?_)
      rw [hu] at hw
      refine lv_if_eq (tgt := 27) hx hb dX5_spoil_13 (by decide) (fun q_4 => absurd q_4 (by decide)) (fun q_4 => ?_)
      refine lv_iload_n hx hb dX5_spoil_16 rfl (lv_at hl 3 rfl) ?_
      refine x_callS (As := [.int z]) (rest := []) hC sf_X5_103 (k5_isExponentN l z (by by_cases h : z < 0; exact Or.inl h; exact Or.inr (Classical.byContradiction (fun q => hbad ⟨c1, c2, h, q⟩)))) ⟨rfl, rfl, Nat.le_of_ble_eq_true rfl, Nat.le_of_ble_eq_true rfl⟩ hl.1 (Nat.le_of_ble_eq_true rfl) dX5_spoil_17 ⟨Nat.zero_le _, Nat.zero_le _⟩ rfl ?_
      refine lv_if_eq (tgt := 27) hx hb dX5_spoil_20 (by decide) (fun q_5 => ?_) (fun q_5 => absurd (by decide) q_5)
      refine lv_iconst (v := nI 0) hx hb dX5_spoil_27 (by decide) ?_
      refine lv_istore (lv' := [(4, .int (nI 0)), (0, .ref (ad 77)), (1, .int (nI i)), (2, .int (nI k)), (3, .int z)]) hx hb dX5_spoil_28 hl (by decide) rfl (fun ls hl => ?_)
      refine lv_aload_n hx hb dX5_spoil_30 rfl (lv_at hl 1 rfl) ?_
      refine lv_iload hx hb dX5_spoil_31 (lv_at hl 0 rfl) ?_
      refine lv_if_ne (tgt := 40) hx hb dX5_spoil_33 (by decide) (fun q_6 => absurd (by decide) q_6) (fun q_6 => ?_)
      refine lv_iconst (v := nI 1) hx hb dX5_spoil_36 (by decide) ?_
      refine lv_goto (tgt := 61) hx hb dX5_spoil_37 (by decide) ?_
      refine x_callW1 (As := [.int (nI 1)]) (rest := []) hC vf_X5_64 hw hA (by decide) hM rfl rfl (k5_refuses1 l _ _ _ _ _ _ _ _ hM) ⟨rfl, rfl, Nat.le_of_ble_eq_true rfl, Nat.le_of_ble_eq_true rfl⟩ hl.1 (Nat.le_of_ble_eq_true rfl) dX5_spoil_61 ⟨Nat.zero_le _, Nat.zero_le _⟩ rfl (fun w_8 H locs hu_7 hw => ?_)
      have hc_9 : w_8 77 = .inr (4, [.int (nI 1), .int (nI n), .int (nI t), .int (nI cl), .ref (ad 78), .ref (ad 79), .ref (ad 80), .ref (ad 81), .ref (ad 82), .ref (ad 83), .int (nI qu), .ref (ad 84), .ref (ad 85), .ref (ad 86), .int (nI en), .int (nI kp), .ref (ad 87), .long hs]) := by rw [hu_7]; exact va_up_self _ _ _
      have hc_10 : w_8 78 = .inl (cZ, 17, .inl dz) := by rw [hu_7, va_up_ne _ _ (by decide)]; exact hDz
      have hc_11 : w_8 79 = .inl (cZ, 17, .inl oz) := by rw [hu_7, va_up_ne _ _ (by decide)]; exact hOz
      have hc_12 : w_8 80 = .inl (cJ, 289, .inr (.inl cf)) := by rw [hu_7, va_up_ne _ _ (by decide)]; exact hCf
      have hc_13 : w_8 81 = .inl (cJ, 289, .inr (.inl mf)) := by rw [hu_7, va_up_ne _ _ (by decide)]; exact hMf
      have hc_14 : w_8 82 = .inl (cJ, 289, .inr (.inl sf)) := by rw [hu_7, va_up_ne _ _ (by decide)]; exact hSf
      have hc_15 : w_8 83 = .inl (cZ, 289, .inl xf) := by rw [hu_7, va_up_ne _ _ (by decide)]; exact hXf
      have hc_16 : w_8 84 = .inl (cJ, 17, .inr (.inl kyf)) := by rw [hu_7, va_up_ne _ _ (by decide)]; exact hKy
      have hc_17 : w_8 85 = .inl (cJ, 17, .inr (.inl swf)) := by rw [hu_7, va_up_ne _ _ (by decide)]; exact hSw
      have hc_18 : w_8 86 = .inl (cJ, 301, .inr (.inl vlf)) := by rw [hu_7, va_up_ne _ _ (by decide)]; exact hVl
      have hc_19 : w_8 87 = .inl (cJ, 17, .inr (.inl plf)) := by rw [hu_7, va_up_ne _ _ (by decide)]; exact hPl
      refine lv_if_eq (tgt := 69) hx hb dX5_spoil_64 (by decide) (fun q_20 => absurd q_20 (by decide)) (fun q_20 => ?_)
      refine lv_iconst (v := nI 0) hx hb dX5_spoil_67 (by decide) ?_
      have hfr : ∀ z, z ≠ 77 → w_8 z = w z := fun z hhfr0 => by rw [hu_7, va_up_ne _ _ hhfr0]
      exact x_wretI hx hb hr hlocks hw ⟨fun z hz => hfr z (by omega), RM.set77 hRM hfr hc_9⟩ dX5_spoil_68
    · skip
      refine lv_aload_n hx hb dX5_spoil_8 rfl (lv_at hl 0 rfl) ?_
      refine lv_iload_n hx hb dX5_spoil_9 rfl (lv_at hl 2 rfl) ?_
      refine x_callW1 (As := [.int y]) (rest := []) hC vf_X5_84 hw hA (by decide) hM rfl rfl (k5_isNodeN l _ _ _ _ _ _ _ _ y c2 hM) ⟨rfl, rfl, Nat.le_of_ble_eq_true rfl, Nat.le_of_ble_eq_true rfl⟩ hl.1 (Nat.le_of_ble_eq_true rfl) dX5_spoil_10 ⟨Nat.zero_le _, Nat.zero_le _⟩ rfl (fun w_21 H locs hu hw => ?_)
      rw [hu] at hw
      refine lv_if_eq (tgt := 27) hx hb dX5_spoil_13 (by decide) (fun q_22 => ?_) (fun q_22 => absurd (by decide) q_22)
      refine lv_iconst (v := nI 0) hx hb dX5_spoil_27 (by decide) ?_
      refine lv_istore (lv' := [(4, .int (nI 0)), (0, .ref (ad 77)), (1, .int (nI i)), (2, .int y), (3, .int z)]) hx hb dX5_spoil_28 hl (by decide) rfl (fun ls hl => ?_)
      refine lv_aload_n hx hb dX5_spoil_30 rfl (lv_at hl 1 rfl) ?_
      refine lv_iload hx hb dX5_spoil_31 (lv_at hl 0 rfl) ?_
      refine lv_if_ne (tgt := 40) hx hb dX5_spoil_33 (by decide) (fun q_23 => absurd (by decide) q_23) (fun q_23 => ?_)
      refine lv_iconst (v := nI 1) hx hb dX5_spoil_36 (by decide) ?_
      refine lv_goto (tgt := 61) hx hb dX5_spoil_37 (by decide) ?_
      refine x_callW1 (As := [.int (nI 1)]) (rest := []) hC vf_X5_64 hw hA (by decide) hM rfl rfl (k5_refuses1 l _ _ _ _ _ _ _ _ hM) ⟨rfl, rfl, Nat.le_of_ble_eq_true rfl, Nat.le_of_ble_eq_true rfl⟩ hl.1 (Nat.le_of_ble_eq_true rfl) dX5_spoil_61 ⟨Nat.zero_le _, Nat.zero_le _⟩ rfl (fun w_25 H locs hu_24 hw => ?_)
      have hc_26 : w_25 77 = .inr (4, [.int (nI 1), .int (nI n), .int (nI t), .int (nI cl), .ref (ad 78), .ref (ad 79), .ref (ad 80), .ref (ad 81), .ref (ad 82), .ref (ad 83), .int (nI qu), .ref (ad 84), .ref (ad 85), .ref (ad 86), .int (nI en), .int (nI kp), .ref (ad 87), .long hs]) := by rw [hu_24]; exact va_up_self _ _ _
      have hc_27 : w_25 78 = .inl (cZ, 17, .inl dz) := by rw [hu_24, va_up_ne _ _ (by decide)]; exact hDz
      have hc_28 : w_25 79 = .inl (cZ, 17, .inl oz) := by rw [hu_24, va_up_ne _ _ (by decide)]; exact hOz
      have hc_29 : w_25 80 = .inl (cJ, 289, .inr (.inl cf)) := by rw [hu_24, va_up_ne _ _ (by decide)]; exact hCf
      have hc_30 : w_25 81 = .inl (cJ, 289, .inr (.inl mf)) := by rw [hu_24, va_up_ne _ _ (by decide)]; exact hMf
      have hc_31 : w_25 82 = .inl (cJ, 289, .inr (.inl sf)) := by rw [hu_24, va_up_ne _ _ (by decide)]; exact hSf
      have hc_32 : w_25 83 = .inl (cZ, 289, .inl xf) := by rw [hu_24, va_up_ne _ _ (by decide)]; exact hXf
      have hc_33 : w_25 84 = .inl (cJ, 17, .inr (.inl kyf)) := by rw [hu_24, va_up_ne _ _ (by decide)]; exact hKy
      have hc_34 : w_25 85 = .inl (cJ, 17, .inr (.inl swf)) := by rw [hu_24, va_up_ne _ _ (by decide)]; exact hSw
      have hc_35 : w_25 86 = .inl (cJ, 301, .inr (.inl vlf)) := by rw [hu_24, va_up_ne _ _ (by decide)]; exact hVl
      have hc_36 : w_25 87 = .inl (cJ, 17, .inr (.inl plf)) := by rw [hu_24, va_up_ne _ _ (by decide)]; exact hPl
      refine lv_if_eq (tgt := 69) hx hb dX5_spoil_64 (by decide) (fun q_37 => absurd q_37 (by decide)) (fun q_37 => ?_)
      refine lv_iconst (v := nI 0) hx hb dX5_spoil_67 (by decide) ?_
      have hfr : ∀ z, z ≠ 77 → w_25 z = w z := fun z hhfr0 => by rw [hu_24, va_up_ne _ _ hhfr0]
      exact x_wretI hx hb hr hlocks hw ⟨fun z hz => hfr z (by omega), RM.set77 hRM hfr hc_26⟩ dX5_spoil_68
  · skip
    refine lv_aload_n hx hb dX5_spoil_0 rfl (lv_at hl 0 rfl) ?_
    refine lv_iload_n hx hb dX5_spoil_1 rfl (lv_at hl 1 rfl) ?_
    refine x_callW1 (As := [.int x]) (rest := []) hC vf_X5_84 hw hA (by decide) hM rfl rfl (k5_isNodeN l _ _ _ _ _ _ _ _ x c1 hM) ⟨rfl, rfl, Nat.le_of_ble_eq_true rfl, Nat.le_of_ble_eq_true rfl⟩ hl.1 (Nat.le_of_ble_eq_true rfl) dX5_spoil_2 ⟨Nat.zero_le _, Nat.zero_le _⟩ rfl (fun w_38 H locs hu hw => ?_)
    rw [hu] at hw
    refine lv_if_eq (tgt := 27) hx hb dX5_spoil_5 (by decide) (fun q_39 => ?_) (fun q_39 => absurd (by decide) q_39)
    refine lv_iconst (v := nI 0) hx hb dX5_spoil_27 (by decide) ?_
    refine lv_istore (lv' := [(4, .int (nI 0)), (0, .ref (ad 77)), (1, .int x), (2, .int y), (3, .int z)]) hx hb dX5_spoil_28 hl (by decide) rfl (fun ls hl => ?_)
    refine lv_aload_n hx hb dX5_spoil_30 rfl (lv_at hl 1 rfl) ?_
    refine lv_iload hx hb dX5_spoil_31 (lv_at hl 0 rfl) ?_
    refine lv_if_ne (tgt := 40) hx hb dX5_spoil_33 (by decide) (fun q_40 => absurd (by decide) q_40) (fun q_40 => ?_)
    refine lv_iconst (v := nI 1) hx hb dX5_spoil_36 (by decide) ?_
    refine lv_goto (tgt := 61) hx hb dX5_spoil_37 (by decide) ?_
    refine x_callW1 (As := [.int (nI 1)]) (rest := []) hC vf_X5_64 hw hA (by decide) hM rfl rfl (k5_refuses1 l _ _ _ _ _ _ _ _ hM) ⟨rfl, rfl, Nat.le_of_ble_eq_true rfl, Nat.le_of_ble_eq_true rfl⟩ hl.1 (Nat.le_of_ble_eq_true rfl) dX5_spoil_61 ⟨Nat.zero_le _, Nat.zero_le _⟩ rfl (fun w_42 H locs hu_41 hw => ?_)
    have hc_43 : w_42 77 = .inr (4, [.int (nI 1), .int (nI n), .int (nI t), .int (nI cl), .ref (ad 78), .ref (ad 79), .ref (ad 80), .ref (ad 81), .ref (ad 82), .ref (ad 83), .int (nI qu), .ref (ad 84), .ref (ad 85), .ref (ad 86), .int (nI en), .int (nI kp), .ref (ad 87), .long hs]) := by rw [hu_41]; exact va_up_self _ _ _
    have hc_44 : w_42 78 = .inl (cZ, 17, .inl dz) := by rw [hu_41, va_up_ne _ _ (by decide)]; exact hDz
    have hc_45 : w_42 79 = .inl (cZ, 17, .inl oz) := by rw [hu_41, va_up_ne _ _ (by decide)]; exact hOz
    have hc_46 : w_42 80 = .inl (cJ, 289, .inr (.inl cf)) := by rw [hu_41, va_up_ne _ _ (by decide)]; exact hCf
    have hc_47 : w_42 81 = .inl (cJ, 289, .inr (.inl mf)) := by rw [hu_41, va_up_ne _ _ (by decide)]; exact hMf
    have hc_48 : w_42 82 = .inl (cJ, 289, .inr (.inl sf)) := by rw [hu_41, va_up_ne _ _ (by decide)]; exact hSf
    have hc_49 : w_42 83 = .inl (cZ, 289, .inl xf) := by rw [hu_41, va_up_ne _ _ (by decide)]; exact hXf
    have hc_50 : w_42 84 = .inl (cJ, 17, .inr (.inl kyf)) := by rw [hu_41, va_up_ne _ _ (by decide)]; exact hKy
    have hc_51 : w_42 85 = .inl (cJ, 17, .inr (.inl swf)) := by rw [hu_41, va_up_ne _ _ (by decide)]; exact hSw
    have hc_52 : w_42 86 = .inl (cJ, 301, .inr (.inl vlf)) := by rw [hu_41, va_up_ne _ _ (by decide)]; exact hVl
    have hc_53 : w_42 87 = .inl (cJ, 17, .inr (.inl plf)) := by rw [hu_41, va_up_ne _ _ (by decide)]; exact hPl
    refine lv_if_eq (tgt := 69) hx hb dX5_spoil_64 (by decide) (fun q_54 => absurd q_54 (by decide)) (fun q_54 => ?_)
    refine lv_iconst (v := nI 0) hx hb dX5_spoil_67 (by decide) ?_
    have hfr : ∀ z, z ≠ 77 → w_42 z = w z := fun z hhfr0 => by rw [hu_41, va_up_ne _ _ hhfr0]
    exact x_wretI hx hb hr hlocks hw ⟨fun z hz => hfr z (by omega), RM.set77 hRM hfr hc_43⟩ dX5_spoil_68
set_option maxHeartbeats 4000000 in
set_option maxRecDepth 100000 in
theorem m_spoil (l : Launch) {D : va_G} {cI cJ cZ cD : ClassId} {ad : Nat → Nat} {w : Nat → va_E} {sz : Nat} (n t cl qu en kp : Nat) (dl ou cp ks pt : Nat → Nat) (co sh : Nat → Nat → Nat) (vs : Nat → Int64) (cd : Int32) (hok : OkS n t cl qu en kp dl ou cp ks pt co sh) (hRM : RM ad cJ cZ w cd n t cl qu en kp dl ou cp ks pt co sh vs) (i k : Nat) (hi1 : 1 ≤ i) (hi2 : i ≤ n) (hk1 : 1 ≤ k) (hk2 : k ≤ n) (x : Nat) (hx0 : x < 1073741789) (hdl : dl i = 1) (hcl0 : cl = 0)  : MW l yX5_spoil (.code yX5_spoil cX5_spoil 6 (some .int)) ({ frames := 1, cells := 0, slots := 0, locals := 35 }) [.ref (ad 77), .int (nI i), .int (nI k), .int (nI x)] D (tyL cI cJ cZ cD) ad 89 w sz (some (.int (nI (sh i k)))) (fun u => (∀ z, z < 77 ∨ 87 < z → u z = w z) ∧ RM ad cJ cZ u (nI 0) n t 0 qu en kp dl ou cp ks pt co (va_up sh i (va_up (sh i) k ((sh i k + x) % 1073741789))) vs) := by
  refine MW.of (by decide) (Nat.le_of_ble_eq_true rfl) ?_
  intro p e s m below meth c ls hC hr hlocks hl hw
  obtain ⟨hx, hb, hml, hown, hts⟩ := id hC
  have hA : ∀ q, s.heap.size ≤ q → xA ad 89 s.heap.size q := fun q h => Or.inr h
  have hl : lv_has ls 6 [(0, .ref (ad 77)), (1, .int (nI i)), (2, .int (nI k)), (3, .int (nI x))] := hl
  obtain ⟨⟨hs, hM⟩, ⟨dz, oz, hDz, hOz, hdo⟩, ⟨cf, mf, sf, hCf, hMf, hSf, hcs⟩, ⟨xf, hXf, hxx⟩, ⟨kyf, swf, hKy, hSw, hks⟩, ⟨vlf, hVl, hvl⟩, ⟨plf, hPl, hpl⟩⟩ := id hRM
  obtain ⟨⟨hn, ht, hcl, hqu, hen, hkp⟩, hle, ⟨hqb, hkb, hcb⟩, hvals, hclv, hptl, ⟨hz1, hz2, hz3⟩⟩ := id hok
  subst hcl0
  refine lv_aload_n hx hb dX5_spoil_0 rfl (lv_at hl 0 rfl) ?_
  refine lv_iload_n hx hb dX5_spoil_1 rfl (lv_at hl 1 rfl) ?_
  refine x_callW1 (As := [.int (nI i)]) (rest := []) hC vf_X5_84 hw hA (by decide) hM rfl rfl (k5_isNode l _ _ _ _ _ _ _ _ hn i hi1 hi2 hM) ⟨rfl, rfl, Nat.le_of_ble_eq_true rfl, Nat.le_of_ble_eq_true rfl⟩ hl.1 (Nat.le_of_ble_eq_true rfl) dX5_spoil_2 ⟨Nat.zero_le _, Nat.zero_le _⟩ rfl (fun w_1 H locs hu hw => ?_)
  rw [hu] at hw
  refine lv_if_eq (tgt := 27) hx hb dX5_spoil_5 (by decide) (fun q_2 => absurd q_2 (by decide)) (fun q_2 => ?_)
  refine lv_aload_n hx hb dX5_spoil_8 rfl (lv_at hl 0 rfl) ?_
  refine lv_iload_n hx hb dX5_spoil_9 rfl (lv_at hl 2 rfl) ?_
  refine x_callW1 (As := [.int (nI k)]) (rest := []) hC vf_X5_84 hw hA (by decide) hM rfl rfl (k5_isNode l _ _ _ _ _ _ _ _ hn k hk1 hk2 hM) ⟨rfl, rfl, Nat.le_of_ble_eq_true rfl, Nat.le_of_ble_eq_true rfl⟩ hl.1 (Nat.le_of_ble_eq_true rfl) dX5_spoil_10 ⟨Nat.zero_le _, Nat.zero_le _⟩ rfl (fun w_3 H locs hu hw => ?_)
  rw [hu] at hw
  refine lv_if_eq (tgt := 27) hx hb dX5_spoil_13 (by decide) (fun q_4 => absurd q_4 (by decide)) (fun q_4 => ?_)
  refine lv_iload_n hx hb dX5_spoil_16 rfl (lv_at hl 3 rfl) ?_
  refine x_callS (As := [.int (nI x)]) (rest := []) hC sf_X5_103 (k5_isExponent l x hx0) ⟨rfl, rfl, Nat.le_of_ble_eq_true rfl, Nat.le_of_ble_eq_true rfl⟩ hl.1 (Nat.le_of_ble_eq_true rfl) dX5_spoil_17 ⟨Nat.zero_le _, Nat.zero_le _⟩ rfl ?_
  refine lv_if_eq (tgt := 27) hx hb dX5_spoil_20 (by decide) (fun q_5 => absurd q_5 (by decide)) (fun q_5 => ?_)
  refine lv_iconst (v := nI 1) hx hb dX5_spoil_23 (by decide) ?_
  refine lv_goto (tgt := 28) hx hb dX5_spoil_24 (by decide) ?_
  refine lv_istore (lv' := [(4, .int (nI 1)), (0, .ref (ad 77)), (1, .int (nI i)), (2, .int (nI k)), (3, .int (nI x))]) hx hb dX5_spoil_28 hl (by decide) rfl (fun ls hl => ?_)
  refine lv_aload_n hx hb dX5_spoil_30 rfl (lv_at hl 1 rfl) ?_
  refine lv_iload hx hb dX5_spoil_31 (lv_at hl 0 rfl) ?_
  refine lv_if_ne (tgt := 40) hx hb dX5_spoil_33 (by decide) (fun q_6 => ?_) (fun q_6 => absurd q_6 (by decide))
  refine lv_aload_n hx hb dX5_spoil_40 rfl (lv_at hl 1 rfl) ?_
  refine gf_X5_7 hx hb hts hown hw (by decide) hM rfl dX5_spoil_41 ?_
  refine lv_iload_n hx hb dX5_spoil_44 rfl (lv_at hl 2 rfl) ?_
  refine x_zald hx hb hw (by decide) 2 hDz rfl (j := i) (by omega) (by decide) (by rw [(hdo i (by omega)).1, hdl]) dX5_spoil_45 ?_
  refine lv_if_eq (tgt := 56) hx hb dX5_spoil_46 (by decide) (fun q_7 => absurd q_7 (by decide)) (fun q_7 => ?_)
  refine lv_aload_n hx hb dX5_spoil_49 rfl (lv_at hl 1 rfl) ?_
  refine gf_X5_71 hx hb hts hown hw (by decide) hM rfl dX5_spoil_50 ?_
  refine lv_if_eq (tgt := 60) hx hb dX5_spoil_53 (by decide) (fun q_8 => ?_) (fun q_8 => absurd (by decide) q_8)
  refine lv_iconst (v := nI 0) hx hb dX5_spoil_60 (by decide) ?_
  refine x_callW1 (As := [.int (nI 0)]) (rest := []) hC vf_X5_64 hw hA (by decide) hM rfl rfl (k5_refuses0 l _ _ _ _ _ _ _ _ hM) ⟨rfl, rfl, Nat.le_of_ble_eq_true rfl, Nat.le_of_ble_eq_true rfl⟩ hl.1 (Nat.le_of_ble_eq_true rfl) dX5_spoil_61 ⟨Nat.zero_le _, Nat.zero_le _⟩ rfl (fun w_10 H locs hu_9 hw => ?_)
  have hc_11 : w_10 77 = .inr (4, [.int (nI 0), .int (nI n), .int (nI t), .int (nI 0), .ref (ad 78), .ref (ad 79), .ref (ad 80), .ref (ad 81), .ref (ad 82), .ref (ad 83), .int (nI qu), .ref (ad 84), .ref (ad 85), .ref (ad 86), .int (nI en), .int (nI kp), .ref (ad 87), .long hs]) := by rw [hu_9]; exact va_up_self _ _ _
  have hc_12 : w_10 78 = .inl (cZ, 17, .inl dz) := by rw [hu_9, va_up_ne _ _ (by decide)]; exact hDz
  have hc_13 : w_10 79 = .inl (cZ, 17, .inl oz) := by rw [hu_9, va_up_ne _ _ (by decide)]; exact hOz
  have hc_14 : w_10 80 = .inl (cJ, 289, .inr (.inl cf)) := by rw [hu_9, va_up_ne _ _ (by decide)]; exact hCf
  have hc_15 : w_10 81 = .inl (cJ, 289, .inr (.inl mf)) := by rw [hu_9, va_up_ne _ _ (by decide)]; exact hMf
  have hc_16 : w_10 82 = .inl (cJ, 289, .inr (.inl sf)) := by rw [hu_9, va_up_ne _ _ (by decide)]; exact hSf
  have hc_17 : w_10 83 = .inl (cZ, 289, .inl xf) := by rw [hu_9, va_up_ne _ _ (by decide)]; exact hXf
  have hc_18 : w_10 84 = .inl (cJ, 17, .inr (.inl kyf)) := by rw [hu_9, va_up_ne _ _ (by decide)]; exact hKy
  have hc_19 : w_10 85 = .inl (cJ, 17, .inr (.inl swf)) := by rw [hu_9, va_up_ne _ _ (by decide)]; exact hSw
  have hc_20 : w_10 86 = .inl (cJ, 301, .inr (.inl vlf)) := by rw [hu_9, va_up_ne _ _ (by decide)]; exact hVl
  have hc_21 : w_10 87 = .inl (cJ, 17, .inr (.inl plf)) := by rw [hu_9, va_up_ne _ _ (by decide)]; exact hPl
  refine lv_if_eq (tgt := 69) hx hb dX5_spoil_64 (by decide) (fun q_22 => ?_) (fun q_22 => absurd (by decide) q_22)
  obtain ⟨e1, e2⟩ := hcs i hi1 hi2 hdl
  have hshl := (hvals i hi1 hi2 hdl).2 k hk1 hk2
  refine lv_aload_n hx hb dX5_spoil_69 rfl (lv_at hl 1 rfl) ?_
  refine gf_X5_23 hx hb hts hown hw (by decide) hc_11 rfl dX5_spoil_70 ?_
  refine lv_bipush (v := nI 17) hx hb dX5_spoil_73 (by decide) ?_
  refine lv_iload_n hx hb dX5_spoil_75 rfl (lv_at hl 2 rfl) ?_
  refine t_imul hx hb dX5_spoil_76 (v := nI (17 * i)) (pk_mul _ _) ?_
  refine lv_iload_n hx hb dX5_spoil_77 rfl (lv_at hl 3 rfl) ?_
  refine t_iadd hx hb dX5_spoil_78 (v := nI (17 * i + k)) (nI_add _ _) ?_
  refine x_lald hx hb hw (by decide) 1 hc_16 rfl (j := 17 * i + k) (by omega) (by decide) (e2 k hk1 hk2) dX5_spoil_79 ?_
  refine lv_l2i hx hb dX5_spoil_80 (lN_i _) ?_
  refine lv_istore (lv' := [(5, .int (nI (sh i k))), (4, .int (nI 1)), (0, .ref (ad 77)), (1, .int (nI i)), (2, .int (nI k)), (3, .int (nI x))]) hx hb dX5_spoil_81 hl (by decide) rfl (fun ls hl => ?_)
  refine lv_aload_n hx hb dX5_spoil_83 rfl (lv_at hl 2 rfl) ?_
  refine gf_X5_23 hx hb hts hown hw (by decide) hc_11 rfl dX5_spoil_84 ?_
  refine lv_bipush (v := nI 17) hx hb dX5_spoil_87 (by decide) ?_
  refine lv_iload_n hx hb dX5_spoil_89 rfl (lv_at hl 3 rfl) ?_
  refine t_imul hx hb dX5_spoil_90 (v := nI (17 * i)) (pk_mul _ _) ?_
  refine lv_iload_n hx hb dX5_spoil_91 rfl (lv_at hl 4 rfl) ?_
  refine t_iadd hx hb dX5_spoil_92 (v := nI (17 * i + k)) (nI_add _ _) ?_
  refine lv_iload hx hb dX5_spoil_93 (lv_at hl 0 rfl) ?_
  refine lv_i2l hx hb dX5_spoil_95 (nI_l (by omega)) ?_
  refine lv_iload_n hx hb dX5_spoil_96 rfl (lv_at hl 5 rfl) ?_
  refine lv_i2l hx hb dX5_spoil_97 (nI_l (by omega)) ?_
  refine t_ladd hx hb dX5_spoil_98 (v := lN (sh i k + x)) (lN_add _ _) ?_
  refine lv_ldc2 hx hb hown (hts _ ct_X5_62) dX5_spoil_99 ?_
  refine lv_lrem hx hb dX5_spoil_102 (by decide) ?_
  rw [pk_lRem (by omega) (by decide) (by decide)]
  refine x_last hx hb hw (by decide) 1 hc_16 rfl (j := 17 * i + k) (by omega) (by decide) dX5_spoil_103 (fun w_23 H locs ew_24 hw => ?_)
  have hc_25 : w_23 77 = .inr (4, [.int (nI 0), .int (nI n), .int (nI t), .int (nI 0), .ref (ad 78), .ref (ad 79), .ref (ad 80), .ref (ad 81), .ref (ad 82), .ref (ad 83), .int (nI qu), .ref (ad 84), .ref (ad 85), .ref (ad 86), .int (nI en), .int (nI kp), .ref (ad 87), .long hs]) := by rw [ew_24]; exact (va_up_ne _ _ (by omega)).trans hc_11
  have hc_26 : w_23 78 = .inl (cZ, 17, .inl dz) := by rw [ew_24]; exact (va_up_ne _ _ (by omega)).trans hc_12
  have hc_27 : w_23 79 = .inl (cZ, 17, .inl oz) := by rw [ew_24]; exact (va_up_ne _ _ (by omega)).trans hc_13
  have hc_28 : w_23 80 = .inl (cJ, 289, .inr (.inl cf)) := by rw [ew_24]; exact (va_up_ne _ _ (by omega)).trans hc_14
  have hc_29 : w_23 81 = .inl (cJ, 289, .inr (.inl mf)) := by rw [ew_24]; exact (va_up_ne _ _ (by omega)).trans hc_15
  have hc_30 : w_23 82 = .inl (cJ, 289, .inr (.inl (vp_updL sf (17 * i + k) (lN ((sh i k + x) % 1073741789))))) := by rw [ew_24]; exact va_up_self _ _ _
  have hc_31 : w_23 83 = .inl (cZ, 289, .inl xf) := by rw [ew_24]; exact (va_up_ne _ _ (by omega)).trans hc_17
  have hc_32 : w_23 84 = .inl (cJ, 17, .inr (.inl kyf)) := by rw [ew_24]; exact (va_up_ne _ _ (by omega)).trans hc_18
  have hc_33 : w_23 85 = .inl (cJ, 17, .inr (.inl swf)) := by rw [ew_24]; exact (va_up_ne _ _ (by omega)).trans hc_19
  have hc_34 : w_23 86 = .inl (cJ, 301, .inr (.inl vlf)) := by rw [ew_24]; exact (va_up_ne _ _ (by omega)).trans hc_20
  have hc_35 : w_23 87 = .inl (cJ, 17, .inr (.inl plf)) := by rw [ew_24]; exact (va_up_ne _ _ (by omega)).trans hc_21
  refine lv_iload hx hb dX5_spoil_104 (lv_at hl 0 rfl) ?_
  have hfr : ∀ z, z ≠ 77 → z ≠ 82 → w_23 z = w z := fun z hhfr0 hhfr1 => by rw [ew_24, va_up_ne _ _ hhfr1, hu_9, va_up_ne _ _ hhfr0]
  refine x_wretI hx hb hr hlocks hw ⟨fun z hz => hfr z (by omega) (by omega), ⟨_, hc_25⟩, RMd.of ⟨dz, oz, hDz, hOz, hdo⟩ (hfr 78 (by decide) (by decide)) (hfr 79 (by decide) (by decide)), ⟨cf, mf, _, hc_28, hc_29, hc_30, fun i9 h1 h2 h3 => ?_⟩, RMx.of ⟨xf, hXf, hxx⟩ (hfr 83 (by decide) (by decide)), RMk.of ⟨kyf, swf, hKy, hSw, hks⟩ (hfr 84 (by decide) (by decide)) (hfr 85 (by decide) (by decide)), RMv.of ⟨vlf, hVl, hvl⟩ (hfr 86 (by decide) (by decide)), RMp.of ⟨plf, hPl, hpl⟩ (hfr 87 (by decide) (by decide))⟩ dX5_spoil_106
  obtain ⟨f1, f2⟩ := hcs i9 h1 h2 h3
  refine ⟨f1, fun k9 h4 h5 => ?_⟩
  by_cases hii : i9 = i
  · subst hii; rw [va_up_self]
    by_cases hkk : k9 = k
    · subst hkk; rw [uL_s, va_up_self]
    · rw [uL_n _ _ (by omega), va_up_ne _ _ hkk]; exact f2 k9 h4 h5
  · rw [uL_n _ _ (by omega), va_up_ne _ _ hii]; exact f2 k9 h4 h5
set_option maxHeartbeats 4000000 in
set_option maxRecDepth 100000 in
theorem m_spoilS (l : Launch) {D : va_G} {cI cJ cZ cD : ClassId} {ad : Nat → Nat} {w : Nat → va_E} {sz : Nat} (n t cl qu en kp : Nat) (dl ou cp ks pt : Nat → Nat) (co sh : Nat → Nat → Nat) (vs : Nat → Int64) (cd : Int32) (hok : OkS n t cl qu en kp dl ou cp ks pt co sh) (hRM : RM ad cJ cZ w cd n t cl qu en kp dl ou cp ks pt co sh vs) (i k : Nat) (hi1 : 1 ≤ i) (hi2 : i ≤ n) (hk1 : 1 ≤ k) (hk2 : k ≤ n) (x : Nat) (hx0 : x < 1073741789) (hbad : dl i = 0 ∨ cl = 1)  : MW l yX5_spoil (.code yX5_spoil cX5_spoil 6 (some .int)) ({ frames := 1, cells := 0, slots := 0, locals := 35 }) [.ref (ad 77), .int (nI i), .int (nI k), .int (nI x)] D (tyL cI cJ cZ cD) ad 89 w sz (some (.int (nI 0))) (fun u => (∀ z, z < 77 ∨ 87 < z → u z = w z) ∧ RM ad cJ cZ u (nI 2) n t cl qu en kp dl ou cp ks pt co sh vs) := by
  refine MW.of (by decide) (Nat.le_of_ble_eq_true rfl) ?_
  intro p e s m below meth c ls hC hr hlocks hl hw
  obtain ⟨hx, hb, hml, hown, hts⟩ := id hC
  have hA : ∀ q, s.heap.size ≤ q → xA ad 89 s.heap.size q := fun q h => Or.inr h
  have hl : lv_has ls 6 [(0, .ref (ad 77)), (1, .int (nI i)), (2, .int (nI k)), (3, .int (nI x))] := hl
  obtain ⟨⟨hs, hM⟩, ⟨dz, oz, hDz, hOz, hdo⟩, ⟨cf, mf, sf, hCf, hMf, hSf, hcs⟩, ⟨xf, hXf, hxx⟩, ⟨kyf, swf, hKy, hSw, hks⟩, ⟨vlf, hVl, hvl⟩, ⟨plf, hPl, hpl⟩⟩ := id hRM
  obtain ⟨⟨hn, ht, hcl, hqu, hen, hkp⟩, hle, ⟨hqb, hkb, hcb⟩, hvals, hclv, hptl, ⟨hz1, hz2, hz3⟩⟩ := id hok
  refine lv_aload_n hx hb dX5_spoil_0 rfl (lv_at hl 0 rfl) ?_
  refine lv_iload_n hx hb dX5_spoil_1 rfl (lv_at hl 1 rfl) ?_
  refine x_callW1 (As := [.int (nI i)]) (rest := []) hC vf_X5_84 hw hA (by decide) hM rfl rfl (k5_isNode l _ _ _ _ _ _ _ _ hn i hi1 hi2 hM) ⟨rfl, rfl, Nat.le_of_ble_eq_true rfl, Nat.le_of_ble_eq_true rfl⟩ hl.1 (Nat.le_of_ble_eq_true rfl) dX5_spoil_2 ⟨Nat.zero_le _, Nat.zero_le _⟩ rfl (fun w_1 H locs hu hw => ?_)
  rw [hu] at hw
  refine lv_if_eq (tgt := 27) hx hb dX5_spoil_5 (by decide) (fun q_2 => absurd q_2 (by decide)) (fun q_2 => ?_)
  refine lv_aload_n hx hb dX5_spoil_8 rfl (lv_at hl 0 rfl) ?_
  refine lv_iload_n hx hb dX5_spoil_9 rfl (lv_at hl 2 rfl) ?_
  refine x_callW1 (As := [.int (nI k)]) (rest := []) hC vf_X5_84 hw hA (by decide) hM rfl rfl (k5_isNode l _ _ _ _ _ _ _ _ hn k hk1 hk2 hM) ⟨rfl, rfl, Nat.le_of_ble_eq_true rfl, Nat.le_of_ble_eq_true rfl⟩ hl.1 (Nat.le_of_ble_eq_true rfl) dX5_spoil_10 ⟨Nat.zero_le _, Nat.zero_le _⟩ rfl (fun w_3 H locs hu hw => ?_)
  rw [hu] at hw
  refine lv_if_eq (tgt := 27) hx hb dX5_spoil_13 (by decide) (fun q_4 => absurd q_4 (by decide)) (fun q_4 => ?_)
  refine lv_iload_n hx hb dX5_spoil_16 rfl (lv_at hl 3 rfl) ?_
  refine x_callS (As := [.int (nI x)]) (rest := []) hC sf_X5_103 (k5_isExponent l x hx0) ⟨rfl, rfl, Nat.le_of_ble_eq_true rfl, Nat.le_of_ble_eq_true rfl⟩ hl.1 (Nat.le_of_ble_eq_true rfl) dX5_spoil_17 ⟨Nat.zero_le _, Nat.zero_le _⟩ rfl ?_
  refine lv_if_eq (tgt := 27) hx hb dX5_spoil_20 (by decide) (fun q_5 => absurd q_5 (by decide)) (fun q_5 => ?_)
  refine lv_iconst (v := nI 1) hx hb dX5_spoil_23 (by decide) ?_
  refine lv_goto (tgt := 28) hx hb dX5_spoil_24 (by decide) ?_
  refine lv_istore (lv' := [(4, .int (nI 1)), (0, .ref (ad 77)), (1, .int (nI i)), (2, .int (nI k)), (3, .int (nI x))]) hx hb dX5_spoil_28 hl (by decide) rfl (fun ls hl => ?_)
  refine lv_aload_n hx hb dX5_spoil_30 rfl (lv_at hl 1 rfl) ?_
  refine lv_iload hx hb dX5_spoil_31 (lv_at hl 0 rfl) ?_
  refine lv_if_ne (tgt := 40) hx hb dX5_spoil_33 (by decide) (fun q_6 => ?_) (fun q_6 => absurd q_6 (by decide))
  obtain ⟨g1, g2, g3⟩ := hle i
  refine lv_aload_n hx hb dX5_spoil_40 rfl (lv_at hl 1 rfl) ?_
  refine gf_X5_7 hx hb hts hown hw (by decide) hM rfl dX5_spoil_41 ?_
  refine lv_iload_n hx hb dX5_spoil_44 rfl (lv_at hl 2 rfl) ?_
  refine x_zald hx hb hw (by decide) 2 hDz rfl (j := i) (by omega) (by decide) (hdo i (by omega)).1 dX5_spoil_45 ?_
  refine lv_if_eq (tgt := 56) hx hb dX5_spoil_46 (by decide) (fun q1 => ?_) (fun q1 => ?_)
  · rw [nI_z (by omega)] at q1
    refine lv_iconst (v := nI 2) hx hb dX5_spoil_56 (by decide) ?_
    refine lv_goto (tgt := 61) hx hb dX5_spoil_57 (by decide) ?_
    refine x_callW1 (As := [.int (nI 2)]) (rest := []) hC vf_X5_64 hw hA (by decide) hM rfl rfl (k5_refuses2 l _ _ _ _ _ _ _ _ hM) ⟨rfl, rfl, Nat.le_of_ble_eq_true rfl, Nat.le_of_ble_eq_true rfl⟩ hl.1 (Nat.le_of_ble_eq_true rfl) dX5_spoil_61 ⟨Nat.zero_le _, Nat.zero_le _⟩ rfl (fun w_8 H locs hu_7 hw => ?_)
    have hc_9 : w_8 77 = .inr (4, [.int (nI 2), .int (nI n), .int (nI t), .int (nI cl), .ref (ad 78), .ref (ad 79), .ref (ad 80), .ref (ad 81), .ref (ad 82), .ref (ad 83), .int (nI qu), .ref (ad 84), .ref (ad 85), .ref (ad 86), .int (nI en), .int (nI kp), .ref (ad 87), .long hs]) := by rw [hu_7]; exact va_up_self _ _ _
    have hc_10 : w_8 78 = .inl (cZ, 17, .inl dz) := by rw [hu_7, va_up_ne _ _ (by decide)]; exact hDz
    have hc_11 : w_8 79 = .inl (cZ, 17, .inl oz) := by rw [hu_7, va_up_ne _ _ (by decide)]; exact hOz
    have hc_12 : w_8 80 = .inl (cJ, 289, .inr (.inl cf)) := by rw [hu_7, va_up_ne _ _ (by decide)]; exact hCf
    have hc_13 : w_8 81 = .inl (cJ, 289, .inr (.inl mf)) := by rw [hu_7, va_up_ne _ _ (by decide)]; exact hMf
    have hc_14 : w_8 82 = .inl (cJ, 289, .inr (.inl sf)) := by rw [hu_7, va_up_ne _ _ (by decide)]; exact hSf
    have hc_15 : w_8 83 = .inl (cZ, 289, .inl xf) := by rw [hu_7, va_up_ne _ _ (by decide)]; exact hXf
    have hc_16 : w_8 84 = .inl (cJ, 17, .inr (.inl kyf)) := by rw [hu_7, va_up_ne _ _ (by decide)]; exact hKy
    have hc_17 : w_8 85 = .inl (cJ, 17, .inr (.inl swf)) := by rw [hu_7, va_up_ne _ _ (by decide)]; exact hSw
    have hc_18 : w_8 86 = .inl (cJ, 301, .inr (.inl vlf)) := by rw [hu_7, va_up_ne _ _ (by decide)]; exact hVl
    have hc_19 : w_8 87 = .inl (cJ, 17, .inr (.inl plf)) := by rw [hu_7, va_up_ne _ _ (by decide)]; exact hPl
    refine lv_if_eq (tgt := 69) hx hb dX5_spoil_64 (by decide) (fun q_20 => absurd q_20 (by decide)) (fun q_20 => ?_)
    refine lv_iconst (v := nI 0) hx hb dX5_spoil_67 (by decide) ?_
    have hfr : ∀ z, z ≠ 77 → w_8 z = w z := fun z hhfr0 => by rw [hu_7, va_up_ne _ _ hhfr0]
    exact x_wretI hx hb hr hlocks hw ⟨fun z hz => hfr z (by omega), RM.set77 hRM hfr hc_9⟩ dX5_spoil_68
  · rw [nI_z (by omega)] at q1
    refine lv_aload_n hx hb dX5_spoil_49 rfl (lv_at hl 1 rfl) ?_
    refine gf_X5_71 hx hb hts hown hw (by decide) hM rfl dX5_spoil_50 ?_
    refine lv_if_eq (tgt := 60) hx hb dX5_spoil_53 (by decide) (fun q2 => absurd q2 (fun q => by rw [nI_z (by omega)] at q; omega)) (fun q2 => ?_)
    refine lv_iconst (v := nI 2) hx hb dX5_spoil_56 (by decide) ?_
    refine lv_goto (tgt := 61) hx hb dX5_spoil_57 (by decide) ?_
    refine x_callW1 (As := [.int (nI 2)]) (rest := []) hC vf_X5_64 hw hA (by decide) hM rfl rfl (k5_refuses2 l _ _ _ _ _ _ _ _ hM) ⟨rfl, rfl, Nat.le_of_ble_eq_true rfl, Nat.le_of_ble_eq_true rfl⟩ hl.1 (Nat.le_of_ble_eq_true rfl) dX5_spoil_61 ⟨Nat.zero_le _, Nat.zero_le _⟩ rfl (fun w_22 H locs hu_21 hw => ?_)
    have hc_23 : w_22 77 = .inr (4, [.int (nI 2), .int (nI n), .int (nI t), .int (nI cl), .ref (ad 78), .ref (ad 79), .ref (ad 80), .ref (ad 81), .ref (ad 82), .ref (ad 83), .int (nI qu), .ref (ad 84), .ref (ad 85), .ref (ad 86), .int (nI en), .int (nI kp), .ref (ad 87), .long hs]) := by rw [hu_21]; exact va_up_self _ _ _
    have hc_24 : w_22 78 = .inl (cZ, 17, .inl dz) := by rw [hu_21, va_up_ne _ _ (by decide)]; exact hDz
    have hc_25 : w_22 79 = .inl (cZ, 17, .inl oz) := by rw [hu_21, va_up_ne _ _ (by decide)]; exact hOz
    have hc_26 : w_22 80 = .inl (cJ, 289, .inr (.inl cf)) := by rw [hu_21, va_up_ne _ _ (by decide)]; exact hCf
    have hc_27 : w_22 81 = .inl (cJ, 289, .inr (.inl mf)) := by rw [hu_21, va_up_ne _ _ (by decide)]; exact hMf
    have hc_28 : w_22 82 = .inl (cJ, 289, .inr (.inl sf)) := by rw [hu_21, va_up_ne _ _ (by decide)]; exact hSf
    have hc_29 : w_22 83 = .inl (cZ, 289, .inl xf) := by rw [hu_21, va_up_ne _ _ (by decide)]; exact hXf
    have hc_30 : w_22 84 = .inl (cJ, 17, .inr (.inl kyf)) := by rw [hu_21, va_up_ne _ _ (by decide)]; exact hKy
    have hc_31 : w_22 85 = .inl (cJ, 17, .inr (.inl swf)) := by rw [hu_21, va_up_ne _ _ (by decide)]; exact hSw
    have hc_32 : w_22 86 = .inl (cJ, 301, .inr (.inl vlf)) := by rw [hu_21, va_up_ne _ _ (by decide)]; exact hVl
    have hc_33 : w_22 87 = .inl (cJ, 17, .inr (.inl plf)) := by rw [hu_21, va_up_ne _ _ (by decide)]; exact hPl
    refine lv_if_eq (tgt := 69) hx hb dX5_spoil_64 (by decide) (fun q_34 => absurd q_34 (by decide)) (fun q_34 => ?_)
    refine lv_iconst (v := nI 0) hx hb dX5_spoil_67 (by decide) ?_
    have hfr : ∀ z, z ≠ 77 → w_22 z = w z := fun z hhfr0 => by rw [hu_21, va_up_ne _ _ hhfr0]
    exact x_wretI hx hb hr hlocks hw ⟨fun z hz => hfr z (by omega), RM.set77 hRM hfr hc_23⟩ dX5_spoil_68
set_option maxHeartbeats 4000000 in
set_option maxRecDepth 100000 in
theorem m_commitment (l : Launch) {D : va_G} {cI cJ cZ cD : ClassId} {ad : Nat → Nat} {w : Nat → va_E} {sz : Nat} (n t cl qu en kp : Nat) (dl ou cp ks pt : Nat → Nat) (co sh : Nat → Nat → Nat) (vs : Nat → Int64) (cd : Int32) (hok : OkS n t cl qu en kp dl ou cp ks pt co sh) (hRM : RM ad cJ cZ w cd n t cl qu en kp dl ou cp ks pt co sh vs) (i j : Nat) (hi1 : 1 ≤ i) (hi2 : i ≤ n) (hj : j < t) (hdl : dl i = 1)  : MW l yX5_commitment (.code yX5_commitment cX5_commitment 3 (some .int)) ({ frames := 1, cells := 0, slots := 0, locals := 29 }) [.ref (ad 77), .int (nI i), .int (nI j)] D (tyL cI cJ cZ cD) ad 89 w sz (some (.int (nI (4 ^ co i j % 2147483579)))) (fun u => (∀ z, z < 77 ∨ 87 < z → u z = w z) ∧ RM ad cJ cZ u (nI 0) n t cl qu en kp dl ou cp ks pt co sh vs) := by
  refine MW.of (by decide) (Nat.le_of_ble_eq_true rfl) ?_
  intro p e s m below meth c ls hC hr hlocks hl hw
  obtain ⟨hx, hb, hml, hown, hts⟩ := id hC
  have hA : ∀ q, s.heap.size ≤ q → xA ad 89 s.heap.size q := fun q h => Or.inr h
  have hl : lv_has ls 3 [(0, .ref (ad 77)), (1, .int (nI i)), (2, .int (nI j))] := hl
  obtain ⟨⟨hs, hM⟩, ⟨dz, oz, hDz, hOz, hdo⟩, ⟨cf, mf, sf, hCf, hMf, hSf, hcs⟩, ⟨xf, hXf, hxx⟩, ⟨kyf, swf, hKy, hSw, hks⟩, ⟨vlf, hVl, hvl⟩, ⟨plf, hPl, hpl⟩⟩ := id hRM
  obtain ⟨⟨hn, ht, hcl, hqu, hen, hkp⟩, hle, ⟨hqb, hkb, hcb⟩, hvals, hclv, hptl, ⟨hz1, hz2, hz3⟩⟩ := id hok
  refine lv_aload_n hx hb dX5_commitment_0 rfl (lv_at hl 0 rfl) ?_
  refine lv_aload_n hx hb dX5_commitment_1 rfl (lv_at hl 0 rfl) ?_
  refine lv_iload_n hx hb dX5_commitment_2 rfl (lv_at hl 1 rfl) ?_
  refine x_callW1 (As := [.int (nI i)]) (rest := [.ref (ad 77)]) hC vf_X5_84 hw hA (by decide) hM rfl rfl (k5_isNode l _ _ _ _ _ _ _ _ hn i hi1 hi2 hM) ⟨rfl, rfl, Nat.le_of_ble_eq_true rfl, Nat.le_of_ble_eq_true rfl⟩ hl.1 (Nat.le_of_ble_eq_true rfl) dX5_commitment_3 ⟨Nat.zero_le _, Nat.zero_le _⟩ rfl (fun w_1 H locs hu hw => ?_)
  rw [hu] at hw
  refine lv_if_eq (tgt := 21) hx hb dX5_commitment_6 (by decide) (fun q_2 => absurd q_2 (by decide)) (fun q_2 => ?_)
  refine lv_iload_n hx hb dX5_commitment_9 rfl (lv_at hl 2 rfl) ?_
  refine lv_if_lt (tgt := 21) hx hb dX5_commitment_10 (by decide) (fun q1 => absurd q1 (nI_pos (by omega))) (fun q1 => ?_)
  refine lv_iload_n hx hb dX5_commitment_13 rfl (lv_at hl 2 rfl) ?_
  refine lv_aload_n hx hb dX5_commitment_14 rfl (lv_at hl 0 rfl) ?_
  refine gf_X5_68 hx hb hts hown hw (by decide) hM rfl dX5_commitment_15 ?_
  refine lv_icmp_lt (tgt := 25) hx hb dX5_commitment_18 (by decide) (fun q2 => ?_) (fun q2 => absurd (nI_lt (by omega) (by omega)) q2)
  refine lv_aload_n hx hb dX5_commitment_25 rfl (lv_at hl 0 rfl) ?_
  refine gf_X5_7 hx hb hts hown hw (by decide) hM rfl dX5_commitment_26 ?_
  refine lv_iload_n hx hb dX5_commitment_29 rfl (lv_at hl 1 rfl) ?_
  refine x_zald hx hb hw (by decide) 2 hDz rfl (j := i) (by omega) (by decide) (by rw [(hdo i (by omega)).1, hdl]) dX5_commitment_30 ?_
  refine lv_if_ne (tgt := 38) hx hb dX5_commitment_31 (by decide) (fun q_3 => ?_) (fun q_3 => absurd q_3 (by decide))
  refine lv_iconst (v := nI 0) hx hb dX5_commitment_38 (by decide) ?_
  refine x_callW1 (As := [.int (nI 0)]) (rest := []) hC vf_X5_64 hw hA (by decide) hM rfl rfl (k5_refuses0 l _ _ _ _ _ _ _ _ hM) ⟨rfl, rfl, Nat.le_of_ble_eq_true rfl, Nat.le_of_ble_eq_true rfl⟩ hl.1 (Nat.le_of_ble_eq_true rfl) dX5_commitment_39 ⟨Nat.zero_le _, Nat.zero_le _⟩ rfl (fun w_5 H locs hu_4 hw => ?_)
  have hc_6 : w_5 77 = .inr (4, [.int (nI 0), .int (nI n), .int (nI t), .int (nI cl), .ref (ad 78), .ref (ad 79), .ref (ad 80), .ref (ad 81), .ref (ad 82), .ref (ad 83), .int (nI qu), .ref (ad 84), .ref (ad 85), .ref (ad 86), .int (nI en), .int (nI kp), .ref (ad 87), .long hs]) := by rw [hu_4]; exact va_up_self _ _ _
  have hc_7 : w_5 78 = .inl (cZ, 17, .inl dz) := by rw [hu_4, va_up_ne _ _ (by decide)]; exact hDz
  have hc_8 : w_5 79 = .inl (cZ, 17, .inl oz) := by rw [hu_4, va_up_ne _ _ (by decide)]; exact hOz
  have hc_9 : w_5 80 = .inl (cJ, 289, .inr (.inl cf)) := by rw [hu_4, va_up_ne _ _ (by decide)]; exact hCf
  have hc_10 : w_5 81 = .inl (cJ, 289, .inr (.inl mf)) := by rw [hu_4, va_up_ne _ _ (by decide)]; exact hMf
  have hc_11 : w_5 82 = .inl (cJ, 289, .inr (.inl sf)) := by rw [hu_4, va_up_ne _ _ (by decide)]; exact hSf
  have hc_12 : w_5 83 = .inl (cZ, 289, .inl xf) := by rw [hu_4, va_up_ne _ _ (by decide)]; exact hXf
  have hc_13 : w_5 84 = .inl (cJ, 17, .inr (.inl kyf)) := by rw [hu_4, va_up_ne _ _ (by decide)]; exact hKy
  have hc_14 : w_5 85 = .inl (cJ, 17, .inr (.inl swf)) := by rw [hu_4, va_up_ne _ _ (by decide)]; exact hSw
  have hc_15 : w_5 86 = .inl (cJ, 301, .inr (.inl vlf)) := by rw [hu_4, va_up_ne _ _ (by decide)]; exact hVl
  have hc_16 : w_5 87 = .inl (cJ, 17, .inr (.inl plf)) := by rw [hu_4, va_up_ne _ _ (by decide)]; exact hPl
  refine lv_if_eq (tgt := 47) hx hb dX5_commitment_42 (by decide) (fun q_17 => ?_) (fun q_17 => absurd (by decide) q_17)
  obtain ⟨e1, e2⟩ := hcs i hi1 hi2 hdl
  refine lv_aload_n hx hb dX5_commitment_47 rfl (lv_at hl 0 rfl) ?_
  refine gf_X5_20 hx hb hts hown hw (by decide) hc_6 rfl dX5_commitment_48 ?_
  refine lv_bipush (v := nI 17) hx hb dX5_commitment_51 (by decide) ?_
  refine lv_iload_n hx hb dX5_commitment_53 rfl (lv_at hl 1 rfl) ?_
  refine t_imul hx hb dX5_commitment_54 (v := nI (17 * i)) (pk_mul _ _) ?_
  refine lv_iload_n hx hb dX5_commitment_55 rfl (lv_at hl 2 rfl) ?_
  refine t_iadd hx hb dX5_commitment_56 (v := nI (17 * i + j)) (nI_add _ _) ?_
  refine x_lald hx hb hw (by decide) 1 hc_10 rfl (j := 17 * i + j) (by omega) (by decide) (e1 j hj).2 dX5_commitment_57 ?_
  refine lv_l2i hx hb dX5_commitment_58 (lN_i _) ?_
  have hfr : ∀ z, z ≠ 77 → w_5 z = w z := fun z hhfr0 => by rw [hu_4, va_up_ne _ _ hhfr0]
  exact x_wretI hx hb hr hlocks hw ⟨fun z hz => hfr z (by omega), RM.set77 hRM hfr hc_6⟩ dX5_commitment_59
set_option maxHeartbeats 4000000 in
set_option maxRecDepth 100000 in
theorem m_commitmentA (l : Launch) {D : va_G} {cI cJ cZ cD : ClassId} {ad : Nat → Nat} {w : Nat → va_E} {sz : Nat} (n t cl qu en kp : Nat) (dl ou cp ks pt : Nat → Nat) (co sh : Nat → Nat → Nat) (vs : Nat → Int64) (cd : Int32) (hok : OkS n t cl qu en kp dl ou cp ks pt co sh) (hRM : RM ad cJ cZ w cd n t cl qu en kp dl ou cp ks pt co sh vs) (x y : Int32) (hbad : ¬ (isNd n x ∧ ¬ y < 0 ∧ y < nI t))  : MW l yX5_commitment (.code yX5_commitment cX5_commitment 3 (some .int)) ({ frames := 1, cells := 0, slots := 0, locals := 29 }) [.ref (ad 77), .int x, .int y] D (tyL cI cJ cZ cD) ad 89 w sz (some (.int (nI 0))) (fun u => (∀ z, z < 77 ∨ 87 < z → u z = w z) ∧ RM ad cJ cZ u (nI 1) n t cl qu en kp dl ou cp ks pt co sh vs) := by
  refine MW.of (by decide) (Nat.le_of_ble_eq_true rfl) ?_
  intro p e s m below meth c ls hC hr hlocks hl hw
  obtain ⟨hx, hb, hml, hown, hts⟩ := id hC
  have hA : ∀ q, s.heap.size ≤ q → xA ad 89 s.heap.size q := fun q h => Or.inr h
  have hl : lv_has ls 3 [(0, .ref (ad 77)), (1, .int x), (2, .int y)] := hl
  obtain ⟨⟨hs, hM⟩, ⟨dz, oz, hDz, hOz, hdo⟩, ⟨cf, mf, sf, hCf, hMf, hSf, hcs⟩, ⟨xf, hXf, hxx⟩, ⟨kyf, swf, hKy, hSw, hks⟩, ⟨vlf, hVl, hvl⟩, ⟨plf, hPl, hpl⟩⟩ := id hRM
  obtain ⟨⟨hn, ht, hcl, hqu, hen, hkp⟩, hle, ⟨hqb, hkb, hcb⟩, hvals, hclv, hptl, ⟨hz1, hz2, hz3⟩⟩ := id hok
  by_cases c1 : isNd n x
  · skip
    obtain ⟨i, hi1, hi2, rfl⟩ := isNd_of hn c1
    refine lv_aload_n hx hb dX5_commitment_0 rfl (lv_at hl 0 rfl) ?_
    refine lv_aload_n hx hb dX5_commitment_1 rfl (lv_at hl 0 rfl) ?_
    refine lv_iload_n hx hb dX5_commitment_2 rfl (lv_at hl 1 rfl) ?_
    refine x_callW1 (As := [.int (nI i)]) (rest := [.ref (ad 77)]) hC vf_X5_84 hw hA (by decide) hM rfl rfl (k5_isNode l _ _ _ _ _ _ _ _ hn i hi1 hi2 hM) ⟨rfl, rfl, Nat.le_of_ble_eq_true rfl, Nat.le_of_ble_eq_true rfl⟩ hl.1 (Nat.le_of_ble_eq_true rfl) dX5_commitment_3 ⟨Nat.zero_le _, Nat.zero_le _⟩ rfl (fun w_1 H locs hu hw => ?_)
    rw [hu] at hw
    refine lv_if_eq (tgt := 21) hx hb dX5_commitment_6 (by decide) (fun q_2 => absurd q_2 (by decide)) (fun q_2 => ?_)
    refine lv_iload_n hx hb dX5_commitment_9 rfl (lv_at hl 2 rfl) ?_
    refine lv_if_lt (tgt := 21) hx hb dX5_commitment_10 (by decide) (fun q1 => ?_) (fun q1 => ?_)
    · skip
      refine lv_iconst (v := nI 1) hx hb dX5_commitment_21 (by decide) ?_
      refine lv_goto (tgt := 39) hx hb dX5_commitment_22 (by decide) ?_
      refine x_callW1 (As := [.int (nI 1)]) (rest := []) hC vf_X5_64 hw hA (by decide) hM rfl rfl (k5_refuses1 l _ _ _ _ _ _ _ _ hM) ⟨rfl, rfl, Nat.le_of_ble_eq_true rfl, Nat.le_of_ble_eq_true rfl⟩ hl.1 (Nat.le_of_ble_eq_true rfl) dX5_commitment_39 ⟨Nat.zero_le _, Nat.zero_le _⟩ rfl (fun w_4 H locs hu_3 hw => ?_)
      have hc_5 : w_4 77 = .inr (4, [.int (nI 1), .int (nI n), .int (nI t), .int (nI cl), .ref (ad 78), .ref (ad 79), .ref (ad 80), .ref (ad 81), .ref (ad 82), .ref (ad 83), .int (nI qu), .ref (ad 84), .ref (ad 85), .ref (ad 86), .int (nI en), .int (nI kp), .ref (ad 87), .long hs]) := by rw [hu_3]; exact va_up_self _ _ _
      have hc_6 : w_4 78 = .inl (cZ, 17, .inl dz) := by rw [hu_3, va_up_ne _ _ (by decide)]; exact hDz
      have hc_7 : w_4 79 = .inl (cZ, 17, .inl oz) := by rw [hu_3, va_up_ne _ _ (by decide)]; exact hOz
      have hc_8 : w_4 80 = .inl (cJ, 289, .inr (.inl cf)) := by rw [hu_3, va_up_ne _ _ (by decide)]; exact hCf
      have hc_9 : w_4 81 = .inl (cJ, 289, .inr (.inl mf)) := by rw [hu_3, va_up_ne _ _ (by decide)]; exact hMf
      have hc_10 : w_4 82 = .inl (cJ, 289, .inr (.inl sf)) := by rw [hu_3, va_up_ne _ _ (by decide)]; exact hSf
      have hc_11 : w_4 83 = .inl (cZ, 289, .inl xf) := by rw [hu_3, va_up_ne _ _ (by decide)]; exact hXf
      have hc_12 : w_4 84 = .inl (cJ, 17, .inr (.inl kyf)) := by rw [hu_3, va_up_ne _ _ (by decide)]; exact hKy
      have hc_13 : w_4 85 = .inl (cJ, 17, .inr (.inl swf)) := by rw [hu_3, va_up_ne _ _ (by decide)]; exact hSw
      have hc_14 : w_4 86 = .inl (cJ, 301, .inr (.inl vlf)) := by rw [hu_3, va_up_ne _ _ (by decide)]; exact hVl
      have hc_15 : w_4 87 = .inl (cJ, 17, .inr (.inl plf)) := by rw [hu_3, va_up_ne _ _ (by decide)]; exact hPl
      refine lv_if_eq (tgt := 47) hx hb dX5_commitment_42 (by decide) (fun q_16 => absurd q_16 (by decide)) (fun q_16 => ?_)
      refine lv_iconst (v := nI 0) hx hb dX5_commitment_45 (by decide) ?_
      have hfr : ∀ z, z ≠ 77 → w_4 z = w z := fun z hhfr0 => by rw [hu_3, va_up_ne _ _ hhfr0]
      exact x_wretI hx hb hr hlocks hw ⟨fun z hz => hfr z (by omega), RM.set77 hRM hfr hc_5⟩ dX5_commitment_46
    · skip
      refine lv_iload_n hx hb dX5_commitment_13 rfl (lv_at hl 2 rfl) ?_
      refine lv_aload_n hx hb dX5_commitment_14 rfl (lv_at hl 0 rfl) ?_
      refine gf_X5_68 hx hb hts hown hw (by decide) hM rfl dX5_commitment_15 ?_
      refine lv_icmp_lt (tgt := 25) hx hb dX5_commitment_18 (by decide) (fun q2 => absurd q2 (fun q => hbad ⟨c1, q1, q⟩)) (fun q2 => ?_)
      refine lv_iconst (v := nI 1) hx hb dX5_commitment_21 (by decide) ?_
      refine lv_goto (tgt := 39) hx hb dX5_commitment_22 (by decide) ?_
      refine x_callW1 (As := [.int (nI 1)]) (rest := []) hC vf_X5_64 hw hA (by decide) hM rfl rfl (k5_refuses1 l _ _ _ _ _ _ _ _ hM) ⟨rfl, rfl, Nat.le_of_ble_eq_true rfl, Nat.le_of_ble_eq_true rfl⟩ hl.1 (Nat.le_of_ble_eq_true rfl) dX5_commitment_39 ⟨Nat.zero_le _, Nat.zero_le _⟩ rfl (fun w_18 H locs hu_17 hw => ?_)
      have hc_19 : w_18 77 = .inr (4, [.int (nI 1), .int (nI n), .int (nI t), .int (nI cl), .ref (ad 78), .ref (ad 79), .ref (ad 80), .ref (ad 81), .ref (ad 82), .ref (ad 83), .int (nI qu), .ref (ad 84), .ref (ad 85), .ref (ad 86), .int (nI en), .int (nI kp), .ref (ad 87), .long hs]) := by rw [hu_17]; exact va_up_self _ _ _
      have hc_20 : w_18 78 = .inl (cZ, 17, .inl dz) := by rw [hu_17, va_up_ne _ _ (by decide)]; exact hDz
      have hc_21 : w_18 79 = .inl (cZ, 17, .inl oz) := by rw [hu_17, va_up_ne _ _ (by decide)]; exact hOz
      have hc_22 : w_18 80 = .inl (cJ, 289, .inr (.inl cf)) := by rw [hu_17, va_up_ne _ _ (by decide)]; exact hCf
      have hc_23 : w_18 81 = .inl (cJ, 289, .inr (.inl mf)) := by rw [hu_17, va_up_ne _ _ (by decide)]; exact hMf
      have hc_24 : w_18 82 = .inl (cJ, 289, .inr (.inl sf)) := by rw [hu_17, va_up_ne _ _ (by decide)]; exact hSf
      have hc_25 : w_18 83 = .inl (cZ, 289, .inl xf) := by rw [hu_17, va_up_ne _ _ (by decide)]; exact hXf
      have hc_26 : w_18 84 = .inl (cJ, 17, .inr (.inl kyf)) := by rw [hu_17, va_up_ne _ _ (by decide)]; exact hKy
      have hc_27 : w_18 85 = .inl (cJ, 17, .inr (.inl swf)) := by rw [hu_17, va_up_ne _ _ (by decide)]; exact hSw
      have hc_28 : w_18 86 = .inl (cJ, 301, .inr (.inl vlf)) := by rw [hu_17, va_up_ne _ _ (by decide)]; exact hVl
      have hc_29 : w_18 87 = .inl (cJ, 17, .inr (.inl plf)) := by rw [hu_17, va_up_ne _ _ (by decide)]; exact hPl
      refine lv_if_eq (tgt := 47) hx hb dX5_commitment_42 (by decide) (fun q_30 => absurd q_30 (by decide)) (fun q_30 => ?_)
      refine lv_iconst (v := nI 0) hx hb dX5_commitment_45 (by decide) ?_
      have hfr : ∀ z, z ≠ 77 → w_18 z = w z := fun z hhfr0 => by rw [hu_17, va_up_ne _ _ hhfr0]
      exact x_wretI hx hb hr hlocks hw ⟨fun z hz => hfr z (by omega), RM.set77 hRM hfr hc_19⟩ dX5_commitment_46
  · skip
    refine lv_aload_n hx hb dX5_commitment_0 rfl (lv_at hl 0 rfl) ?_
    refine lv_aload_n hx hb dX5_commitment_1 rfl (lv_at hl 0 rfl) ?_
    refine lv_iload_n hx hb dX5_commitment_2 rfl (lv_at hl 1 rfl) ?_
    refine x_callW1 (As := [.int x]) (rest := [.ref (ad 77)]) hC vf_X5_84 hw hA (by decide) hM rfl rfl (k5_isNodeN l _ _ _ _ _ _ _ _ x c1 hM) ⟨rfl, rfl, Nat.le_of_ble_eq_true rfl, Nat.le_of_ble_eq_true rfl⟩ hl.1 (Nat.le_of_ble_eq_true rfl) dX5_commitment_3 ⟨Nat.zero_le _, Nat.zero_le _⟩ rfl (fun w_31 H locs hu hw => ?_)
    rw [hu] at hw
    refine lv_if_eq (tgt := 21) hx hb dX5_commitment_6 (by decide) (fun q_32 => ?_) (fun q_32 => absurd (by decide) q_32)
    refine lv_iconst (v := nI 1) hx hb dX5_commitment_21 (by decide) ?_
    refine lv_goto (tgt := 39) hx hb dX5_commitment_22 (by decide) ?_
    refine x_callW1 (As := [.int (nI 1)]) (rest := []) hC vf_X5_64 hw hA (by decide) hM rfl rfl (k5_refuses1 l _ _ _ _ _ _ _ _ hM) ⟨rfl, rfl, Nat.le_of_ble_eq_true rfl, Nat.le_of_ble_eq_true rfl⟩ hl.1 (Nat.le_of_ble_eq_true rfl) dX5_commitment_39 ⟨Nat.zero_le _, Nat.zero_le _⟩ rfl (fun w_34 H locs hu_33 hw => ?_)
    have hc_35 : w_34 77 = .inr (4, [.int (nI 1), .int (nI n), .int (nI t), .int (nI cl), .ref (ad 78), .ref (ad 79), .ref (ad 80), .ref (ad 81), .ref (ad 82), .ref (ad 83), .int (nI qu), .ref (ad 84), .ref (ad 85), .ref (ad 86), .int (nI en), .int (nI kp), .ref (ad 87), .long hs]) := by rw [hu_33]; exact va_up_self _ _ _
    have hc_36 : w_34 78 = .inl (cZ, 17, .inl dz) := by rw [hu_33, va_up_ne _ _ (by decide)]; exact hDz
    have hc_37 : w_34 79 = .inl (cZ, 17, .inl oz) := by rw [hu_33, va_up_ne _ _ (by decide)]; exact hOz
    have hc_38 : w_34 80 = .inl (cJ, 289, .inr (.inl cf)) := by rw [hu_33, va_up_ne _ _ (by decide)]; exact hCf
    have hc_39 : w_34 81 = .inl (cJ, 289, .inr (.inl mf)) := by rw [hu_33, va_up_ne _ _ (by decide)]; exact hMf
    have hc_40 : w_34 82 = .inl (cJ, 289, .inr (.inl sf)) := by rw [hu_33, va_up_ne _ _ (by decide)]; exact hSf
    have hc_41 : w_34 83 = .inl (cZ, 289, .inl xf) := by rw [hu_33, va_up_ne _ _ (by decide)]; exact hXf
    have hc_42 : w_34 84 = .inl (cJ, 17, .inr (.inl kyf)) := by rw [hu_33, va_up_ne _ _ (by decide)]; exact hKy
    have hc_43 : w_34 85 = .inl (cJ, 17, .inr (.inl swf)) := by rw [hu_33, va_up_ne _ _ (by decide)]; exact hSw
    have hc_44 : w_34 86 = .inl (cJ, 301, .inr (.inl vlf)) := by rw [hu_33, va_up_ne _ _ (by decide)]; exact hVl
    have hc_45 : w_34 87 = .inl (cJ, 17, .inr (.inl plf)) := by rw [hu_33, va_up_ne _ _ (by decide)]; exact hPl
    refine lv_if_eq (tgt := 47) hx hb dX5_commitment_42 (by decide) (fun q_46 => absurd q_46 (by decide)) (fun q_46 => ?_)
    refine lv_iconst (v := nI 0) hx hb dX5_commitment_45 (by decide) ?_
    have hfr : ∀ z, z ≠ 77 → w_34 z = w z := fun z hhfr0 => by rw [hu_33, va_up_ne _ _ hhfr0]
    exact x_wretI hx hb hr hlocks hw ⟨fun z hz => hfr z (by omega), RM.set77 hRM hfr hc_35⟩ dX5_commitment_46
set_option maxHeartbeats 4000000 in
set_option maxRecDepth 100000 in
theorem m_commitmentS (l : Launch) {D : va_G} {cI cJ cZ cD : ClassId} {ad : Nat → Nat} {w : Nat → va_E} {sz : Nat} (n t cl qu en kp : Nat) (dl ou cp ks pt : Nat → Nat) (co sh : Nat → Nat → Nat) (vs : Nat → Int64) (cd : Int32) (hok : OkS n t cl qu en kp dl ou cp ks pt co sh) (hRM : RM ad cJ cZ w cd n t cl qu en kp dl ou cp ks pt co sh vs) (i j : Nat) (hi1 : 1 ≤ i) (hi2 : i ≤ n) (hj : j < t) (hdl : dl i = 0)  : MW l yX5_commitment (.code yX5_commitment cX5_commitment 3 (some .int)) ({ frames := 1, cells := 0, slots := 0, locals := 29 }) [.ref (ad 77), .int (nI i), .int (nI j)] D (tyL cI cJ cZ cD) ad 89 w sz (some (.int (nI 0))) (fun u => (∀ z, z < 77 ∨ 87 < z → u z = w z) ∧ RM ad cJ cZ u (nI 2) n t cl qu en kp dl ou cp ks pt co sh vs) := by
  refine MW.of (by decide) (Nat.le_of_ble_eq_true rfl) ?_
  intro p e s m below meth c ls hC hr hlocks hl hw
  obtain ⟨hx, hb, hml, hown, hts⟩ := id hC
  have hA : ∀ q, s.heap.size ≤ q → xA ad 89 s.heap.size q := fun q h => Or.inr h
  have hl : lv_has ls 3 [(0, .ref (ad 77)), (1, .int (nI i)), (2, .int (nI j))] := hl
  obtain ⟨⟨hs, hM⟩, ⟨dz, oz, hDz, hOz, hdo⟩, ⟨cf, mf, sf, hCf, hMf, hSf, hcs⟩, ⟨xf, hXf, hxx⟩, ⟨kyf, swf, hKy, hSw, hks⟩, ⟨vlf, hVl, hvl⟩, ⟨plf, hPl, hpl⟩⟩ := id hRM
  obtain ⟨⟨hn, ht, hcl, hqu, hen, hkp⟩, hle, ⟨hqb, hkb, hcb⟩, hvals, hclv, hptl, ⟨hz1, hz2, hz3⟩⟩ := id hok
  refine lv_aload_n hx hb dX5_commitment_0 rfl (lv_at hl 0 rfl) ?_
  refine lv_aload_n hx hb dX5_commitment_1 rfl (lv_at hl 0 rfl) ?_
  refine lv_iload_n hx hb dX5_commitment_2 rfl (lv_at hl 1 rfl) ?_
  refine x_callW1 (As := [.int (nI i)]) (rest := [.ref (ad 77)]) hC vf_X5_84 hw hA (by decide) hM rfl rfl (k5_isNode l _ _ _ _ _ _ _ _ hn i hi1 hi2 hM) ⟨rfl, rfl, Nat.le_of_ble_eq_true rfl, Nat.le_of_ble_eq_true rfl⟩ hl.1 (Nat.le_of_ble_eq_true rfl) dX5_commitment_3 ⟨Nat.zero_le _, Nat.zero_le _⟩ rfl (fun w_1 H locs hu hw => ?_)
  rw [hu] at hw
  refine lv_if_eq (tgt := 21) hx hb dX5_commitment_6 (by decide) (fun q_2 => absurd q_2 (by decide)) (fun q_2 => ?_)
  refine lv_iload_n hx hb dX5_commitment_9 rfl (lv_at hl 2 rfl) ?_
  refine lv_if_lt (tgt := 21) hx hb dX5_commitment_10 (by decide) (fun q1 => absurd q1 (nI_pos (by omega))) (fun q1 => ?_)
  refine lv_iload_n hx hb dX5_commitment_13 rfl (lv_at hl 2 rfl) ?_
  refine lv_aload_n hx hb dX5_commitment_14 rfl (lv_at hl 0 rfl) ?_
  refine gf_X5_68 hx hb hts hown hw (by decide) hM rfl dX5_commitment_15 ?_
  refine lv_icmp_lt (tgt := 25) hx hb dX5_commitment_18 (by decide) (fun q2 => ?_) (fun q2 => absurd (nI_lt (by omega) (by omega)) q2)
  refine lv_aload_n hx hb dX5_commitment_25 rfl (lv_at hl 0 rfl) ?_
  refine gf_X5_7 hx hb hts hown hw (by decide) hM rfl dX5_commitment_26 ?_
  refine lv_iload_n hx hb dX5_commitment_29 rfl (lv_at hl 1 rfl) ?_
  refine x_zald hx hb hw (by decide) 2 hDz rfl (j := i) (by omega) (by decide) (by rw [(hdo i (by omega)).1, hdl]) dX5_commitment_30 ?_
  refine lv_if_ne (tgt := 38) hx hb dX5_commitment_31 (by decide) (fun q_3 => absurd (by decide) q_3) (fun q_3 => ?_)
  refine lv_iconst (v := nI 2) hx hb dX5_commitment_34 (by decide) ?_
  refine lv_goto (tgt := 39) hx hb dX5_commitment_35 (by decide) ?_
  refine x_callW1 (As := [.int (nI 2)]) (rest := []) hC vf_X5_64 hw hA (by decide) hM rfl rfl (k5_refuses2 l _ _ _ _ _ _ _ _ hM) ⟨rfl, rfl, Nat.le_of_ble_eq_true rfl, Nat.le_of_ble_eq_true rfl⟩ hl.1 (Nat.le_of_ble_eq_true rfl) dX5_commitment_39 ⟨Nat.zero_le _, Nat.zero_le _⟩ rfl (fun w_5 H locs hu_4 hw => ?_)
  have hc_6 : w_5 77 = .inr (4, [.int (nI 2), .int (nI n), .int (nI t), .int (nI cl), .ref (ad 78), .ref (ad 79), .ref (ad 80), .ref (ad 81), .ref (ad 82), .ref (ad 83), .int (nI qu), .ref (ad 84), .ref (ad 85), .ref (ad 86), .int (nI en), .int (nI kp), .ref (ad 87), .long hs]) := by rw [hu_4]; exact va_up_self _ _ _
  have hc_7 : w_5 78 = .inl (cZ, 17, .inl dz) := by rw [hu_4, va_up_ne _ _ (by decide)]; exact hDz
  have hc_8 : w_5 79 = .inl (cZ, 17, .inl oz) := by rw [hu_4, va_up_ne _ _ (by decide)]; exact hOz
  have hc_9 : w_5 80 = .inl (cJ, 289, .inr (.inl cf)) := by rw [hu_4, va_up_ne _ _ (by decide)]; exact hCf
  have hc_10 : w_5 81 = .inl (cJ, 289, .inr (.inl mf)) := by rw [hu_4, va_up_ne _ _ (by decide)]; exact hMf
  have hc_11 : w_5 82 = .inl (cJ, 289, .inr (.inl sf)) := by rw [hu_4, va_up_ne _ _ (by decide)]; exact hSf
  have hc_12 : w_5 83 = .inl (cZ, 289, .inl xf) := by rw [hu_4, va_up_ne _ _ (by decide)]; exact hXf
  have hc_13 : w_5 84 = .inl (cJ, 17, .inr (.inl kyf)) := by rw [hu_4, va_up_ne _ _ (by decide)]; exact hKy
  have hc_14 : w_5 85 = .inl (cJ, 17, .inr (.inl swf)) := by rw [hu_4, va_up_ne _ _ (by decide)]; exact hSw
  have hc_15 : w_5 86 = .inl (cJ, 301, .inr (.inl vlf)) := by rw [hu_4, va_up_ne _ _ (by decide)]; exact hVl
  have hc_16 : w_5 87 = .inl (cJ, 17, .inr (.inl plf)) := by rw [hu_4, va_up_ne _ _ (by decide)]; exact hPl
  refine lv_if_eq (tgt := 47) hx hb dX5_commitment_42 (by decide) (fun q_17 => absurd q_17 (by decide)) (fun q_17 => ?_)
  refine lv_iconst (v := nI 0) hx hb dX5_commitment_45 (by decide) ?_
  have hfr : ∀ z, z ≠ 77 → w_5 z = w z := fun z hhfr0 => by rw [hu_4, va_up_ne _ _ hhfr0]
  exact x_wretI hx hb hr hlocks hw ⟨fun z hz => hfr z (by omega), RM.set77 hRM hfr hc_6⟩ dX5_commitment_46
set_option maxHeartbeats 4000000 in
set_option maxRecDepth 100000 in
theorem m_share (l : Launch) {D : va_G} {cI cJ cZ cD : ClassId} {ad : Nat → Nat} {w : Nat → va_E} {sz : Nat} (n t cl qu en kp : Nat) (dl ou cp ks pt : Nat → Nat) (co sh : Nat → Nat → Nat) (vs : Nat → Int64) (cd : Int32) (hok : OkS n t cl qu en kp dl ou cp ks pt co sh) (hRM : RM ad cJ cZ w cd n t cl qu en kp dl ou cp ks pt co sh vs) (i k : Nat) (hi1 : 1 ≤ i) (hi2 : i ≤ n) (hk1 : 1 ≤ k) (hk2 : k ≤ n) (hdl : dl i = 1)  : MW l yX5_share (.code yX5_share cX5_share 3 (some .int)) ({ frames := 1, cells := 0, slots := 0, locals := 29 }) [.ref (ad 77), .int (nI i), .int (nI k)] D (tyL cI cJ cZ cD) ad 89 w sz (some (.int (nI (sh i k)))) (fun u => (∀ z, z < 77 ∨ 87 < z → u z = w z) ∧ RM ad cJ cZ u (nI 0) n t cl qu en kp dl ou cp ks pt co sh vs) := by
  refine MW.of (by decide) (Nat.le_of_ble_eq_true rfl) ?_
  intro p e s m below meth c ls hC hr hlocks hl hw
  obtain ⟨hx, hb, hml, hown, hts⟩ := id hC
  have hA : ∀ q, s.heap.size ≤ q → xA ad 89 s.heap.size q := fun q h => Or.inr h
  have hl : lv_has ls 3 [(0, .ref (ad 77)), (1, .int (nI i)), (2, .int (nI k))] := hl
  obtain ⟨⟨hs, hM⟩, ⟨dz, oz, hDz, hOz, hdo⟩, ⟨cf, mf, sf, hCf, hMf, hSf, hcs⟩, ⟨xf, hXf, hxx⟩, ⟨kyf, swf, hKy, hSw, hks⟩, ⟨vlf, hVl, hvl⟩, ⟨plf, hPl, hpl⟩⟩ := id hRM
  obtain ⟨⟨hn, ht, hcl, hqu, hen, hkp⟩, hle, ⟨hqb, hkb, hcb⟩, hvals, hclv, hptl, ⟨hz1, hz2, hz3⟩⟩ := id hok
  refine lv_aload_n hx hb dX5_share_0 rfl (lv_at hl 0 rfl) ?_
  refine lv_aload_n hx hb dX5_share_1 rfl (lv_at hl 0 rfl) ?_
  refine lv_iload_n hx hb dX5_share_2 rfl (lv_at hl 1 rfl) ?_
  refine x_callW1 (As := [.int (nI i)]) (rest := [.ref (ad 77)]) hC vf_X5_84 hw hA (by decide) hM rfl rfl (k5_isNode l _ _ _ _ _ _ _ _ hn i hi1 hi2 hM) ⟨rfl, rfl, Nat.le_of_ble_eq_true rfl, Nat.le_of_ble_eq_true rfl⟩ hl.1 (Nat.le_of_ble_eq_true rfl) dX5_share_3 ⟨Nat.zero_le _, Nat.zero_le _⟩ rfl (fun w_1 H locs hu hw => ?_)
  rw [hu] at hw
  refine lv_if_eq (tgt := 17) hx hb dX5_share_6 (by decide) (fun q_2 => absurd q_2 (by decide)) (fun q_2 => ?_)
  refine lv_aload_n hx hb dX5_share_9 rfl (lv_at hl 0 rfl) ?_
  refine lv_iload_n hx hb dX5_share_10 rfl (lv_at hl 2 rfl) ?_
  refine x_callW1 (As := [.int (nI k)]) (rest := [.ref (ad 77)]) hC vf_X5_84 hw hA (by decide) hM rfl rfl (k5_isNode l _ _ _ _ _ _ _ _ hn k hk1 hk2 hM) ⟨rfl, rfl, Nat.le_of_ble_eq_true rfl, Nat.le_of_ble_eq_true rfl⟩ hl.1 (Nat.le_of_ble_eq_true rfl) dX5_share_11 ⟨Nat.zero_le _, Nat.zero_le _⟩ rfl (fun w_3 H locs hu hw => ?_)
  rw [hu] at hw
  refine lv_if_ne (tgt := 21) hx hb dX5_share_14 (by decide) (fun q_4 => ?_) (fun q_4 => absurd q_4 (by decide))
  refine lv_aload_n hx hb dX5_share_21 rfl (lv_at hl 0 rfl) ?_
  refine gf_X5_7 hx hb hts hown hw (by decide) hM rfl dX5_share_22 ?_
  refine lv_iload_n hx hb dX5_share_25 rfl (lv_at hl 1 rfl) ?_
  refine x_zald hx hb hw (by decide) 2 hDz rfl (j := i) (by omega) (by decide) (by rw [(hdo i (by omega)).1, hdl]) dX5_share_26 ?_
  refine lv_if_ne (tgt := 34) hx hb dX5_share_27 (by decide) (fun q_5 => ?_) (fun q_5 => absurd q_5 (by decide))
  refine lv_iconst (v := nI 0) hx hb dX5_share_34 (by decide) ?_
  refine x_callW1 (As := [.int (nI 0)]) (rest := []) hC vf_X5_64 hw hA (by decide) hM rfl rfl (k5_refuses0 l _ _ _ _ _ _ _ _ hM) ⟨rfl, rfl, Nat.le_of_ble_eq_true rfl, Nat.le_of_ble_eq_true rfl⟩ hl.1 (Nat.le_of_ble_eq_true rfl) dX5_share_35 ⟨Nat.zero_le _, Nat.zero_le _⟩ rfl (fun w_7 H locs hu_6 hw => ?_)
  have hc_8 : w_7 77 = .inr (4, [.int (nI 0), .int (nI n), .int (nI t), .int (nI cl), .ref (ad 78), .ref (ad 79), .ref (ad 80), .ref (ad 81), .ref (ad 82), .ref (ad 83), .int (nI qu), .ref (ad 84), .ref (ad 85), .ref (ad 86), .int (nI en), .int (nI kp), .ref (ad 87), .long hs]) := by rw [hu_6]; exact va_up_self _ _ _
  have hc_9 : w_7 78 = .inl (cZ, 17, .inl dz) := by rw [hu_6, va_up_ne _ _ (by decide)]; exact hDz
  have hc_10 : w_7 79 = .inl (cZ, 17, .inl oz) := by rw [hu_6, va_up_ne _ _ (by decide)]; exact hOz
  have hc_11 : w_7 80 = .inl (cJ, 289, .inr (.inl cf)) := by rw [hu_6, va_up_ne _ _ (by decide)]; exact hCf
  have hc_12 : w_7 81 = .inl (cJ, 289, .inr (.inl mf)) := by rw [hu_6, va_up_ne _ _ (by decide)]; exact hMf
  have hc_13 : w_7 82 = .inl (cJ, 289, .inr (.inl sf)) := by rw [hu_6, va_up_ne _ _ (by decide)]; exact hSf
  have hc_14 : w_7 83 = .inl (cZ, 289, .inl xf) := by rw [hu_6, va_up_ne _ _ (by decide)]; exact hXf
  have hc_15 : w_7 84 = .inl (cJ, 17, .inr (.inl kyf)) := by rw [hu_6, va_up_ne _ _ (by decide)]; exact hKy
  have hc_16 : w_7 85 = .inl (cJ, 17, .inr (.inl swf)) := by rw [hu_6, va_up_ne _ _ (by decide)]; exact hSw
  have hc_17 : w_7 86 = .inl (cJ, 301, .inr (.inl vlf)) := by rw [hu_6, va_up_ne _ _ (by decide)]; exact hVl
  have hc_18 : w_7 87 = .inl (cJ, 17, .inr (.inl plf)) := by rw [hu_6, va_up_ne _ _ (by decide)]; exact hPl
  refine lv_if_eq (tgt := 43) hx hb dX5_share_38 (by decide) (fun q_19 => ?_) (fun q_19 => absurd (by decide) q_19)
  obtain ⟨e1, e2⟩ := hcs i hi1 hi2 hdl
  refine lv_aload_n hx hb dX5_share_43 rfl (lv_at hl 0 rfl) ?_
  refine gf_X5_23 hx hb hts hown hw (by decide) hc_8 rfl dX5_share_44 ?_
  refine lv_bipush (v := nI 17) hx hb dX5_share_47 (by decide) ?_
  refine lv_iload_n hx hb dX5_share_49 rfl (lv_at hl 1 rfl) ?_
  refine t_imul hx hb dX5_share_50 (v := nI (17 * i)) (pk_mul _ _) ?_
  refine lv_iload_n hx hb dX5_share_51 rfl (lv_at hl 2 rfl) ?_
  refine t_iadd hx hb dX5_share_52 (v := nI (17 * i + k)) (nI_add _ _) ?_
  refine x_lald hx hb hw (by decide) 1 hc_13 rfl (j := 17 * i + k) (by omega) (by decide) (e2 k hk1 hk2) dX5_share_53 ?_
  refine lv_l2i hx hb dX5_share_54 (lN_i _) ?_
  have hfr : ∀ z, z ≠ 77 → w_7 z = w z := fun z hhfr0 => by rw [hu_6, va_up_ne _ _ hhfr0]
  exact x_wretI hx hb hr hlocks hw ⟨fun z hz => hfr z (by omega), RM.set77 hRM hfr hc_8⟩ dX5_share_55
set_option maxHeartbeats 4000000 in
set_option maxRecDepth 100000 in
theorem m_shareA (l : Launch) {D : va_G} {cI cJ cZ cD : ClassId} {ad : Nat → Nat} {w : Nat → va_E} {sz : Nat} (n t cl qu en kp : Nat) (dl ou cp ks pt : Nat → Nat) (co sh : Nat → Nat → Nat) (vs : Nat → Int64) (cd : Int32) (hok : OkS n t cl qu en kp dl ou cp ks pt co sh) (hRM : RM ad cJ cZ w cd n t cl qu en kp dl ou cp ks pt co sh vs) (x y : Int32) (hbad : ¬ (isNd n x ∧ isNd n y))  : MW l yX5_share (.code yX5_share cX5_share 3 (some .int)) ({ frames := 1, cells := 0, slots := 0, locals := 29 }) [.ref (ad 77), .int x, .int y] D (tyL cI cJ cZ cD) ad 89 w sz (some (.int (nI 0))) (fun u => (∀ z, z < 77 ∨ 87 < z → u z = w z) ∧ RM ad cJ cZ u (nI 1) n t cl qu en kp dl ou cp ks pt co sh vs) := by
  refine MW.of (by decide) (Nat.le_of_ble_eq_true rfl) ?_
  intro p e s m below meth c ls hC hr hlocks hl hw
  obtain ⟨hx, hb, hml, hown, hts⟩ := id hC
  have hA : ∀ q, s.heap.size ≤ q → xA ad 89 s.heap.size q := fun q h => Or.inr h
  have hl : lv_has ls 3 [(0, .ref (ad 77)), (1, .int x), (2, .int y)] := hl
  obtain ⟨⟨hs, hM⟩, ⟨dz, oz, hDz, hOz, hdo⟩, ⟨cf, mf, sf, hCf, hMf, hSf, hcs⟩, ⟨xf, hXf, hxx⟩, ⟨kyf, swf, hKy, hSw, hks⟩, ⟨vlf, hVl, hvl⟩, ⟨plf, hPl, hpl⟩⟩ := id hRM
  obtain ⟨⟨hn, ht, hcl, hqu, hen, hkp⟩, hle, ⟨hqb, hkb, hcb⟩, hvals, hclv, hptl, ⟨hz1, hz2, hz3⟩⟩ := id hok
  by_cases c1 : isNd n x
  · skip
    obtain ⟨i, hi1, hi2, rfl⟩ := isNd_of hn c1
    refine lv_aload_n hx hb dX5_share_0 rfl (lv_at hl 0 rfl) ?_
    refine lv_aload_n hx hb dX5_share_1 rfl (lv_at hl 0 rfl) ?_
    refine lv_iload_n hx hb dX5_share_2 rfl (lv_at hl 1 rfl) ?_
    refine x_callW1 (As := [.int (nI i)]) (rest := [.ref (ad 77)]) hC vf_X5_84 hw hA (by decide) hM rfl rfl (k5_isNode l _ _ _ _ _ _ _ _ hn i hi1 hi2 hM) ⟨rfl, rfl, Nat.le_of_ble_eq_true rfl, Nat.le_of_ble_eq_true rfl⟩ hl.1 (Nat.le_of_ble_eq_true rfl) dX5_share_3 ⟨Nat.zero_le _, Nat.zero_le _⟩ rfl (fun w_1 H locs hu hw => ?_)
    rw [hu] at hw
    refine lv_if_eq (tgt := 17) hx hb dX5_share_6 (by decide) (fun q_2 => absurd q_2 (by decide)) (fun q_2 => ?_)
    refine lv_aload_n hx hb dX5_share_9 rfl (lv_at hl 0 rfl) ?_
    refine lv_iload_n hx hb dX5_share_10 rfl (lv_at hl 2 rfl) ?_
    refine x_callW1 (As := [.int y]) (rest := [.ref (ad 77)]) hC vf_X5_84 hw hA (by decide) hM rfl rfl (k5_isNodeN l _ _ _ _ _ _ _ _ y (fun q => hbad ⟨c1, q⟩) hM) ⟨rfl, rfl, Nat.le_of_ble_eq_true rfl, Nat.le_of_ble_eq_true rfl⟩ hl.1 (Nat.le_of_ble_eq_true rfl) dX5_share_11 ⟨Nat.zero_le _, Nat.zero_le _⟩ rfl (fun w_3 H locs hu hw => ?_)
    rw [hu] at hw
    refine lv_if_ne (tgt := 21) hx hb dX5_share_14 (by decide) (fun q_4 => absurd (by decide) q_4) (fun q_4 => ?_)
    refine lv_iconst (v := nI 1) hx hb dX5_share_17 (by decide) ?_
    refine lv_goto (tgt := 35) hx hb dX5_share_18 (by decide) ?_
    refine x_callW1 (As := [.int (nI 1)]) (rest := []) hC vf_X5_64 hw hA (by decide) hM rfl rfl (k5_refuses1 l _ _ _ _ _ _ _ _ hM) ⟨rfl, rfl, Nat.le_of_ble_eq_true rfl, Nat.le_of_ble_eq_true rfl⟩ hl.1 (Nat.le_of_ble_eq_true rfl) dX5_share_35 ⟨Nat.zero_le _, Nat.zero_le _⟩ rfl (fun w_6 H locs hu_5 hw => ?_)
    have hc_7 : w_6 77 = .inr (4, [.int (nI 1), .int (nI n), .int (nI t), .int (nI cl), .ref (ad 78), .ref (ad 79), .ref (ad 80), .ref (ad 81), .ref (ad 82), .ref (ad 83), .int (nI qu), .ref (ad 84), .ref (ad 85), .ref (ad 86), .int (nI en), .int (nI kp), .ref (ad 87), .long hs]) := by rw [hu_5]; exact va_up_self _ _ _
    have hc_8 : w_6 78 = .inl (cZ, 17, .inl dz) := by rw [hu_5, va_up_ne _ _ (by decide)]; exact hDz
    have hc_9 : w_6 79 = .inl (cZ, 17, .inl oz) := by rw [hu_5, va_up_ne _ _ (by decide)]; exact hOz
    have hc_10 : w_6 80 = .inl (cJ, 289, .inr (.inl cf)) := by rw [hu_5, va_up_ne _ _ (by decide)]; exact hCf
    have hc_11 : w_6 81 = .inl (cJ, 289, .inr (.inl mf)) := by rw [hu_5, va_up_ne _ _ (by decide)]; exact hMf
    have hc_12 : w_6 82 = .inl (cJ, 289, .inr (.inl sf)) := by rw [hu_5, va_up_ne _ _ (by decide)]; exact hSf
    have hc_13 : w_6 83 = .inl (cZ, 289, .inl xf) := by rw [hu_5, va_up_ne _ _ (by decide)]; exact hXf
    have hc_14 : w_6 84 = .inl (cJ, 17, .inr (.inl kyf)) := by rw [hu_5, va_up_ne _ _ (by decide)]; exact hKy
    have hc_15 : w_6 85 = .inl (cJ, 17, .inr (.inl swf)) := by rw [hu_5, va_up_ne _ _ (by decide)]; exact hSw
    have hc_16 : w_6 86 = .inl (cJ, 301, .inr (.inl vlf)) := by rw [hu_5, va_up_ne _ _ (by decide)]; exact hVl
    have hc_17 : w_6 87 = .inl (cJ, 17, .inr (.inl plf)) := by rw [hu_5, va_up_ne _ _ (by decide)]; exact hPl
    refine lv_if_eq (tgt := 43) hx hb dX5_share_38 (by decide) (fun q_18 => absurd q_18 (by decide)) (fun q_18 => ?_)
    refine lv_iconst (v := nI 0) hx hb dX5_share_41 (by decide) ?_
    have hfr : ∀ z, z ≠ 77 → w_6 z = w z := fun z hhfr0 => by rw [hu_5, va_up_ne _ _ hhfr0]
    exact x_wretI hx hb hr hlocks hw ⟨fun z hz => hfr z (by omega), RM.set77 hRM hfr hc_7⟩ dX5_share_42
  · skip
    refine lv_aload_n hx hb dX5_share_0 rfl (lv_at hl 0 rfl) ?_
    refine lv_aload_n hx hb dX5_share_1 rfl (lv_at hl 0 rfl) ?_
    refine lv_iload_n hx hb dX5_share_2 rfl (lv_at hl 1 rfl) ?_
    refine x_callW1 (As := [.int x]) (rest := [.ref (ad 77)]) hC vf_X5_84 hw hA (by decide) hM rfl rfl (k5_isNodeN l _ _ _ _ _ _ _ _ x c1 hM) ⟨rfl, rfl, Nat.le_of_ble_eq_true rfl, Nat.le_of_ble_eq_true rfl⟩ hl.1 (Nat.le_of_ble_eq_true rfl) dX5_share_3 ⟨Nat.zero_le _, Nat.zero_le _⟩ rfl (fun w_19 H locs hu hw => ?_)
    rw [hu] at hw
    refine lv_if_eq (tgt := 17) hx hb dX5_share_6 (by decide) (fun q_20 => ?_) (fun q_20 => absurd (by decide) q_20)
    refine lv_iconst (v := nI 1) hx hb dX5_share_17 (by decide) ?_
    refine lv_goto (tgt := 35) hx hb dX5_share_18 (by decide) ?_
    refine x_callW1 (As := [.int (nI 1)]) (rest := []) hC vf_X5_64 hw hA (by decide) hM rfl rfl (k5_refuses1 l _ _ _ _ _ _ _ _ hM) ⟨rfl, rfl, Nat.le_of_ble_eq_true rfl, Nat.le_of_ble_eq_true rfl⟩ hl.1 (Nat.le_of_ble_eq_true rfl) dX5_share_35 ⟨Nat.zero_le _, Nat.zero_le _⟩ rfl (fun w_22 H locs hu_21 hw => ?_)
    have hc_23 : w_22 77 = .inr (4, [.int (nI 1), .int (nI n), .int (nI t), .int (nI cl), .ref (ad 78), .ref (ad 79), .ref (ad 80), .ref (ad 81), .ref (ad 82), .ref (ad 83), .int (nI qu), .ref (ad 84), .ref (ad 85), .ref (ad 86), .int (nI en), .int (nI kp), .ref (ad 87), .long hs]) := by rw [hu_21]; exact va_up_self _ _ _
    have hc_24 : w_22 78 = .inl (cZ, 17, .inl dz) := by rw [hu_21, va_up_ne _ _ (by decide)]; exact hDz
    have hc_25 : w_22 79 = .inl (cZ, 17, .inl oz) := by rw [hu_21, va_up_ne _ _ (by decide)]; exact hOz
    have hc_26 : w_22 80 = .inl (cJ, 289, .inr (.inl cf)) := by rw [hu_21, va_up_ne _ _ (by decide)]; exact hCf
    have hc_27 : w_22 81 = .inl (cJ, 289, .inr (.inl mf)) := by rw [hu_21, va_up_ne _ _ (by decide)]; exact hMf
    have hc_28 : w_22 82 = .inl (cJ, 289, .inr (.inl sf)) := by rw [hu_21, va_up_ne _ _ (by decide)]; exact hSf
    have hc_29 : w_22 83 = .inl (cZ, 289, .inl xf) := by rw [hu_21, va_up_ne _ _ (by decide)]; exact hXf
    have hc_30 : w_22 84 = .inl (cJ, 17, .inr (.inl kyf)) := by rw [hu_21, va_up_ne _ _ (by decide)]; exact hKy
    have hc_31 : w_22 85 = .inl (cJ, 17, .inr (.inl swf)) := by rw [hu_21, va_up_ne _ _ (by decide)]; exact hSw
    have hc_32 : w_22 86 = .inl (cJ, 301, .inr (.inl vlf)) := by rw [hu_21, va_up_ne _ _ (by decide)]; exact hVl
    have hc_33 : w_22 87 = .inl (cJ, 17, .inr (.inl plf)) := by rw [hu_21, va_up_ne _ _ (by decide)]; exact hPl
    refine lv_if_eq (tgt := 43) hx hb dX5_share_38 (by decide) (fun q_34 => absurd q_34 (by decide)) (fun q_34 => ?_)
    refine lv_iconst (v := nI 0) hx hb dX5_share_41 (by decide) ?_
    have hfr : ∀ z, z ≠ 77 → w_22 z = w z := fun z hhfr0 => by rw [hu_21, va_up_ne _ _ hhfr0]
    exact x_wretI hx hb hr hlocks hw ⟨fun z hz => hfr z (by omega), RM.set77 hRM hfr hc_23⟩ dX5_share_42
set_option maxHeartbeats 4000000 in
set_option maxRecDepth 100000 in
theorem m_shareS (l : Launch) {D : va_G} {cI cJ cZ cD : ClassId} {ad : Nat → Nat} {w : Nat → va_E} {sz : Nat} (n t cl qu en kp : Nat) (dl ou cp ks pt : Nat → Nat) (co sh : Nat → Nat → Nat) (vs : Nat → Int64) (cd : Int32) (hok : OkS n t cl qu en kp dl ou cp ks pt co sh) (hRM : RM ad cJ cZ w cd n t cl qu en kp dl ou cp ks pt co sh vs) (i k : Nat) (hi1 : 1 ≤ i) (hi2 : i ≤ n) (hk1 : 1 ≤ k) (hk2 : k ≤ n) (hdl : dl i = 0)  : MW l yX5_share (.code yX5_share cX5_share 3 (some .int)) ({ frames := 1, cells := 0, slots := 0, locals := 29 }) [.ref (ad 77), .int (nI i), .int (nI k)] D (tyL cI cJ cZ cD) ad 89 w sz (some (.int (nI 0))) (fun u => (∀ z, z < 77 ∨ 87 < z → u z = w z) ∧ RM ad cJ cZ u (nI 2) n t cl qu en kp dl ou cp ks pt co sh vs) := by
  refine MW.of (by decide) (Nat.le_of_ble_eq_true rfl) ?_
  intro p e s m below meth c ls hC hr hlocks hl hw
  obtain ⟨hx, hb, hml, hown, hts⟩ := id hC
  have hA : ∀ q, s.heap.size ≤ q → xA ad 89 s.heap.size q := fun q h => Or.inr h
  have hl : lv_has ls 3 [(0, .ref (ad 77)), (1, .int (nI i)), (2, .int (nI k))] := hl
  obtain ⟨⟨hs, hM⟩, ⟨dz, oz, hDz, hOz, hdo⟩, ⟨cf, mf, sf, hCf, hMf, hSf, hcs⟩, ⟨xf, hXf, hxx⟩, ⟨kyf, swf, hKy, hSw, hks⟩, ⟨vlf, hVl, hvl⟩, ⟨plf, hPl, hpl⟩⟩ := id hRM
  obtain ⟨⟨hn, ht, hcl, hqu, hen, hkp⟩, hle, ⟨hqb, hkb, hcb⟩, hvals, hclv, hptl, ⟨hz1, hz2, hz3⟩⟩ := id hok
  refine lv_aload_n hx hb dX5_share_0 rfl (lv_at hl 0 rfl) ?_
  refine lv_aload_n hx hb dX5_share_1 rfl (lv_at hl 0 rfl) ?_
  refine lv_iload_n hx hb dX5_share_2 rfl (lv_at hl 1 rfl) ?_
  refine x_callW1 (As := [.int (nI i)]) (rest := [.ref (ad 77)]) hC vf_X5_84 hw hA (by decide) hM rfl rfl (k5_isNode l _ _ _ _ _ _ _ _ hn i hi1 hi2 hM) ⟨rfl, rfl, Nat.le_of_ble_eq_true rfl, Nat.le_of_ble_eq_true rfl⟩ hl.1 (Nat.le_of_ble_eq_true rfl) dX5_share_3 ⟨Nat.zero_le _, Nat.zero_le _⟩ rfl (fun w_1 H locs hu hw => ?_)
  rw [hu] at hw
  refine lv_if_eq (tgt := 17) hx hb dX5_share_6 (by decide) (fun q_2 => absurd q_2 (by decide)) (fun q_2 => ?_)
  refine lv_aload_n hx hb dX5_share_9 rfl (lv_at hl 0 rfl) ?_
  refine lv_iload_n hx hb dX5_share_10 rfl (lv_at hl 2 rfl) ?_
  refine x_callW1 (As := [.int (nI k)]) (rest := [.ref (ad 77)]) hC vf_X5_84 hw hA (by decide) hM rfl rfl (k5_isNode l _ _ _ _ _ _ _ _ hn k hk1 hk2 hM) ⟨rfl, rfl, Nat.le_of_ble_eq_true rfl, Nat.le_of_ble_eq_true rfl⟩ hl.1 (Nat.le_of_ble_eq_true rfl) dX5_share_11 ⟨Nat.zero_le _, Nat.zero_le _⟩ rfl (fun w_3 H locs hu hw => ?_)
  rw [hu] at hw
  refine lv_if_ne (tgt := 21) hx hb dX5_share_14 (by decide) (fun q_4 => ?_) (fun q_4 => absurd q_4 (by decide))
  refine lv_aload_n hx hb dX5_share_21 rfl (lv_at hl 0 rfl) ?_
  refine gf_X5_7 hx hb hts hown hw (by decide) hM rfl dX5_share_22 ?_
  refine lv_iload_n hx hb dX5_share_25 rfl (lv_at hl 1 rfl) ?_
  refine x_zald hx hb hw (by decide) 2 hDz rfl (j := i) (by omega) (by decide) (by rw [(hdo i (by omega)).1, hdl]) dX5_share_26 ?_
  refine lv_if_ne (tgt := 34) hx hb dX5_share_27 (by decide) (fun q_5 => absurd (by decide) q_5) (fun q_5 => ?_)
  refine lv_iconst (v := nI 2) hx hb dX5_share_30 (by decide) ?_
  refine lv_goto (tgt := 35) hx hb dX5_share_31 (by decide) ?_
  refine x_callW1 (As := [.int (nI 2)]) (rest := []) hC vf_X5_64 hw hA (by decide) hM rfl rfl (k5_refuses2 l _ _ _ _ _ _ _ _ hM) ⟨rfl, rfl, Nat.le_of_ble_eq_true rfl, Nat.le_of_ble_eq_true rfl⟩ hl.1 (Nat.le_of_ble_eq_true rfl) dX5_share_35 ⟨Nat.zero_le _, Nat.zero_le _⟩ rfl (fun w_7 H locs hu_6 hw => ?_)
  have hc_8 : w_7 77 = .inr (4, [.int (nI 2), .int (nI n), .int (nI t), .int (nI cl), .ref (ad 78), .ref (ad 79), .ref (ad 80), .ref (ad 81), .ref (ad 82), .ref (ad 83), .int (nI qu), .ref (ad 84), .ref (ad 85), .ref (ad 86), .int (nI en), .int (nI kp), .ref (ad 87), .long hs]) := by rw [hu_6]; exact va_up_self _ _ _
  have hc_9 : w_7 78 = .inl (cZ, 17, .inl dz) := by rw [hu_6, va_up_ne _ _ (by decide)]; exact hDz
  have hc_10 : w_7 79 = .inl (cZ, 17, .inl oz) := by rw [hu_6, va_up_ne _ _ (by decide)]; exact hOz
  have hc_11 : w_7 80 = .inl (cJ, 289, .inr (.inl cf)) := by rw [hu_6, va_up_ne _ _ (by decide)]; exact hCf
  have hc_12 : w_7 81 = .inl (cJ, 289, .inr (.inl mf)) := by rw [hu_6, va_up_ne _ _ (by decide)]; exact hMf
  have hc_13 : w_7 82 = .inl (cJ, 289, .inr (.inl sf)) := by rw [hu_6, va_up_ne _ _ (by decide)]; exact hSf
  have hc_14 : w_7 83 = .inl (cZ, 289, .inl xf) := by rw [hu_6, va_up_ne _ _ (by decide)]; exact hXf
  have hc_15 : w_7 84 = .inl (cJ, 17, .inr (.inl kyf)) := by rw [hu_6, va_up_ne _ _ (by decide)]; exact hKy
  have hc_16 : w_7 85 = .inl (cJ, 17, .inr (.inl swf)) := by rw [hu_6, va_up_ne _ _ (by decide)]; exact hSw
  have hc_17 : w_7 86 = .inl (cJ, 301, .inr (.inl vlf)) := by rw [hu_6, va_up_ne _ _ (by decide)]; exact hVl
  have hc_18 : w_7 87 = .inl (cJ, 17, .inr (.inl plf)) := by rw [hu_6, va_up_ne _ _ (by decide)]; exact hPl
  refine lv_if_eq (tgt := 43) hx hb dX5_share_38 (by decide) (fun q_19 => absurd q_19 (by decide)) (fun q_19 => ?_)
  refine lv_iconst (v := nI 0) hx hb dX5_share_41 (by decide) ?_
  have hfr : ∀ z, z ≠ 77 → w_7 z = w z := fun z hhfr0 => by rw [hu_6, va_up_ne _ _ hhfr0]
  exact x_wretI hx hb hr hlocks hw ⟨fun z hz => hfr z (by omega), RM.set77 hRM hfr hc_8⟩ dX5_share_42
set_option maxHeartbeats 4000000 in
set_option maxRecDepth 100000 in
theorem m_isRightA (l : Launch) {D : va_G} {cI cJ cZ cD : ClassId} {ad : Nat → Nat} {w : Nat → va_E} {sz : Nat} (n t cl qu en kp : Nat) (dl ou cp ks pt : Nat → Nat) (co sh : Nat → Nat → Nat) (vs : Nat → Int64) (cd : Int32) (hok : OkS n t cl qu en kp dl ou cp ks pt co sh) (hRM : RM ad cJ cZ w cd n t cl qu en kp dl ou cp ks pt co sh vs) (x y z : Int32) (hbad : ¬ (isNd n x ∧ isNd n y ∧ isEx z))  : MW l yX5_isRight (.code yX5_isRight cX5_isRight 5 (some .boolean)) ({ frames := 1, cells := 0, slots := 0, locals := 35 }) [.ref (ad 77), .int x, .int y, .int z] D (tyL cI cJ cZ cD) ad 89 w sz (some (.int (nI 0))) (fun u => (∀ z, z < 77 ∨ 87 < z → u z = w z) ∧ RM ad cJ cZ u (nI 1) n t cl qu en kp dl ou cp ks pt co sh vs) := by
  refine MW.of (by decide) (Nat.le_of_ble_eq_true rfl) ?_
  intro p e s m below meth c ls hC hr hlocks hl hw
  obtain ⟨hx, hb, hml, hown, hts⟩ := id hC
  have hA : ∀ q, s.heap.size ≤ q → xA ad 89 s.heap.size q := fun q h => Or.inr h
  have hl : lv_has ls 5 [(0, .ref (ad 77)), (1, .int x), (2, .int y), (3, .int z)] := hl
  obtain ⟨⟨hs, hM⟩, ⟨dz, oz, hDz, hOz, hdo⟩, ⟨cf, mf, sf, hCf, hMf, hSf, hcs⟩, ⟨xf, hXf, hxx⟩, ⟨kyf, swf, hKy, hSw, hks⟩, ⟨vlf, hVl, hvl⟩, ⟨plf, hPl, hpl⟩⟩ := id hRM
  obtain ⟨⟨hn, ht, hcl, hqu, hen, hkp⟩, hle, ⟨hqb, hkb, hcb⟩, hvals, hclv, hptl, ⟨hz1, hz2, hz3⟩⟩ := id hok
  by_cases c1 : isNd n x
  · skip
    obtain ⟨i, hi1, hi2, rfl⟩ := isNd_of hn c1
    refine lv_aload_n hx hb dX5_isRight_0 rfl (lv_at hl 0 rfl) ?_
    refine lv_iload_n hx hb dX5_isRight_1 rfl (lv_at hl 1 rfl) ?_
    refine x_callW1 (As := [.int (nI i)]) (rest := []) hC vf_X5_84 hw hA (by decide) hM rfl rfl (k5_isNode l _ _ _ _ _ _ _ _ hn i hi1 hi2 hM) ⟨rfl, rfl, Nat.le_of_ble_eq_true rfl, Nat.le_of_ble_eq_true rfl⟩ hl.1 (Nat.le_of_ble_eq_true rfl) dX5_isRight_2 ⟨Nat.zero_le _, Nat.zero_le _⟩ rfl (fun w_1 H locs hu hw => ?_)
    rw [hu] at hw
    refine lv_if_eq (tgt := 27) hx hb dX5_isRight_5 (by decide) (fun q_2 => absurd q_2 (by decide)) (fun q_2 => ?_)
    by_cases c2 : isNd n y
    · skip
      obtain ⟨k, hk1, hk2, rfl⟩ := isNd_of hn c2
      refine lv_aload_n hx hb dX5_isRight_8 rfl (lv_at hl 0 rfl) ?_
      refine lv_iload_n hx hb dX5_isRight_9 rfl (lv_at hl 2 rfl) ?_
      refine x_callW1 (As := [.int (nI k)]) (rest := []) hC vf_X5_84 hw hA (by decide) hM rfl rfl (k5_isNode l _ _ _ _ _ _ _ _ hn k hk1 hk2 hM) ⟨rfl, rfl, Nat.le_of_ble_eq_true rfl, Nat.le_of_ble_eq_true rfl⟩ hl.1 (Nat.le_of_ble_eq_true rfl) dX5_isRight_10 ⟨Nat.zero_le _, Nat.zero_le _⟩ rfl (fun w_3 H locs hu hw => ?_)
      rw [hu] at hw
      refine lv_if_eq (tgt := 27) hx hb dX5_isRight_13 (by decide) (fun q_4 => absurd q_4 (by decide)) (fun q_4 => ?_)
      refine lv_iload_n hx hb dX5_isRight_16 rfl (lv_at hl 3 rfl) ?_
      refine x_callS (As := [.int z]) (rest := []) hC sf_X5_103 (k5_isExponentN l z (by by_cases h : z < 0; exact Or.inl h; exact Or.inr (Classical.byContradiction (fun q => hbad ⟨c1, c2, h, q⟩)))) ⟨rfl, rfl, Nat.le_of_ble_eq_true rfl, Nat.le_of_ble_eq_true rfl⟩ hl.1 (Nat.le_of_ble_eq_true rfl) dX5_isRight_17 ⟨Nat.zero_le _, Nat.zero_le _⟩ rfl ?_
      refine lv_if_eq (tgt := 27) hx hb dX5_isRight_20 (by decide) (fun q_5 => ?_) (fun q_5 => absurd (by decide) q_5)
      refine lv_iconst (v := nI 0) hx hb dX5_isRight_27 (by decide) ?_
      refine lv_istore (lv' := [(4, .int (nI 0)), (0, .ref (ad 77)), (1, .int (nI i)), (2, .int (nI k)), (3, .int z)]) hx hb dX5_isRight_28 hl (by decide) rfl (fun ls hl => ?_)
      refine lv_aload_n hx hb dX5_isRight_30 rfl (lv_at hl 1 rfl) ?_
      refine lv_iload hx hb dX5_isRight_31 (lv_at hl 0 rfl) ?_
      refine lv_if_ne (tgt := 40) hx hb dX5_isRight_33 (by decide) (fun q_6 => absurd (by decide) q_6) (fun q_6 => ?_)
      refine lv_iconst (v := nI 1) hx hb dX5_isRight_36 (by decide) ?_
      refine lv_goto (tgt := 54) hx hb dX5_isRight_37 (by decide) ?_
      refine x_callW1 (As := [.int (nI 1)]) (rest := []) hC vf_X5_64 hw hA (by decide) hM rfl rfl (k5_refuses1 l _ _ _ _ _ _ _ _ hM) ⟨rfl, rfl, Nat.le_of_ble_eq_true rfl, Nat.le_of_ble_eq_true rfl⟩ hl.1 (Nat.le_of_ble_eq_true rfl) dX5_isRight_54 ⟨Nat.zero_le _, Nat.zero_le _⟩ rfl (fun w_8 H locs hu_7 hw => ?_)
      have hc_9 : w_8 77 = .inr (4, [.int (nI 1), .int (nI n), .int (nI t), .int (nI cl), .ref (ad 78), .ref (ad 79), .ref (ad 80), .ref (ad 81), .ref (ad 82), .ref (ad 83), .int (nI qu), .ref (ad 84), .ref (ad 85), .ref (ad 86), .int (nI en), .int (nI kp), .ref (ad 87), .long hs]) := by rw [hu_7]; exact va_up_self _ _ _
      have hc_10 : w_8 78 = .inl (cZ, 17, .inl dz) := by rw [hu_7, va_up_ne _ _ (by decide)]; exact hDz
      have hc_11 : w_8 79 = .inl (cZ, 17, .inl oz) := by rw [hu_7, va_up_ne _ _ (by decide)]; exact hOz
      have hc_12 : w_8 80 = .inl (cJ, 289, .inr (.inl cf)) := by rw [hu_7, va_up_ne _ _ (by decide)]; exact hCf
      have hc_13 : w_8 81 = .inl (cJ, 289, .inr (.inl mf)) := by rw [hu_7, va_up_ne _ _ (by decide)]; exact hMf
      have hc_14 : w_8 82 = .inl (cJ, 289, .inr (.inl sf)) := by rw [hu_7, va_up_ne _ _ (by decide)]; exact hSf
      have hc_15 : w_8 83 = .inl (cZ, 289, .inl xf) := by rw [hu_7, va_up_ne _ _ (by decide)]; exact hXf
      have hc_16 : w_8 84 = .inl (cJ, 17, .inr (.inl kyf)) := by rw [hu_7, va_up_ne _ _ (by decide)]; exact hKy
      have hc_17 : w_8 85 = .inl (cJ, 17, .inr (.inl swf)) := by rw [hu_7, va_up_ne _ _ (by decide)]; exact hSw
      have hc_18 : w_8 86 = .inl (cJ, 301, .inr (.inl vlf)) := by rw [hu_7, va_up_ne _ _ (by decide)]; exact hVl
      have hc_19 : w_8 87 = .inl (cJ, 17, .inr (.inl plf)) := by rw [hu_7, va_up_ne _ _ (by decide)]; exact hPl
      refine lv_if_ne (tgt := 76) hx hb dX5_isRight_57 (by decide) (fun q_20 => ?_) (fun q_20 => absurd q_20 (by decide))
      refine lv_iconst (v := nI 0) hx hb dX5_isRight_76 (by decide) ?_
      have hfr : ∀ z, z ≠ 77 → w_8 z = w z := fun z hhfr0 => by rw [hu_7, va_up_ne _ _ hhfr0]
      exact x_wretZ hx hb hr hlocks (by decide) hw ⟨fun z hz => hfr z (by omega), RM.set77 hRM hfr hc_9⟩ dX5_isRight_77
    · skip
      refine lv_aload_n hx hb dX5_isRight_8 rfl (lv_at hl 0 rfl) ?_
      refine lv_iload_n hx hb dX5_isRight_9 rfl (lv_at hl 2 rfl) ?_
      refine x_callW1 (As := [.int y]) (rest := []) hC vf_X5_84 hw hA (by decide) hM rfl rfl (k5_isNodeN l _ _ _ _ _ _ _ _ y c2 hM) ⟨rfl, rfl, Nat.le_of_ble_eq_true rfl, Nat.le_of_ble_eq_true rfl⟩ hl.1 (Nat.le_of_ble_eq_true rfl) dX5_isRight_10 ⟨Nat.zero_le _, Nat.zero_le _⟩ rfl (fun w_21 H locs hu hw => ?_)
      rw [hu] at hw
      refine lv_if_eq (tgt := 27) hx hb dX5_isRight_13 (by decide) (fun q_22 => ?_) (fun q_22 => absurd (by decide) q_22)
      refine lv_iconst (v := nI 0) hx hb dX5_isRight_27 (by decide) ?_
      refine lv_istore (lv' := [(4, .int (nI 0)), (0, .ref (ad 77)), (1, .int (nI i)), (2, .int y), (3, .int z)]) hx hb dX5_isRight_28 hl (by decide) rfl (fun ls hl => ?_)
      refine lv_aload_n hx hb dX5_isRight_30 rfl (lv_at hl 1 rfl) ?_
      refine lv_iload hx hb dX5_isRight_31 (lv_at hl 0 rfl) ?_
      refine lv_if_ne (tgt := 40) hx hb dX5_isRight_33 (by decide) (fun q_23 => absurd (by decide) q_23) (fun q_23 => ?_)
      refine lv_iconst (v := nI 1) hx hb dX5_isRight_36 (by decide) ?_
      refine lv_goto (tgt := 54) hx hb dX5_isRight_37 (by decide) ?_
      refine x_callW1 (As := [.int (nI 1)]) (rest := []) hC vf_X5_64 hw hA (by decide) hM rfl rfl (k5_refuses1 l _ _ _ _ _ _ _ _ hM) ⟨rfl, rfl, Nat.le_of_ble_eq_true rfl, Nat.le_of_ble_eq_true rfl⟩ hl.1 (Nat.le_of_ble_eq_true rfl) dX5_isRight_54 ⟨Nat.zero_le _, Nat.zero_le _⟩ rfl (fun w_25 H locs hu_24 hw => ?_)
      have hc_26 : w_25 77 = .inr (4, [.int (nI 1), .int (nI n), .int (nI t), .int (nI cl), .ref (ad 78), .ref (ad 79), .ref (ad 80), .ref (ad 81), .ref (ad 82), .ref (ad 83), .int (nI qu), .ref (ad 84), .ref (ad 85), .ref (ad 86), .int (nI en), .int (nI kp), .ref (ad 87), .long hs]) := by rw [hu_24]; exact va_up_self _ _ _
      have hc_27 : w_25 78 = .inl (cZ, 17, .inl dz) := by rw [hu_24, va_up_ne _ _ (by decide)]; exact hDz
      have hc_28 : w_25 79 = .inl (cZ, 17, .inl oz) := by rw [hu_24, va_up_ne _ _ (by decide)]; exact hOz
      have hc_29 : w_25 80 = .inl (cJ, 289, .inr (.inl cf)) := by rw [hu_24, va_up_ne _ _ (by decide)]; exact hCf
      have hc_30 : w_25 81 = .inl (cJ, 289, .inr (.inl mf)) := by rw [hu_24, va_up_ne _ _ (by decide)]; exact hMf
      have hc_31 : w_25 82 = .inl (cJ, 289, .inr (.inl sf)) := by rw [hu_24, va_up_ne _ _ (by decide)]; exact hSf
      have hc_32 : w_25 83 = .inl (cZ, 289, .inl xf) := by rw [hu_24, va_up_ne _ _ (by decide)]; exact hXf
      have hc_33 : w_25 84 = .inl (cJ, 17, .inr (.inl kyf)) := by rw [hu_24, va_up_ne _ _ (by decide)]; exact hKy
      have hc_34 : w_25 85 = .inl (cJ, 17, .inr (.inl swf)) := by rw [hu_24, va_up_ne _ _ (by decide)]; exact hSw
      have hc_35 : w_25 86 = .inl (cJ, 301, .inr (.inl vlf)) := by rw [hu_24, va_up_ne _ _ (by decide)]; exact hVl
      have hc_36 : w_25 87 = .inl (cJ, 17, .inr (.inl plf)) := by rw [hu_24, va_up_ne _ _ (by decide)]; exact hPl
      refine lv_if_ne (tgt := 76) hx hb dX5_isRight_57 (by decide) (fun q_37 => ?_) (fun q_37 => absurd q_37 (by decide))
      refine lv_iconst (v := nI 0) hx hb dX5_isRight_76 (by decide) ?_
      have hfr : ∀ z, z ≠ 77 → w_25 z = w z := fun z hhfr0 => by rw [hu_24, va_up_ne _ _ hhfr0]
      exact x_wretZ hx hb hr hlocks (by decide) hw ⟨fun z hz => hfr z (by omega), RM.set77 hRM hfr hc_26⟩ dX5_isRight_77
  · skip
    refine lv_aload_n hx hb dX5_isRight_0 rfl (lv_at hl 0 rfl) ?_
    refine lv_iload_n hx hb dX5_isRight_1 rfl (lv_at hl 1 rfl) ?_
    refine x_callW1 (As := [.int x]) (rest := []) hC vf_X5_84 hw hA (by decide) hM rfl rfl (k5_isNodeN l _ _ _ _ _ _ _ _ x c1 hM) ⟨rfl, rfl, Nat.le_of_ble_eq_true rfl, Nat.le_of_ble_eq_true rfl⟩ hl.1 (Nat.le_of_ble_eq_true rfl) dX5_isRight_2 ⟨Nat.zero_le _, Nat.zero_le _⟩ rfl (fun w_38 H locs hu hw => ?_)
    rw [hu] at hw
    refine lv_if_eq (tgt := 27) hx hb dX5_isRight_5 (by decide) (fun q_39 => ?_) (fun q_39 => absurd (by decide) q_39)
    refine lv_iconst (v := nI 0) hx hb dX5_isRight_27 (by decide) ?_
    refine lv_istore (lv' := [(4, .int (nI 0)), (0, .ref (ad 77)), (1, .int x), (2, .int y), (3, .int z)]) hx hb dX5_isRight_28 hl (by decide) rfl (fun ls hl => ?_)
    refine lv_aload_n hx hb dX5_isRight_30 rfl (lv_at hl 1 rfl) ?_
    refine lv_iload hx hb dX5_isRight_31 (lv_at hl 0 rfl) ?_
    refine lv_if_ne (tgt := 40) hx hb dX5_isRight_33 (by decide) (fun q_40 => absurd (by decide) q_40) (fun q_40 => ?_)
    refine lv_iconst (v := nI 1) hx hb dX5_isRight_36 (by decide) ?_
    refine lv_goto (tgt := 54) hx hb dX5_isRight_37 (by decide) ?_
    refine x_callW1 (As := [.int (nI 1)]) (rest := []) hC vf_X5_64 hw hA (by decide) hM rfl rfl (k5_refuses1 l _ _ _ _ _ _ _ _ hM) ⟨rfl, rfl, Nat.le_of_ble_eq_true rfl, Nat.le_of_ble_eq_true rfl⟩ hl.1 (Nat.le_of_ble_eq_true rfl) dX5_isRight_54 ⟨Nat.zero_le _, Nat.zero_le _⟩ rfl (fun w_42 H locs hu_41 hw => ?_)
    have hc_43 : w_42 77 = .inr (4, [.int (nI 1), .int (nI n), .int (nI t), .int (nI cl), .ref (ad 78), .ref (ad 79), .ref (ad 80), .ref (ad 81), .ref (ad 82), .ref (ad 83), .int (nI qu), .ref (ad 84), .ref (ad 85), .ref (ad 86), .int (nI en), .int (nI kp), .ref (ad 87), .long hs]) := by rw [hu_41]; exact va_up_self _ _ _
    have hc_44 : w_42 78 = .inl (cZ, 17, .inl dz) := by rw [hu_41, va_up_ne _ _ (by decide)]; exact hDz
    have hc_45 : w_42 79 = .inl (cZ, 17, .inl oz) := by rw [hu_41, va_up_ne _ _ (by decide)]; exact hOz
    have hc_46 : w_42 80 = .inl (cJ, 289, .inr (.inl cf)) := by rw [hu_41, va_up_ne _ _ (by decide)]; exact hCf
    have hc_47 : w_42 81 = .inl (cJ, 289, .inr (.inl mf)) := by rw [hu_41, va_up_ne _ _ (by decide)]; exact hMf
    have hc_48 : w_42 82 = .inl (cJ, 289, .inr (.inl sf)) := by rw [hu_41, va_up_ne _ _ (by decide)]; exact hSf
    have hc_49 : w_42 83 = .inl (cZ, 289, .inl xf) := by rw [hu_41, va_up_ne _ _ (by decide)]; exact hXf
    have hc_50 : w_42 84 = .inl (cJ, 17, .inr (.inl kyf)) := by rw [hu_41, va_up_ne _ _ (by decide)]; exact hKy
    have hc_51 : w_42 85 = .inl (cJ, 17, .inr (.inl swf)) := by rw [hu_41, va_up_ne _ _ (by decide)]; exact hSw
    have hc_52 : w_42 86 = .inl (cJ, 301, .inr (.inl vlf)) := by rw [hu_41, va_up_ne _ _ (by decide)]; exact hVl
    have hc_53 : w_42 87 = .inl (cJ, 17, .inr (.inl plf)) := by rw [hu_41, va_up_ne _ _ (by decide)]; exact hPl
    refine lv_if_ne (tgt := 76) hx hb dX5_isRight_57 (by decide) (fun q_54 => ?_) (fun q_54 => absurd q_54 (by decide))
    refine lv_iconst (v := nI 0) hx hb dX5_isRight_76 (by decide) ?_
    have hfr : ∀ z, z ≠ 77 → w_42 z = w z := fun z hhfr0 => by rw [hu_41, va_up_ne _ _ hhfr0]
    exact x_wretZ hx hb hr hlocks (by decide) hw ⟨fun z hz => hfr z (by omega), RM.set77 hRM hfr hc_43⟩ dX5_isRight_77
set_option maxHeartbeats 4000000 in
set_option maxRecDepth 100000 in
theorem m_isRight (l : Launch) {D : va_G} {cI cJ cZ cD : ClassId} {ad : Nat → Nat} {w : Nat → va_E} {sz : Nat} (n t cl qu en kp : Nat) (dl ou cp ks pt : Nat → Nat) (co sh : Nat → Nat → Nat) (vs : Nat → Int64) (cd : Int32) (hok : OkS n t cl qu en kp dl ou cp ks pt co sh) (hRM : RM ad cJ cZ w cd n t cl qu en kp dl ou cp ks pt co sh vs) (i k : Nat) (hi1 : 1 ≤ i) (hi2 : i ≤ n) (hk1 : 1 ≤ k) (hk2 : k ≤ n) (x : Nat) (hx0 : x < 1073741789) (hdl : dl i = 1)  : MW l yX5_isRight (.code yX5_isRight cX5_isRight 5 (some .boolean)) ({ frames := 1, cells := 0, slots := 0, locals := 35 }) [.ref (ad 77), .int (nI i), .int (nI k), .int (nI x)] D (tyL cI cJ cZ cD) ad 89 w sz (some (.int (if x = rgt (co i) t k then nI 1 else nI 0))) (fun u => (∀ z, z < 77 ∨ 87 < z → u z = w z) ∧ RM ad cJ cZ u (nI 0) n t cl qu en kp dl ou cp ks pt co sh vs) := by
  refine MW.of (by decide) (Nat.le_of_ble_eq_true rfl) ?_
  intro p e s m below meth c ls hC hr hlocks hl hw
  obtain ⟨hx, hb, hml, hown, hts⟩ := id hC
  have hA : ∀ q, s.heap.size ≤ q → xA ad 89 s.heap.size q := fun q h => Or.inr h
  have hl : lv_has ls 5 [(0, .ref (ad 77)), (1, .int (nI i)), (2, .int (nI k)), (3, .int (nI x))] := hl
  obtain ⟨⟨hs, hM⟩, ⟨dz, oz, hDz, hOz, hdo⟩, ⟨cf, mf, sf, hCf, hMf, hSf, hcs⟩, ⟨xf, hXf, hxx⟩, ⟨kyf, swf, hKy, hSw, hks⟩, ⟨vlf, hVl, hvl⟩, ⟨plf, hPl, hpl⟩⟩ := id hRM
  obtain ⟨⟨hn, ht, hcl, hqu, hen, hkp⟩, hle, ⟨hqb, hkb, hcb⟩, hvals, hclv, hptl, ⟨hz1, hz2, hz3⟩⟩ := id hok
  refine lv_aload_n hx hb dX5_isRight_0 rfl (lv_at hl 0 rfl) ?_
  refine lv_iload_n hx hb dX5_isRight_1 rfl (lv_at hl 1 rfl) ?_
  refine x_callW1 (As := [.int (nI i)]) (rest := []) hC vf_X5_84 hw hA (by decide) hM rfl rfl (k5_isNode l _ _ _ _ _ _ _ _ hn i hi1 hi2 hM) ⟨rfl, rfl, Nat.le_of_ble_eq_true rfl, Nat.le_of_ble_eq_true rfl⟩ hl.1 (Nat.le_of_ble_eq_true rfl) dX5_isRight_2 ⟨Nat.zero_le _, Nat.zero_le _⟩ rfl (fun w_1 H locs hu hw => ?_)
  rw [hu] at hw
  refine lv_if_eq (tgt := 27) hx hb dX5_isRight_5 (by decide) (fun q_2 => absurd q_2 (by decide)) (fun q_2 => ?_)
  refine lv_aload_n hx hb dX5_isRight_8 rfl (lv_at hl 0 rfl) ?_
  refine lv_iload_n hx hb dX5_isRight_9 rfl (lv_at hl 2 rfl) ?_
  refine x_callW1 (As := [.int (nI k)]) (rest := []) hC vf_X5_84 hw hA (by decide) hM rfl rfl (k5_isNode l _ _ _ _ _ _ _ _ hn k hk1 hk2 hM) ⟨rfl, rfl, Nat.le_of_ble_eq_true rfl, Nat.le_of_ble_eq_true rfl⟩ hl.1 (Nat.le_of_ble_eq_true rfl) dX5_isRight_10 ⟨Nat.zero_le _, Nat.zero_le _⟩ rfl (fun w_3 H locs hu hw => ?_)
  rw [hu] at hw
  refine lv_if_eq (tgt := 27) hx hb dX5_isRight_13 (by decide) (fun q_4 => absurd q_4 (by decide)) (fun q_4 => ?_)
  refine lv_iload_n hx hb dX5_isRight_16 rfl (lv_at hl 3 rfl) ?_
  refine x_callS (As := [.int (nI x)]) (rest := []) hC sf_X5_103 (k5_isExponent l x hx0) ⟨rfl, rfl, Nat.le_of_ble_eq_true rfl, Nat.le_of_ble_eq_true rfl⟩ hl.1 (Nat.le_of_ble_eq_true rfl) dX5_isRight_17 ⟨Nat.zero_le _, Nat.zero_le _⟩ rfl ?_
  refine lv_if_eq (tgt := 27) hx hb dX5_isRight_20 (by decide) (fun q_5 => absurd q_5 (by decide)) (fun q_5 => ?_)
  refine lv_iconst (v := nI 1) hx hb dX5_isRight_23 (by decide) ?_
  refine lv_goto (tgt := 28) hx hb dX5_isRight_24 (by decide) ?_
  refine lv_istore (lv' := [(4, .int (nI 1)), (0, .ref (ad 77)), (1, .int (nI i)), (2, .int (nI k)), (3, .int (nI x))]) hx hb dX5_isRight_28 hl (by decide) rfl (fun ls hl => ?_)
  refine lv_aload_n hx hb dX5_isRight_30 rfl (lv_at hl 1 rfl) ?_
  refine lv_iload hx hb dX5_isRight_31 (lv_at hl 0 rfl) ?_
  refine lv_if_ne (tgt := 40) hx hb dX5_isRight_33 (by decide) (fun q_6 => ?_) (fun q_6 => absurd q_6 (by decide))
  refine lv_aload_n hx hb dX5_isRight_40 rfl (lv_at hl 1 rfl) ?_
  refine gf_X5_7 hx hb hts hown hw (by decide) hM rfl dX5_isRight_41 ?_
  refine lv_iload_n hx hb dX5_isRight_44 rfl (lv_at hl 2 rfl) ?_
  refine x_zald hx hb hw (by decide) 2 hDz rfl (j := i) (by omega) (by decide) (by rw [(hdo i (by omega)).1, hdl]) dX5_isRight_45 ?_
  refine lv_if_ne (tgt := 53) hx hb dX5_isRight_46 (by decide) (fun q_7 => ?_) (fun q_7 => absurd q_7 (by decide))
  refine lv_iconst (v := nI 0) hx hb dX5_isRight_53 (by decide) ?_
  refine x_callW1 (As := [.int (nI 0)]) (rest := []) hC vf_X5_64 hw hA (by decide) hM rfl rfl (k5_refuses0 l _ _ _ _ _ _ _ _ hM) ⟨rfl, rfl, Nat.le_of_ble_eq_true rfl, Nat.le_of_ble_eq_true rfl⟩ hl.1 (Nat.le_of_ble_eq_true rfl) dX5_isRight_54 ⟨Nat.zero_le _, Nat.zero_le _⟩ rfl (fun w_9 H locs hu_8 hw => ?_)
  have hc_10 : w_9 77 = .inr (4, [.int (nI 0), .int (nI n), .int (nI t), .int (nI cl), .ref (ad 78), .ref (ad 79), .ref (ad 80), .ref (ad 81), .ref (ad 82), .ref (ad 83), .int (nI qu), .ref (ad 84), .ref (ad 85), .ref (ad 86), .int (nI en), .int (nI kp), .ref (ad 87), .long hs]) := by rw [hu_8]; exact va_up_self _ _ _
  have hc_11 : w_9 78 = .inl (cZ, 17, .inl dz) := by rw [hu_8, va_up_ne _ _ (by decide)]; exact hDz
  have hc_12 : w_9 79 = .inl (cZ, 17, .inl oz) := by rw [hu_8, va_up_ne _ _ (by decide)]; exact hOz
  have hc_13 : w_9 80 = .inl (cJ, 289, .inr (.inl cf)) := by rw [hu_8, va_up_ne _ _ (by decide)]; exact hCf
  have hc_14 : w_9 81 = .inl (cJ, 289, .inr (.inl mf)) := by rw [hu_8, va_up_ne _ _ (by decide)]; exact hMf
  have hc_15 : w_9 82 = .inl (cJ, 289, .inr (.inl sf)) := by rw [hu_8, va_up_ne _ _ (by decide)]; exact hSf
  have hc_16 : w_9 83 = .inl (cZ, 289, .inl xf) := by rw [hu_8, va_up_ne _ _ (by decide)]; exact hXf
  have hc_17 : w_9 84 = .inl (cJ, 17, .inr (.inl kyf)) := by rw [hu_8, va_up_ne _ _ (by decide)]; exact hKy
  have hc_18 : w_9 85 = .inl (cJ, 17, .inr (.inl swf)) := by rw [hu_8, va_up_ne _ _ (by decide)]; exact hSw
  have hc_19 : w_9 86 = .inl (cJ, 301, .inr (.inl vlf)) := by rw [hu_8, va_up_ne _ _ (by decide)]; exact hVl
  have hc_20 : w_9 87 = .inl (cJ, 17, .inr (.inl plf)) := by rw [hu_8, va_up_ne _ _ (by decide)]; exact hPl
  refine lv_if_ne (tgt := 76) hx hb dX5_isRight_57 (by decide) (fun q_21 => absurd (by decide) q_21) (fun q_21 => ?_)
  obtain ⟨e1, e2⟩ := hcs i hi1 hi2 hdl
  have hrl := rgt_lt (co i) t k
  have hv1 := (hvals i hi1 hi2 hdl).1
  refine lv_aload_n hx hb dX5_isRight_60 rfl (lv_at hl 1 rfl) ?_
  refine lv_iload_n hx hb dX5_isRight_61 rfl (lv_at hl 2 rfl) ?_
  refine lv_iload_n hx hb dX5_isRight_62 rfl (lv_at hl 3 rfl) ?_
  refine x_callW1 (As := [.int (nI i), .int (nI k)]) (rest := []) hC vf_X5_99 hw hA (by decide) hc_10 rfl rfl (k5_right l _ _ _ _ _ _ _ _ cf i k (by omega) (by omega) (by omega) (co i) (fun j hj => ⟨(e1 j hj).1, hv1 j hj⟩) hc_10 hc_13) ⟨rfl, rfl, Nat.le_of_ble_eq_true rfl, Nat.le_of_ble_eq_true rfl⟩ hl.1 (Nat.le_of_ble_eq_true rfl) dX5_isRight_63 ⟨Nat.zero_le _, Nat.zero_le _⟩ rfl (fun w_22 H locs hu hw => ?_)
  rw [hu] at hw
  refine lv_iload_n hx hb dX5_isRight_66 rfl (lv_at hl 4 rfl) ?_
  refine lv_i2l hx hb dX5_isRight_67 (nI_l (by omega)) ?_
  refine W.lcmp hx hb dX5_isRight_68 ?_
  refine lv_if_ne (tgt := 76) hx hb dX5_isRight_69 (by decide) (fun q9 => ?_) (fun q9 => ?_)
  · rw [lg_cmp_eq, pk_lEQ (by omega) (by omega)] at q9
    rw [if_neg (fun q => q9 q.symm)]
    refine lv_iconst (v := nI 0) hx hb dX5_isRight_76 (by decide) ?_
    have hfr : ∀ z, z ≠ 77 → w_9 z = w z := fun z hhfr0 => by rw [hu_8, va_up_ne _ _ hhfr0]
    exact x_wretZ hx hb hr hlocks (by decide) hw ⟨fun z hz => hfr z (by omega), RM.set77 hRM hfr hc_10⟩ dX5_isRight_77
  · rw [lg_cmp_eq, pk_lEQ (by omega) (by omega)] at q9
    rw [if_pos q9.symm]
    refine lv_iconst (v := nI 1) hx hb dX5_isRight_72 (by decide) ?_
    refine lv_goto (tgt := 77) hx hb dX5_isRight_73 (by decide) ?_
    have hfr : ∀ z, z ≠ 77 → w_9 z = w z := fun z hhfr0 => by rw [hu_8, va_up_ne _ _ hhfr0]
    exact x_wretZ hx hb hr hlocks (by decide) hw ⟨fun z hz => hfr z (by omega), RM.set77 hRM hfr hc_10⟩ dX5_isRight_77
set_option maxHeartbeats 4000000 in
set_option maxRecDepth 100000 in
theorem m_isRightS (l : Launch) {D : va_G} {cI cJ cZ cD : ClassId} {ad : Nat → Nat} {w : Nat → va_E} {sz : Nat} (n t cl qu en kp : Nat) (dl ou cp ks pt : Nat → Nat) (co sh : Nat → Nat → Nat) (vs : Nat → Int64) (cd : Int32) (hok : OkS n t cl qu en kp dl ou cp ks pt co sh) (hRM : RM ad cJ cZ w cd n t cl qu en kp dl ou cp ks pt co sh vs) (i k : Nat) (hi1 : 1 ≤ i) (hi2 : i ≤ n) (hk1 : 1 ≤ k) (hk2 : k ≤ n) (x : Nat) (hx0 : x < 1073741789) (hdl : dl i = 0)  : MW l yX5_isRight (.code yX5_isRight cX5_isRight 5 (some .boolean)) ({ frames := 1, cells := 0, slots := 0, locals := 35 }) [.ref (ad 77), .int (nI i), .int (nI k), .int (nI x)] D (tyL cI cJ cZ cD) ad 89 w sz (some (.int (nI 0))) (fun u => (∀ z, z < 77 ∨ 87 < z → u z = w z) ∧ RM ad cJ cZ u (nI 2) n t cl qu en kp dl ou cp ks pt co sh vs) := by
  refine MW.of (by decide) (Nat.le_of_ble_eq_true rfl) ?_
  intro p e s m below meth c ls hC hr hlocks hl hw
  obtain ⟨hx, hb, hml, hown, hts⟩ := id hC
  have hA : ∀ q, s.heap.size ≤ q → xA ad 89 s.heap.size q := fun q h => Or.inr h
  have hl : lv_has ls 5 [(0, .ref (ad 77)), (1, .int (nI i)), (2, .int (nI k)), (3, .int (nI x))] := hl
  obtain ⟨⟨hs, hM⟩, ⟨dz, oz, hDz, hOz, hdo⟩, ⟨cf, mf, sf, hCf, hMf, hSf, hcs⟩, ⟨xf, hXf, hxx⟩, ⟨kyf, swf, hKy, hSw, hks⟩, ⟨vlf, hVl, hvl⟩, ⟨plf, hPl, hpl⟩⟩ := id hRM
  obtain ⟨⟨hn, ht, hcl, hqu, hen, hkp⟩, hle, ⟨hqb, hkb, hcb⟩, hvals, hclv, hptl, ⟨hz1, hz2, hz3⟩⟩ := id hok
  refine lv_aload_n hx hb dX5_isRight_0 rfl (lv_at hl 0 rfl) ?_
  refine lv_iload_n hx hb dX5_isRight_1 rfl (lv_at hl 1 rfl) ?_
  refine x_callW1 (As := [.int (nI i)]) (rest := []) hC vf_X5_84 hw hA (by decide) hM rfl rfl (k5_isNode l _ _ _ _ _ _ _ _ hn i hi1 hi2 hM) ⟨rfl, rfl, Nat.le_of_ble_eq_true rfl, Nat.le_of_ble_eq_true rfl⟩ hl.1 (Nat.le_of_ble_eq_true rfl) dX5_isRight_2 ⟨Nat.zero_le _, Nat.zero_le _⟩ rfl (fun w_1 H locs hu hw => ?_)
  rw [hu] at hw
  refine lv_if_eq (tgt := 27) hx hb dX5_isRight_5 (by decide) (fun q_2 => absurd q_2 (by decide)) (fun q_2 => ?_)
  refine lv_aload_n hx hb dX5_isRight_8 rfl (lv_at hl 0 rfl) ?_
  refine lv_iload_n hx hb dX5_isRight_9 rfl (lv_at hl 2 rfl) ?_
  refine x_callW1 (As := [.int (nI k)]) (rest := []) hC vf_X5_84 hw hA (by decide) hM rfl rfl (k5_isNode l _ _ _ _ _ _ _ _ hn k hk1 hk2 hM) ⟨rfl, rfl, Nat.le_of_ble_eq_true rfl, Nat.le_of_ble_eq_true rfl⟩ hl.1 (Nat.le_of_ble_eq_true rfl) dX5_isRight_10 ⟨Nat.zero_le _, Nat.zero_le _⟩ rfl (fun w_3 H locs hu hw => ?_)
  rw [hu] at hw
  refine lv_if_eq (tgt := 27) hx hb dX5_isRight_13 (by decide) (fun q_4 => absurd q_4 (by decide)) (fun q_4 => ?_)
  refine lv_iload_n hx hb dX5_isRight_16 rfl (lv_at hl 3 rfl) ?_
  refine x_callS (As := [.int (nI x)]) (rest := []) hC sf_X5_103 (k5_isExponent l x hx0) ⟨rfl, rfl, Nat.le_of_ble_eq_true rfl, Nat.le_of_ble_eq_true rfl⟩ hl.1 (Nat.le_of_ble_eq_true rfl) dX5_isRight_17 ⟨Nat.zero_le _, Nat.zero_le _⟩ rfl ?_
  refine lv_if_eq (tgt := 27) hx hb dX5_isRight_20 (by decide) (fun q_5 => absurd q_5 (by decide)) (fun q_5 => ?_)
  refine lv_iconst (v := nI 1) hx hb dX5_isRight_23 (by decide) ?_
  refine lv_goto (tgt := 28) hx hb dX5_isRight_24 (by decide) ?_
  refine lv_istore (lv' := [(4, .int (nI 1)), (0, .ref (ad 77)), (1, .int (nI i)), (2, .int (nI k)), (3, .int (nI x))]) hx hb dX5_isRight_28 hl (by decide) rfl (fun ls hl => ?_)
  refine lv_aload_n hx hb dX5_isRight_30 rfl (lv_at hl 1 rfl) ?_
  refine lv_iload hx hb dX5_isRight_31 (lv_at hl 0 rfl) ?_
  refine lv_if_ne (tgt := 40) hx hb dX5_isRight_33 (by decide) (fun q_6 => ?_) (fun q_6 => absurd q_6 (by decide))
  refine lv_aload_n hx hb dX5_isRight_40 rfl (lv_at hl 1 rfl) ?_
  refine gf_X5_7 hx hb hts hown hw (by decide) hM rfl dX5_isRight_41 ?_
  refine lv_iload_n hx hb dX5_isRight_44 rfl (lv_at hl 2 rfl) ?_
  refine x_zald hx hb hw (by decide) 2 hDz rfl (j := i) (by omega) (by decide) (by rw [(hdo i (by omega)).1, hdl]) dX5_isRight_45 ?_
  refine lv_if_ne (tgt := 53) hx hb dX5_isRight_46 (by decide) (fun q_7 => absurd (by decide) q_7) (fun q_7 => ?_)
  refine lv_iconst (v := nI 2) hx hb dX5_isRight_49 (by decide) ?_
  refine lv_goto (tgt := 54) hx hb dX5_isRight_50 (by decide) ?_
  refine x_callW1 (As := [.int (nI 2)]) (rest := []) hC vf_X5_64 hw hA (by decide) hM rfl rfl (k5_refuses2 l _ _ _ _ _ _ _ _ hM) ⟨rfl, rfl, Nat.le_of_ble_eq_true rfl, Nat.le_of_ble_eq_true rfl⟩ hl.1 (Nat.le_of_ble_eq_true rfl) dX5_isRight_54 ⟨Nat.zero_le _, Nat.zero_le _⟩ rfl (fun w_9 H locs hu_8 hw => ?_)
  have hc_10 : w_9 77 = .inr (4, [.int (nI 2), .int (nI n), .int (nI t), .int (nI cl), .ref (ad 78), .ref (ad 79), .ref (ad 80), .ref (ad 81), .ref (ad 82), .ref (ad 83), .int (nI qu), .ref (ad 84), .ref (ad 85), .ref (ad 86), .int (nI en), .int (nI kp), .ref (ad 87), .long hs]) := by rw [hu_8]; exact va_up_self _ _ _
  have hc_11 : w_9 78 = .inl (cZ, 17, .inl dz) := by rw [hu_8, va_up_ne _ _ (by decide)]; exact hDz
  have hc_12 : w_9 79 = .inl (cZ, 17, .inl oz) := by rw [hu_8, va_up_ne _ _ (by decide)]; exact hOz
  have hc_13 : w_9 80 = .inl (cJ, 289, .inr (.inl cf)) := by rw [hu_8, va_up_ne _ _ (by decide)]; exact hCf
  have hc_14 : w_9 81 = .inl (cJ, 289, .inr (.inl mf)) := by rw [hu_8, va_up_ne _ _ (by decide)]; exact hMf
  have hc_15 : w_9 82 = .inl (cJ, 289, .inr (.inl sf)) := by rw [hu_8, va_up_ne _ _ (by decide)]; exact hSf
  have hc_16 : w_9 83 = .inl (cZ, 289, .inl xf) := by rw [hu_8, va_up_ne _ _ (by decide)]; exact hXf
  have hc_17 : w_9 84 = .inl (cJ, 17, .inr (.inl kyf)) := by rw [hu_8, va_up_ne _ _ (by decide)]; exact hKy
  have hc_18 : w_9 85 = .inl (cJ, 17, .inr (.inl swf)) := by rw [hu_8, va_up_ne _ _ (by decide)]; exact hSw
  have hc_19 : w_9 86 = .inl (cJ, 301, .inr (.inl vlf)) := by rw [hu_8, va_up_ne _ _ (by decide)]; exact hVl
  have hc_20 : w_9 87 = .inl (cJ, 17, .inr (.inl plf)) := by rw [hu_8, va_up_ne _ _ (by decide)]; exact hPl
  refine lv_if_ne (tgt := 76) hx hb dX5_isRight_57 (by decide) (fun q_21 => ?_) (fun q_21 => absurd q_21 (by decide))
  refine lv_iconst (v := nI 0) hx hb dX5_isRight_76 (by decide) ?_
  have hfr : ∀ z, z ≠ 77 → w_9 z = w z := fun z hhfr0 => by rw [hu_8, va_up_ne _ _ hhfr0]
  exact x_wretZ hx hb hr hlocks (by decide) hw ⟨fun z hz => hfr z (by omega), RM.set77 hRM hfr hc_10⟩ dX5_isRight_77
set_option maxHeartbeats 4000000 in
set_option maxRecDepth 100000 in
theorem m_answerA (l : Launch) {D : va_G} {cI cJ cZ cD : ClassId} {ad : Nat → Nat} {w : Nat → va_E} {sz : Nat} (n t cl qu en kp : Nat) (dl ou cp ks pt : Nat → Nat) (co sh : Nat → Nat → Nat) (vs : Nat → Int64) (cd : Int32) (hok : OkS n t cl qu en kp dl ou cp ks pt co sh) (hRM : RM ad cJ cZ w cd n t cl qu en kp dl ou cp ks pt co sh vs) (x y z : Int32) (hbad : ¬ (isNd n x ∧ isNd n y ∧ isEx z))  : MW l yX5_answer (.code yX5_answer cX5_answer 5 (some .boolean)) ({ frames := 1, cells := 0, slots := 0, locals := 35 }) [.ref (ad 77), .int x, .int y, .int z] D (tyL cI cJ cZ cD) ad 89 w sz (some (.int (nI 0))) (fun u => (∀ z, z < 77 ∨ 87 < z → u z = w z) ∧ RM ad cJ cZ u (nI 1) n t cl qu en kp dl ou cp ks pt co sh vs) := by
  refine MW.of (by decide) (Nat.le_of_ble_eq_true rfl) ?_
  intro p e s m below meth c ls hC hr hlocks hl hw
  obtain ⟨hx, hb, hml, hown, hts⟩ := id hC
  have hA : ∀ q, s.heap.size ≤ q → xA ad 89 s.heap.size q := fun q h => Or.inr h
  have hl : lv_has ls 5 [(0, .ref (ad 77)), (1, .int x), (2, .int y), (3, .int z)] := hl
  obtain ⟨⟨hs, hM⟩, ⟨dz, oz, hDz, hOz, hdo⟩, ⟨cf, mf, sf, hCf, hMf, hSf, hcs⟩, ⟨xf, hXf, hxx⟩, ⟨kyf, swf, hKy, hSw, hks⟩, ⟨vlf, hVl, hvl⟩, ⟨plf, hPl, hpl⟩⟩ := id hRM
  obtain ⟨⟨hn, ht, hcl, hqu, hen, hkp⟩, hle, ⟨hqb, hkb, hcb⟩, hvals, hclv, hptl, ⟨hz1, hz2, hz3⟩⟩ := id hok
  by_cases c1 : isNd n x
  · skip
    obtain ⟨i, hi1, hi2, rfl⟩ := isNd_of hn c1
    refine lv_aload_n hx hb dX5_answer_0 rfl (lv_at hl 0 rfl) ?_
    refine lv_iload_n hx hb dX5_answer_1 rfl (lv_at hl 1 rfl) ?_
    refine x_callW1 (As := [.int (nI i)]) (rest := []) hC vf_X5_84 hw hA (by decide) hM rfl rfl (k5_isNode l _ _ _ _ _ _ _ _ hn i hi1 hi2 hM) ⟨rfl, rfl, Nat.le_of_ble_eq_true rfl, Nat.le_of_ble_eq_true rfl⟩ hl.1 (Nat.le_of_ble_eq_true rfl) dX5_answer_2 ⟨Nat.zero_le _, Nat.zero_le _⟩ rfl (fun w_1 H locs hu hw => ?_)
    rw [hu] at hw
    refine lv_if_eq (tgt := 27) hx hb dX5_answer_5 (by decide) (fun q_2 => absurd q_2 (by decide)) (fun q_2 => ?_)
    by_cases c2 : isNd n y
    · skip
      obtain ⟨k, hk1, hk2, rfl⟩ := isNd_of hn c2
      refine lv_aload_n hx hb dX5_answer_8 rfl (lv_at hl 0 rfl) ?_
      refine lv_iload_n hx hb dX5_answer_9 rfl (lv_at hl 2 rfl) ?_
      refine x_callW1 (As := [.int (nI k)]) (rest := []) hC vf_X5_84 hw hA (by decide) hM rfl rfl (k5_isNode l _ _ _ _ _ _ _ _ hn k hk1 hk2 hM) ⟨rfl, rfl, Nat.le_of_ble_eq_true rfl, Nat.le_of_ble_eq_true rfl⟩ hl.1 (Nat.le_of_ble_eq_true rfl) dX5_answer_10 ⟨Nat.zero_le _, Nat.zero_le _⟩ rfl (fun w_3 H locs hu hw => ?_)
      rw [hu] at hw
      refine lv_if_eq (tgt := 27) hx hb dX5_answer_13 (by decide) (fun q_4 => absurd q_4 (by decide)) (fun q_4 => ?_)
      refine lv_iload_n hx hb dX5_answer_16 rfl (lv_at hl 3 rfl) ?_
      refine x_callS (As := [.int z]) (rest := []) hC sf_X5_103 (k5_isExponentN l z (by by_cases h : z < 0; exact Or.inl h; exact Or.inr (Classical.byContradiction (fun q => hbad ⟨c1, c2, h, q⟩)))) ⟨rfl, rfl, Nat.le_of_ble_eq_true rfl, Nat.le_of_ble_eq_true rfl⟩ hl.1 (Nat.le_of_ble_eq_true rfl) dX5_answer_17 ⟨Nat.zero_le _, Nat.zero_le _⟩ rfl ?_
      refine lv_if_eq (tgt := 27) hx hb dX5_answer_20 (by decide) (fun q_5 => ?_) (fun q_5 => absurd (by decide) q_5)
      refine lv_iconst (v := nI 0) hx hb dX5_answer_27 (by decide) ?_
      refine lv_istore (lv' := [(4, .int (nI 0)), (0, .ref (ad 77)), (1, .int (nI i)), (2, .int (nI k)), (3, .int z)]) hx hb dX5_answer_28 hl (by decide) rfl (fun ls hl => ?_)
      refine lv_aload_n hx hb dX5_answer_30 rfl (lv_at hl 1 rfl) ?_
      refine lv_iload hx hb dX5_answer_31 (lv_at hl 0 rfl) ?_
      refine lv_if_ne (tgt := 40) hx hb dX5_answer_33 (by decide) (fun q_6 => absurd (by decide) q_6) (fun q_6 => ?_)
      refine lv_iconst (v := nI 1) hx hb dX5_answer_36 (by decide) ?_
      refine lv_goto (tgt := 66) hx hb dX5_answer_37 (by decide) ?_
      refine x_callW1 (As := [.int (nI 1)]) (rest := []) hC vf_X5_64 hw hA (by decide) hM rfl rfl (k5_refuses1 l _ _ _ _ _ _ _ _ hM) ⟨rfl, rfl, Nat.le_of_ble_eq_true rfl, Nat.le_of_ble_eq_true rfl⟩ hl.1 (Nat.le_of_ble_eq_true rfl) dX5_answer_66 ⟨Nat.zero_le _, Nat.zero_le _⟩ rfl (fun w_8 H locs hu_7 hw => ?_)
      have hc_9 : w_8 77 = .inr (4, [.int (nI 1), .int (nI n), .int (nI t), .int (nI cl), .ref (ad 78), .ref (ad 79), .ref (ad 80), .ref (ad 81), .ref (ad 82), .ref (ad 83), .int (nI qu), .ref (ad 84), .ref (ad 85), .ref (ad 86), .int (nI en), .int (nI kp), .ref (ad 87), .long hs]) := by rw [hu_7]; exact va_up_self _ _ _
      have hc_10 : w_8 78 = .inl (cZ, 17, .inl dz) := by rw [hu_7, va_up_ne _ _ (by decide)]; exact hDz
      have hc_11 : w_8 79 = .inl (cZ, 17, .inl oz) := by rw [hu_7, va_up_ne _ _ (by decide)]; exact hOz
      have hc_12 : w_8 80 = .inl (cJ, 289, .inr (.inl cf)) := by rw [hu_7, va_up_ne _ _ (by decide)]; exact hCf
      have hc_13 : w_8 81 = .inl (cJ, 289, .inr (.inl mf)) := by rw [hu_7, va_up_ne _ _ (by decide)]; exact hMf
      have hc_14 : w_8 82 = .inl (cJ, 289, .inr (.inl sf)) := by rw [hu_7, va_up_ne _ _ (by decide)]; exact hSf
      have hc_15 : w_8 83 = .inl (cZ, 289, .inl xf) := by rw [hu_7, va_up_ne _ _ (by decide)]; exact hXf
      have hc_16 : w_8 84 = .inl (cJ, 17, .inr (.inl kyf)) := by rw [hu_7, va_up_ne _ _ (by decide)]; exact hKy
      have hc_17 : w_8 85 = .inl (cJ, 17, .inr (.inl swf)) := by rw [hu_7, va_up_ne _ _ (by decide)]; exact hSw
      have hc_18 : w_8 86 = .inl (cJ, 301, .inr (.inl vlf)) := by rw [hu_7, va_up_ne _ _ (by decide)]; exact hVl
      have hc_19 : w_8 87 = .inl (cJ, 17, .inr (.inl plf)) := by rw [hu_7, va_up_ne _ _ (by decide)]; exact hPl
      refine lv_if_eq (tgt := 74) hx hb dX5_answer_69 (by decide) (fun q_20 => absurd q_20 (by decide)) (fun q_20 => ?_)
      refine lv_iconst (v := nI 0) hx hb dX5_answer_72 (by decide) ?_
      have hfr : ∀ z, z ≠ 77 → w_8 z = w z := fun z hhfr0 => by rw [hu_7, va_up_ne _ _ hhfr0]
      exact x_wretZ hx hb hr hlocks (by decide) hw ⟨fun z hz => hfr z (by omega), RM.set77 hRM hfr hc_9⟩ dX5_answer_73
    · skip
      refine lv_aload_n hx hb dX5_answer_8 rfl (lv_at hl 0 rfl) ?_
      refine lv_iload_n hx hb dX5_answer_9 rfl (lv_at hl 2 rfl) ?_
      refine x_callW1 (As := [.int y]) (rest := []) hC vf_X5_84 hw hA (by decide) hM rfl rfl (k5_isNodeN l _ _ _ _ _ _ _ _ y c2 hM) ⟨rfl, rfl, Nat.le_of_ble_eq_true rfl, Nat.le_of_ble_eq_true rfl⟩ hl.1 (Nat.le_of_ble_eq_true rfl) dX5_answer_10 ⟨Nat.zero_le _, Nat.zero_le _⟩ rfl (fun w_21 H locs hu hw => ?_)
      rw [hu] at hw
      refine lv_if_eq (tgt := 27) hx hb dX5_answer_13 (by decide) (fun q_22 => ?_) (fun q_22 => absurd (by decide) q_22)
      refine lv_iconst (v := nI 0) hx hb dX5_answer_27 (by decide) ?_
      refine lv_istore (lv' := [(4, .int (nI 0)), (0, .ref (ad 77)), (1, .int (nI i)), (2, .int y), (3, .int z)]) hx hb dX5_answer_28 hl (by decide) rfl (fun ls hl => ?_)
      refine lv_aload_n hx hb dX5_answer_30 rfl (lv_at hl 1 rfl) ?_
      refine lv_iload hx hb dX5_answer_31 (lv_at hl 0 rfl) ?_
      refine lv_if_ne (tgt := 40) hx hb dX5_answer_33 (by decide) (fun q_23 => absurd (by decide) q_23) (fun q_23 => ?_)
      refine lv_iconst (v := nI 1) hx hb dX5_answer_36 (by decide) ?_
      refine lv_goto (tgt := 66) hx hb dX5_answer_37 (by decide) ?_
      refine x_callW1 (As := [.int (nI 1)]) (rest := []) hC vf_X5_64 hw hA (by decide) hM rfl rfl (k5_refuses1 l _ _ _ _ _ _ _ _ hM) ⟨rfl, rfl, Nat.le_of_ble_eq_true rfl, Nat.le_of_ble_eq_true rfl⟩ hl.1 (Nat.le_of_ble_eq_true rfl) dX5_answer_66 ⟨Nat.zero_le _, Nat.zero_le _⟩ rfl (fun w_25 H locs hu_24 hw => ?_)
      have hc_26 : w_25 77 = .inr (4, [.int (nI 1), .int (nI n), .int (nI t), .int (nI cl), .ref (ad 78), .ref (ad 79), .ref (ad 80), .ref (ad 81), .ref (ad 82), .ref (ad 83), .int (nI qu), .ref (ad 84), .ref (ad 85), .ref (ad 86), .int (nI en), .int (nI kp), .ref (ad 87), .long hs]) := by rw [hu_24]; exact va_up_self _ _ _
      have hc_27 : w_25 78 = .inl (cZ, 17, .inl dz) := by rw [hu_24, va_up_ne _ _ (by decide)]; exact hDz
      have hc_28 : w_25 79 = .inl (cZ, 17, .inl oz) := by rw [hu_24, va_up_ne _ _ (by decide)]; exact hOz
      have hc_29 : w_25 80 = .inl (cJ, 289, .inr (.inl cf)) := by rw [hu_24, va_up_ne _ _ (by decide)]; exact hCf
      have hc_30 : w_25 81 = .inl (cJ, 289, .inr (.inl mf)) := by rw [hu_24, va_up_ne _ _ (by decide)]; exact hMf
      have hc_31 : w_25 82 = .inl (cJ, 289, .inr (.inl sf)) := by rw [hu_24, va_up_ne _ _ (by decide)]; exact hSf
      have hc_32 : w_25 83 = .inl (cZ, 289, .inl xf) := by rw [hu_24, va_up_ne _ _ (by decide)]; exact hXf
      have hc_33 : w_25 84 = .inl (cJ, 17, .inr (.inl kyf)) := by rw [hu_24, va_up_ne _ _ (by decide)]; exact hKy
      have hc_34 : w_25 85 = .inl (cJ, 17, .inr (.inl swf)) := by rw [hu_24, va_up_ne _ _ (by decide)]; exact hSw
      have hc_35 : w_25 86 = .inl (cJ, 301, .inr (.inl vlf)) := by rw [hu_24, va_up_ne _ _ (by decide)]; exact hVl
      have hc_36 : w_25 87 = .inl (cJ, 17, .inr (.inl plf)) := by rw [hu_24, va_up_ne _ _ (by decide)]; exact hPl
      refine lv_if_eq (tgt := 74) hx hb dX5_answer_69 (by decide) (fun q_37 => absurd q_37 (by decide)) (fun q_37 => ?_)
      refine lv_iconst (v := nI 0) hx hb dX5_answer_72 (by decide) ?_
      have hfr : ∀ z, z ≠ 77 → w_25 z = w z := fun z hhfr0 => by rw [hu_24, va_up_ne _ _ hhfr0]
      exact x_wretZ hx hb hr hlocks (by decide) hw ⟨fun z hz => hfr z (by omega), RM.set77 hRM hfr hc_26⟩ dX5_answer_73
  · skip
    refine lv_aload_n hx hb dX5_answer_0 rfl (lv_at hl 0 rfl) ?_
    refine lv_iload_n hx hb dX5_answer_1 rfl (lv_at hl 1 rfl) ?_
    refine x_callW1 (As := [.int x]) (rest := []) hC vf_X5_84 hw hA (by decide) hM rfl rfl (k5_isNodeN l _ _ _ _ _ _ _ _ x c1 hM) ⟨rfl, rfl, Nat.le_of_ble_eq_true rfl, Nat.le_of_ble_eq_true rfl⟩ hl.1 (Nat.le_of_ble_eq_true rfl) dX5_answer_2 ⟨Nat.zero_le _, Nat.zero_le _⟩ rfl (fun w_38 H locs hu hw => ?_)
    rw [hu] at hw
    refine lv_if_eq (tgt := 27) hx hb dX5_answer_5 (by decide) (fun q_39 => ?_) (fun q_39 => absurd (by decide) q_39)
    refine lv_iconst (v := nI 0) hx hb dX5_answer_27 (by decide) ?_
    refine lv_istore (lv' := [(4, .int (nI 0)), (0, .ref (ad 77)), (1, .int x), (2, .int y), (3, .int z)]) hx hb dX5_answer_28 hl (by decide) rfl (fun ls hl => ?_)
    refine lv_aload_n hx hb dX5_answer_30 rfl (lv_at hl 1 rfl) ?_
    refine lv_iload hx hb dX5_answer_31 (lv_at hl 0 rfl) ?_
    refine lv_if_ne (tgt := 40) hx hb dX5_answer_33 (by decide) (fun q_40 => absurd (by decide) q_40) (fun q_40 => ?_)
    refine lv_iconst (v := nI 1) hx hb dX5_answer_36 (by decide) ?_
    refine lv_goto (tgt := 66) hx hb dX5_answer_37 (by decide) ?_
    refine x_callW1 (As := [.int (nI 1)]) (rest := []) hC vf_X5_64 hw hA (by decide) hM rfl rfl (k5_refuses1 l _ _ _ _ _ _ _ _ hM) ⟨rfl, rfl, Nat.le_of_ble_eq_true rfl, Nat.le_of_ble_eq_true rfl⟩ hl.1 (Nat.le_of_ble_eq_true rfl) dX5_answer_66 ⟨Nat.zero_le _, Nat.zero_le _⟩ rfl (fun w_42 H locs hu_41 hw => ?_)
    have hc_43 : w_42 77 = .inr (4, [.int (nI 1), .int (nI n), .int (nI t), .int (nI cl), .ref (ad 78), .ref (ad 79), .ref (ad 80), .ref (ad 81), .ref (ad 82), .ref (ad 83), .int (nI qu), .ref (ad 84), .ref (ad 85), .ref (ad 86), .int (nI en), .int (nI kp), .ref (ad 87), .long hs]) := by rw [hu_41]; exact va_up_self _ _ _
    have hc_44 : w_42 78 = .inl (cZ, 17, .inl dz) := by rw [hu_41, va_up_ne _ _ (by decide)]; exact hDz
    have hc_45 : w_42 79 = .inl (cZ, 17, .inl oz) := by rw [hu_41, va_up_ne _ _ (by decide)]; exact hOz
    have hc_46 : w_42 80 = .inl (cJ, 289, .inr (.inl cf)) := by rw [hu_41, va_up_ne _ _ (by decide)]; exact hCf
    have hc_47 : w_42 81 = .inl (cJ, 289, .inr (.inl mf)) := by rw [hu_41, va_up_ne _ _ (by decide)]; exact hMf
    have hc_48 : w_42 82 = .inl (cJ, 289, .inr (.inl sf)) := by rw [hu_41, va_up_ne _ _ (by decide)]; exact hSf
    have hc_49 : w_42 83 = .inl (cZ, 289, .inl xf) := by rw [hu_41, va_up_ne _ _ (by decide)]; exact hXf
    have hc_50 : w_42 84 = .inl (cJ, 17, .inr (.inl kyf)) := by rw [hu_41, va_up_ne _ _ (by decide)]; exact hKy
    have hc_51 : w_42 85 = .inl (cJ, 17, .inr (.inl swf)) := by rw [hu_41, va_up_ne _ _ (by decide)]; exact hSw
    have hc_52 : w_42 86 = .inl (cJ, 301, .inr (.inl vlf)) := by rw [hu_41, va_up_ne _ _ (by decide)]; exact hVl
    have hc_53 : w_42 87 = .inl (cJ, 17, .inr (.inl plf)) := by rw [hu_41, va_up_ne _ _ (by decide)]; exact hPl
    refine lv_if_eq (tgt := 74) hx hb dX5_answer_69 (by decide) (fun q_54 => absurd q_54 (by decide)) (fun q_54 => ?_)
    refine lv_iconst (v := nI 0) hx hb dX5_answer_72 (by decide) ?_
    have hfr : ∀ z, z ≠ 77 → w_42 z = w z := fun z hhfr0 => by rw [hu_41, va_up_ne _ _ hhfr0]
    exact x_wretZ hx hb hr hlocks (by decide) hw ⟨fun z hz => hfr z (by omega), RM.set77 hRM hfr hc_43⟩ dX5_answer_73
set_option maxHeartbeats 4000000 in
set_option maxRecDepth 100000 in
theorem m_answerN (l : Launch) {D : va_G} {cI cJ cZ cD : ClassId} {ad : Nat → Nat} {w : Nat → va_E} {sz : Nat} (n t cl qu en kp : Nat) (dl ou cp ks pt : Nat → Nat) (co sh : Nat → Nat → Nat) (vs : Nat → Int64) (cd : Int32) (hok : OkS n t cl qu en kp dl ou cp ks pt co sh) (hRM : RM ad cJ cZ w cd n t cl qu en kp dl ou cp ks pt co sh vs) (i k : Nat) (hi1 : 1 ≤ i) (hi2 : i ≤ n) (hk1 : 1 ≤ k) (hk2 : k ≤ n) (x : Nat) (hx0 : x < 1073741789) (hcl0 : cl = 0) (hcp0 : tb (cp i) k = 1) (hxp : 0 < x)  : MW l yX5_answer (.code yX5_answer cX5_answer 5 (some .boolean)) ({ frames := 1, cells := 0, slots := 0, locals := 35 }) [.ref (ad 77), .int (nI i), .int (nI k), .int (nI x)] D (tyL cI cJ cZ cD) ad 89 w sz (some (.int (nI 0))) (fun u => (∀ z, z < 77 ∨ 87 < z → u z = w z) ∧ RM ad cJ cZ u (nI 0) n t 0 qu en kp dl (va_up ou i 1) cp ks pt co sh vs) := by
  refine MW.of (by decide) (Nat.le_of_ble_eq_true rfl) ?_
  intro p e s m below meth c ls hC hr hlocks hl hw
  obtain ⟨hx, hb, hml, hown, hts⟩ := id hC
  have hA : ∀ q, s.heap.size ≤ q → xA ad 89 s.heap.size q := fun q h => Or.inr h
  have hl : lv_has ls 5 [(0, .ref (ad 77)), (1, .int (nI i)), (2, .int (nI k)), (3, .int (nI x))] := hl
  obtain ⟨⟨hs, hM⟩, ⟨dz, oz, hDz, hOz, hdo⟩, ⟨cf, mf, sf, hCf, hMf, hSf, hcs⟩, ⟨xf, hXf, hxx⟩, ⟨kyf, swf, hKy, hSw, hks⟩, ⟨vlf, hVl, hvl⟩, ⟨plf, hPl, hpl⟩⟩ := id hRM
  obtain ⟨⟨hn, ht, hcl, hqu, hen, hkp⟩, hle, ⟨hqb, hkb, hcb⟩, hvals, hclv, hptl, ⟨hz1, hz2, hz3⟩⟩ := id hok
  subst hcl0
  refine lv_aload_n hx hb dX5_answer_0 rfl (lv_at hl 0 rfl) ?_
  refine lv_iload_n hx hb dX5_answer_1 rfl (lv_at hl 1 rfl) ?_
  refine x_callW1 (As := [.int (nI i)]) (rest := []) hC vf_X5_84 hw hA (by decide) hM rfl rfl (k5_isNode l _ _ _ _ _ _ _ _ hn i hi1 hi2 hM) ⟨rfl, rfl, Nat.le_of_ble_eq_true rfl, Nat.le_of_ble_eq_true rfl⟩ hl.1 (Nat.le_of_ble_eq_true rfl) dX5_answer_2 ⟨Nat.zero_le _, Nat.zero_le _⟩ rfl (fun w_1 H locs hu hw => ?_)
  rw [hu] at hw
  refine lv_if_eq (tgt := 27) hx hb dX5_answer_5 (by decide) (fun q_2 => absurd q_2 (by decide)) (fun q_2 => ?_)
  refine lv_aload_n hx hb dX5_answer_8 rfl (lv_at hl 0 rfl) ?_
  refine lv_iload_n hx hb dX5_answer_9 rfl (lv_at hl 2 rfl) ?_
  refine x_callW1 (As := [.int (nI k)]) (rest := []) hC vf_X5_84 hw hA (by decide) hM rfl rfl (k5_isNode l _ _ _ _ _ _ _ _ hn k hk1 hk2 hM) ⟨rfl, rfl, Nat.le_of_ble_eq_true rfl, Nat.le_of_ble_eq_true rfl⟩ hl.1 (Nat.le_of_ble_eq_true rfl) dX5_answer_10 ⟨Nat.zero_le _, Nat.zero_le _⟩ rfl (fun w_3 H locs hu hw => ?_)
  rw [hu] at hw
  refine lv_if_eq (tgt := 27) hx hb dX5_answer_13 (by decide) (fun q_4 => absurd q_4 (by decide)) (fun q_4 => ?_)
  refine lv_iload_n hx hb dX5_answer_16 rfl (lv_at hl 3 rfl) ?_
  refine x_callS (As := [.int (nI x)]) (rest := []) hC sf_X5_103 (k5_isExponent l x hx0) ⟨rfl, rfl, Nat.le_of_ble_eq_true rfl, Nat.le_of_ble_eq_true rfl⟩ hl.1 (Nat.le_of_ble_eq_true rfl) dX5_answer_17 ⟨Nat.zero_le _, Nat.zero_le _⟩ rfl ?_
  refine lv_if_eq (tgt := 27) hx hb dX5_answer_20 (by decide) (fun q_5 => absurd q_5 (by decide)) (fun q_5 => ?_)
  refine lv_iconst (v := nI 1) hx hb dX5_answer_23 (by decide) ?_
  refine lv_goto (tgt := 28) hx hb dX5_answer_24 (by decide) ?_
  refine lv_istore (lv' := [(4, .int (nI 1)), (0, .ref (ad 77)), (1, .int (nI i)), (2, .int (nI k)), (3, .int (nI x))]) hx hb dX5_answer_28 hl (by decide) rfl (fun ls hl => ?_)
  refine lv_aload_n hx hb dX5_answer_30 rfl (lv_at hl 1 rfl) ?_
  refine lv_iload hx hb dX5_answer_31 (lv_at hl 0 rfl) ?_
  refine lv_if_ne (tgt := 40) hx hb dX5_answer_33 (by decide) (fun q_6 => ?_) (fun q_6 => absurd q_6 (by decide))
  refine lv_aload_n hx hb dX5_answer_40 rfl (lv_at hl 1 rfl) ?_
  refine gf_X5_71 hx hb hts hown hw (by decide) hM rfl dX5_answer_41 ?_
  refine lv_if_ne (tgt := 61) hx hb dX5_answer_44 (by decide) (fun q_7 => absurd (by decide) q_7) (fun q_7 => ?_)
  refine lv_aload_n hx hb dX5_answer_47 rfl (lv_at hl 1 rfl) ?_
  refine gf_X5_26 hx hb hts hown hw (by decide) hM rfl dX5_answer_48 ?_
  refine lv_bipush (v := nI 17) hx hb dX5_answer_51 (by decide) ?_
  refine lv_iload_n hx hb dX5_answer_53 rfl (lv_at hl 2 rfl) ?_
  refine t_imul hx hb dX5_answer_54 (v := nI (17 * i)) (pk_mul _ _) ?_
  refine lv_iload_n hx hb dX5_answer_55 rfl (lv_at hl 3 rfl) ?_
  refine t_iadd hx hb dX5_answer_56 (v := nI (17 * i + k)) (nI_add _ _) ?_
  refine x_zald hx hb hw (by decide) 2 hXf rfl (j := 17 * i + k) (by omega) (by decide) (by rw [hxx i k (by omega) (by omega), hcp0]) dX5_answer_57 ?_
  refine lv_if_ne (tgt := 65) hx hb dX5_answer_58 (by decide) (fun q_8 => ?_) (fun q_8 => absurd q_8 (by decide))
  refine lv_iconst (v := nI 0) hx hb dX5_answer_65 (by decide) ?_
  refine x_callW1 (As := [.int (nI 0)]) (rest := []) hC vf_X5_64 hw hA (by decide) hM rfl rfl (k5_refuses0 l _ _ _ _ _ _ _ _ hM) ⟨rfl, rfl, Nat.le_of_ble_eq_true rfl, Nat.le_of_ble_eq_true rfl⟩ hl.1 (Nat.le_of_ble_eq_true rfl) dX5_answer_66 ⟨Nat.zero_le _, Nat.zero_le _⟩ rfl (fun w_10 H locs hu_9 hw => ?_)
  have hc_11 : w_10 77 = .inr (4, [.int (nI 0), .int (nI n), .int (nI t), .int (nI 0), .ref (ad 78), .ref (ad 79), .ref (ad 80), .ref (ad 81), .ref (ad 82), .ref (ad 83), .int (nI qu), .ref (ad 84), .ref (ad 85), .ref (ad 86), .int (nI en), .int (nI kp), .ref (ad 87), .long hs]) := by rw [hu_9]; exact va_up_self _ _ _
  have hc_12 : w_10 78 = .inl (cZ, 17, .inl dz) := by rw [hu_9, va_up_ne _ _ (by decide)]; exact hDz
  have hc_13 : w_10 79 = .inl (cZ, 17, .inl oz) := by rw [hu_9, va_up_ne _ _ (by decide)]; exact hOz
  have hc_14 : w_10 80 = .inl (cJ, 289, .inr (.inl cf)) := by rw [hu_9, va_up_ne _ _ (by decide)]; exact hCf
  have hc_15 : w_10 81 = .inl (cJ, 289, .inr (.inl mf)) := by rw [hu_9, va_up_ne _ _ (by decide)]; exact hMf
  have hc_16 : w_10 82 = .inl (cJ, 289, .inr (.inl sf)) := by rw [hu_9, va_up_ne _ _ (by decide)]; exact hSf
  have hc_17 : w_10 83 = .inl (cZ, 289, .inl xf) := by rw [hu_9, va_up_ne _ _ (by decide)]; exact hXf
  have hc_18 : w_10 84 = .inl (cJ, 17, .inr (.inl kyf)) := by rw [hu_9, va_up_ne _ _ (by decide)]; exact hKy
  have hc_19 : w_10 85 = .inl (cJ, 17, .inr (.inl swf)) := by rw [hu_9, va_up_ne _ _ (by decide)]; exact hSw
  have hc_20 : w_10 86 = .inl (cJ, 301, .inr (.inl vlf)) := by rw [hu_9, va_up_ne _ _ (by decide)]; exact hVl
  have hc_21 : w_10 87 = .inl (cJ, 17, .inr (.inl plf)) := by rw [hu_9, va_up_ne _ _ (by decide)]; exact hPl
  refine lv_if_eq (tgt := 74) hx hb dX5_answer_69 (by decide) (fun q_22 => ?_) (fun q_22 => absurd (by decide) q_22)
  refine lv_iload_n hx hb dX5_answer_74 rfl (lv_at hl 4 rfl) ?_
  refine lv_if_le (tgt := 87) hx hb dX5_answer_75 (by decide) (fun q8 => absurd q8 (nI_nle hxp (by omega))) (fun q8 => ?_)
  refine lv_aload_n hx hb dX5_answer_78 rfl (lv_at hl 1 rfl) ?_
  refine gf_X5_13 hx hb hts hown hw (by decide) hc_11 rfl dX5_answer_79 ?_
  refine lv_iload_n hx hb dX5_answer_82 rfl (lv_at hl 2 rfl) ?_
  refine lv_iconst (v := nI 1) hx hb dX5_answer_83 (by decide) ?_
  refine x_zast hx hb hw (by decide) 2 hc_13 rfl (j := i) (by omega) (by decide) (by decide) dX5_answer_84 (fun w_23 H locs ew_24 hw => ?_)
  have hc_25 : w_23 77 = .inr (4, [.int (nI 0), .int (nI n), .int (nI t), .int (nI 0), .ref (ad 78), .ref (ad 79), .ref (ad 80), .ref (ad 81), .ref (ad 82), .ref (ad 83), .int (nI qu), .ref (ad 84), .ref (ad 85), .ref (ad 86), .int (nI en), .int (nI kp), .ref (ad 87), .long hs]) := by rw [ew_24]; exact (va_up_ne _ _ (by omega)).trans hc_11
  have hc_26 : w_23 78 = .inl (cZ, 17, .inl dz) := by rw [ew_24]; exact (va_up_ne _ _ (by omega)).trans hc_12
  have hc_27 : w_23 79 = .inl (cZ, 17, .inl (upd oz i (nI 1))) := by rw [ew_24]; exact va_up_self _ _ _
  have hc_28 : w_23 80 = .inl (cJ, 289, .inr (.inl cf)) := by rw [ew_24]; exact (va_up_ne _ _ (by omega)).trans hc_14
  have hc_29 : w_23 81 = .inl (cJ, 289, .inr (.inl mf)) := by rw [ew_24]; exact (va_up_ne _ _ (by omega)).trans hc_15
  have hc_30 : w_23 82 = .inl (cJ, 289, .inr (.inl sf)) := by rw [ew_24]; exact (va_up_ne _ _ (by omega)).trans hc_16
  have hc_31 : w_23 83 = .inl (cZ, 289, .inl xf) := by rw [ew_24]; exact (va_up_ne _ _ (by omega)).trans hc_17
  have hc_32 : w_23 84 = .inl (cJ, 17, .inr (.inl kyf)) := by rw [ew_24]; exact (va_up_ne _ _ (by omega)).trans hc_18
  have hc_33 : w_23 85 = .inl (cJ, 17, .inr (.inl swf)) := by rw [ew_24]; exact (va_up_ne _ _ (by omega)).trans hc_19
  have hc_34 : w_23 86 = .inl (cJ, 301, .inr (.inl vlf)) := by rw [ew_24]; exact (va_up_ne _ _ (by omega)).trans hc_20
  have hc_35 : w_23 87 = .inl (cJ, 17, .inr (.inl plf)) := by rw [ew_24]; exact (va_up_ne _ _ (by omega)).trans hc_21
  refine lv_iconst (v := nI 0) hx hb dX5_answer_85 (by decide) ?_
  have hfr : ∀ z, z ≠ 77 → z ≠ 79 → w_23 z = w z := fun z hhfr0 hhfr1 => by rw [ew_24, va_up_ne _ _ hhfr1, hu_9, va_up_ne _ _ hhfr0]
  refine x_wretZ hx hb hr hlocks (by decide) hw ⟨fun z hz => hfr z (by omega) (by omega), ⟨_, hc_25⟩, ⟨dz, _, hc_26, hc_27, fun i9 hi9 => ?_⟩, RMc.of ⟨cf, mf, sf, hCf, hMf, hSf, hcs⟩ (hfr 80 (by decide) (by decide)) (hfr 81 (by decide) (by decide)) (hfr 82 (by decide) (by decide)), RMx.of ⟨xf, hXf, hxx⟩ (hfr 83 (by decide) (by decide)), RMk.of ⟨kyf, swf, hKy, hSw, hks⟩ (hfr 84 (by decide) (by decide)) (hfr 85 (by decide) (by decide)), RMv.of ⟨vlf, hVl, hvl⟩ (hfr 86 (by decide) (by decide)), RMp.of ⟨plf, hPl, hpl⟩ (hfr 87 (by decide) (by decide))⟩ dX5_answer_86
  by_cases hii : i9 = i
  · subst hii; rw [upd_s, va_up_self]; exact ⟨(hdo i9 hi9).1, rfl⟩
  · rw [upd_n _ _ hii, va_up_ne _ _ hii]; exact hdo i9 hi9
theorem tb_clr {a k j : Nat} (ha : a < 2 ^ 17) (hk : k < 17) : tb (clr a k) j = if j = k then 0 else tb a j := by
  unfold clr
  rw [tb_test, tb_test, Nat.testBit_and]
  by_cases hj : j < 32
  · have e : (2 ^ 32 - 1 - 2 ^ k).testBit j = !decide (k = j) := by
      rw [Nat.sub_sub, Nat.add_comm 1, Nat.testBit_two_pow_sub_succ (by exact Nat.pow_lt_pow_right (by decide) (by omega)), Nat.testBit_two_pow]
      simp [hj]
    rw [e]
    by_cases hjk : j = k
    · simp [hjk]
    · have : ¬ k = j := fun q => hjk q.symm
      simp [hjk, this]
  · have h1 : a.testBit j = false := Nat.testBit_lt_two_pow (Nat.lt_of_lt_of_le ha (Nat.pow_le_pow_right (by decide) (by omega)))
    rw [h1]
    by_cases hjk : j = k
    · simp [hjk]
    · simp [hjk]

set_option maxHeartbeats 4000000 in
set_option maxRecDepth 100000 in
theorem m_answerY (l : Launch) {D : va_G} {cI cJ cZ cD : ClassId} {ad : Nat → Nat} {w : Nat → va_E} {sz : Nat} (n t cl qu en kp : Nat) (dl ou cp ks pt : Nat → Nat) (co sh : Nat → Nat → Nat) (vs : Nat → Int64) (cd : Int32) (hok : OkS n t cl qu en kp dl ou cp ks pt co sh) (hRM : RM ad cJ cZ w cd n t cl qu en kp dl ou cp ks pt co sh vs) (i k : Nat) (hi1 : 1 ≤ i) (hi2 : i ≤ n) (hk1 : 1 ≤ k) (hk2 : k ≤ n) (x : Nat) (hx0 : x < 1073741789) (hcl0 : cl = 0) (hcp0 : tb (cp i) k = 1) (hxp : x = 0)  : MW l yX5_answer (.code yX5_answer cX5_answer 5 (some .boolean)) ({ frames := 1, cells := 0, slots := 0, locals := 35 }) [.ref (ad 77), .int (nI i), .int (nI k), .int (nI x)] D (tyL cI cJ cZ cD) ad 89 w sz (some (.int (nI 1))) (fun u => (∀ z, z < 77 ∨ 87 < z → u z = w z) ∧ RM ad cJ cZ u (nI 0) n t 0 qu en kp dl ou (va_up cp i (clr (cp i) k)) ks pt co (va_up sh i (va_up (sh i) k (rgt (co i) t k))) vs) := by
  refine MW.of (by decide) (Nat.le_of_ble_eq_true rfl) ?_
  intro p e s m below meth c ls hC hr hlocks hl hw
  obtain ⟨hx, hb, hml, hown, hts⟩ := id hC
  have hA : ∀ q, s.heap.size ≤ q → xA ad 89 s.heap.size q := fun q h => Or.inr h
  have hl : lv_has ls 5 [(0, .ref (ad 77)), (1, .int (nI i)), (2, .int (nI k)), (3, .int (nI x))] := hl
  obtain ⟨⟨hs, hM⟩, ⟨dz, oz, hDz, hOz, hdo⟩, ⟨cf, mf, sf, hCf, hMf, hSf, hcs⟩, ⟨xf, hXf, hxx⟩, ⟨kyf, swf, hKy, hSw, hks⟩, ⟨vlf, hVl, hvl⟩, ⟨plf, hPl, hpl⟩⟩ := id hRM
  obtain ⟨⟨hn, ht, hcl, hqu, hen, hkp⟩, hle, ⟨hqb, hkb, hcb⟩, hvals, hclv, hptl, ⟨hz1, hz2, hz3⟩⟩ := id hok
  subst hcl0
  refine lv_aload_n hx hb dX5_answer_0 rfl (lv_at hl 0 rfl) ?_
  refine lv_iload_n hx hb dX5_answer_1 rfl (lv_at hl 1 rfl) ?_
  refine x_callW1 (As := [.int (nI i)]) (rest := []) hC vf_X5_84 hw hA (by decide) hM rfl rfl (k5_isNode l _ _ _ _ _ _ _ _ hn i hi1 hi2 hM) ⟨rfl, rfl, Nat.le_of_ble_eq_true rfl, Nat.le_of_ble_eq_true rfl⟩ hl.1 (Nat.le_of_ble_eq_true rfl) dX5_answer_2 ⟨Nat.zero_le _, Nat.zero_le _⟩ rfl (fun w_1 H locs hu hw => ?_)
  rw [hu] at hw
  refine lv_if_eq (tgt := 27) hx hb dX5_answer_5 (by decide) (fun q_2 => absurd q_2 (by decide)) (fun q_2 => ?_)
  refine lv_aload_n hx hb dX5_answer_8 rfl (lv_at hl 0 rfl) ?_
  refine lv_iload_n hx hb dX5_answer_9 rfl (lv_at hl 2 rfl) ?_
  refine x_callW1 (As := [.int (nI k)]) (rest := []) hC vf_X5_84 hw hA (by decide) hM rfl rfl (k5_isNode l _ _ _ _ _ _ _ _ hn k hk1 hk2 hM) ⟨rfl, rfl, Nat.le_of_ble_eq_true rfl, Nat.le_of_ble_eq_true rfl⟩ hl.1 (Nat.le_of_ble_eq_true rfl) dX5_answer_10 ⟨Nat.zero_le _, Nat.zero_le _⟩ rfl (fun w_3 H locs hu hw => ?_)
  rw [hu] at hw
  refine lv_if_eq (tgt := 27) hx hb dX5_answer_13 (by decide) (fun q_4 => absurd q_4 (by decide)) (fun q_4 => ?_)
  refine lv_iload_n hx hb dX5_answer_16 rfl (lv_at hl 3 rfl) ?_
  refine x_callS (As := [.int (nI x)]) (rest := []) hC sf_X5_103 (k5_isExponent l x hx0) ⟨rfl, rfl, Nat.le_of_ble_eq_true rfl, Nat.le_of_ble_eq_true rfl⟩ hl.1 (Nat.le_of_ble_eq_true rfl) dX5_answer_17 ⟨Nat.zero_le _, Nat.zero_le _⟩ rfl ?_
  refine lv_if_eq (tgt := 27) hx hb dX5_answer_20 (by decide) (fun q_5 => absurd q_5 (by decide)) (fun q_5 => ?_)
  refine lv_iconst (v := nI 1) hx hb dX5_answer_23 (by decide) ?_
  refine lv_goto (tgt := 28) hx hb dX5_answer_24 (by decide) ?_
  refine lv_istore (lv' := [(4, .int (nI 1)), (0, .ref (ad 77)), (1, .int (nI i)), (2, .int (nI k)), (3, .int (nI x))]) hx hb dX5_answer_28 hl (by decide) rfl (fun ls hl => ?_)
  refine lv_aload_n hx hb dX5_answer_30 rfl (lv_at hl 1 rfl) ?_
  refine lv_iload hx hb dX5_answer_31 (lv_at hl 0 rfl) ?_
  refine lv_if_ne (tgt := 40) hx hb dX5_answer_33 (by decide) (fun q_6 => ?_) (fun q_6 => absurd q_6 (by decide))
  refine lv_aload_n hx hb dX5_answer_40 rfl (lv_at hl 1 rfl) ?_
  refine gf_X5_71 hx hb hts hown hw (by decide) hM rfl dX5_answer_41 ?_
  refine lv_if_ne (tgt := 61) hx hb dX5_answer_44 (by decide) (fun q_7 => absurd (by decide) q_7) (fun q_7 => ?_)
  refine lv_aload_n hx hb dX5_answer_47 rfl (lv_at hl 1 rfl) ?_
  refine gf_X5_26 hx hb hts hown hw (by decide) hM rfl dX5_answer_48 ?_
  refine lv_bipush (v := nI 17) hx hb dX5_answer_51 (by decide) ?_
  refine lv_iload_n hx hb dX5_answer_53 rfl (lv_at hl 2 rfl) ?_
  refine t_imul hx hb dX5_answer_54 (v := nI (17 * i)) (pk_mul _ _) ?_
  refine lv_iload_n hx hb dX5_answer_55 rfl (lv_at hl 3 rfl) ?_
  refine t_iadd hx hb dX5_answer_56 (v := nI (17 * i + k)) (nI_add _ _) ?_
  refine x_zald hx hb hw (by decide) 2 hXf rfl (j := 17 * i + k) (by omega) (by decide) (by rw [hxx i k (by omega) (by omega), hcp0]) dX5_answer_57 ?_
  refine lv_if_ne (tgt := 65) hx hb dX5_answer_58 (by decide) (fun q_8 => ?_) (fun q_8 => absurd q_8 (by decide))
  refine lv_iconst (v := nI 0) hx hb dX5_answer_65 (by decide) ?_
  refine x_callW1 (As := [.int (nI 0)]) (rest := []) hC vf_X5_64 hw hA (by decide) hM rfl rfl (k5_refuses0 l _ _ _ _ _ _ _ _ hM) ⟨rfl, rfl, Nat.le_of_ble_eq_true rfl, Nat.le_of_ble_eq_true rfl⟩ hl.1 (Nat.le_of_ble_eq_true rfl) dX5_answer_66 ⟨Nat.zero_le _, Nat.zero_le _⟩ rfl (fun w_10 H locs hu_9 hw => ?_)
  have hc_11 : w_10 77 = .inr (4, [.int (nI 0), .int (nI n), .int (nI t), .int (nI 0), .ref (ad 78), .ref (ad 79), .ref (ad 80), .ref (ad 81), .ref (ad 82), .ref (ad 83), .int (nI qu), .ref (ad 84), .ref (ad 85), .ref (ad 86), .int (nI en), .int (nI kp), .ref (ad 87), .long hs]) := by rw [hu_9]; exact va_up_self _ _ _
  have hc_12 : w_10 78 = .inl (cZ, 17, .inl dz) := by rw [hu_9, va_up_ne _ _ (by decide)]; exact hDz
  have hc_13 : w_10 79 = .inl (cZ, 17, .inl oz) := by rw [hu_9, va_up_ne _ _ (by decide)]; exact hOz
  have hc_14 : w_10 80 = .inl (cJ, 289, .inr (.inl cf)) := by rw [hu_9, va_up_ne _ _ (by decide)]; exact hCf
  have hc_15 : w_10 81 = .inl (cJ, 289, .inr (.inl mf)) := by rw [hu_9, va_up_ne _ _ (by decide)]; exact hMf
  have hc_16 : w_10 82 = .inl (cJ, 289, .inr (.inl sf)) := by rw [hu_9, va_up_ne _ _ (by decide)]; exact hSf
  have hc_17 : w_10 83 = .inl (cZ, 289, .inl xf) := by rw [hu_9, va_up_ne _ _ (by decide)]; exact hXf
  have hc_18 : w_10 84 = .inl (cJ, 17, .inr (.inl kyf)) := by rw [hu_9, va_up_ne _ _ (by decide)]; exact hKy
  have hc_19 : w_10 85 = .inl (cJ, 17, .inr (.inl swf)) := by rw [hu_9, va_up_ne _ _ (by decide)]; exact hSw
  have hc_20 : w_10 86 = .inl (cJ, 301, .inr (.inl vlf)) := by rw [hu_9, va_up_ne _ _ (by decide)]; exact hVl
  have hc_21 : w_10 87 = .inl (cJ, 17, .inr (.inl plf)) := by rw [hu_9, va_up_ne _ _ (by decide)]; exact hPl
  refine lv_if_eq (tgt := 74) hx hb dX5_answer_69 (by decide) (fun q_22 => ?_) (fun q_22 => absurd (by decide) q_22)
  have hdl : dl i = 1 := (hcb i k hcp0).2
  obtain ⟨e1, e2⟩ := hcs i hi1 hi2 hdl
  have hv1 := (hvals i hi1 hi2 hdl).1
  obtain ⟨g1, g2, g3⟩ := hle i
  refine lv_iload_n hx hb dX5_answer_74 rfl (lv_at hl 4 rfl) ?_
  refine lv_if_le (tgt := 87) hx hb dX5_answer_75 (by decide) (fun q8 => ?_) (fun q8 => absurd (by rw [hxp]; decide) q8)
  refine lv_aload_n hx hb dX5_answer_87 rfl (lv_at hl 1 rfl) ?_
  refine gf_X5_23 hx hb hts hown hw (by decide) hc_11 rfl dX5_answer_88 ?_
  refine lv_bipush (v := nI 17) hx hb dX5_answer_91 (by decide) ?_
  refine lv_iload_n hx hb dX5_answer_93 rfl (lv_at hl 2 rfl) ?_
  refine t_imul hx hb dX5_answer_94 (v := nI (17 * i)) (pk_mul _ _) ?_
  refine lv_iload_n hx hb dX5_answer_95 rfl (lv_at hl 3 rfl) ?_
  refine t_iadd hx hb dX5_answer_96 (v := nI (17 * i + k)) (nI_add _ _) ?_
  refine lv_aload_n hx hb dX5_answer_97 rfl (lv_at hl 1 rfl) ?_
  refine lv_iload_n hx hb dX5_answer_98 rfl (lv_at hl 2 rfl) ?_
  refine lv_iload_n hx hb dX5_answer_99 rfl (lv_at hl 3 rfl) ?_
  refine x_callW1 (As := [.int (nI i), .int (nI k)]) (rest := [.int (nI (17 * i + k)), .ref (ad 82)]) hC vf_X5_99 hw hA (by decide) hc_11 rfl rfl (k5_right l _ _ _ _ _ _ _ _ cf i k (by omega) (by omega) (by omega) (co i) (fun j hj => ⟨(e1 j hj).1, hv1 j hj⟩) hc_11 hc_14) ⟨rfl, rfl, Nat.le_of_ble_eq_true rfl, Nat.le_of_ble_eq_true rfl⟩ hl.1 (Nat.le_of_ble_eq_true rfl) dX5_answer_100 ⟨Nat.zero_le _, Nat.zero_le _⟩ rfl (fun w_23 H locs hu hw => ?_)
  rw [hu] at hw
  refine x_last hx hb hw (by decide) 1 hc_16 rfl (j := 17 * i + k) (by omega) (by decide) dX5_answer_103 (fun w_24 H locs ew_25 hw => ?_)
  have hc_26 : w_24 77 = .inr (4, [.int (nI 0), .int (nI n), .int (nI t), .int (nI 0), .ref (ad 78), .ref (ad 79), .ref (ad 80), .ref (ad 81), .ref (ad 82), .ref (ad 83), .int (nI qu), .ref (ad 84), .ref (ad 85), .ref (ad 86), .int (nI en), .int (nI kp), .ref (ad 87), .long hs]) := by rw [ew_25]; exact (va_up_ne _ _ (by omega)).trans hc_11
  have hc_27 : w_24 78 = .inl (cZ, 17, .inl dz) := by rw [ew_25]; exact (va_up_ne _ _ (by omega)).trans hc_12
  have hc_28 : w_24 79 = .inl (cZ, 17, .inl oz) := by rw [ew_25]; exact (va_up_ne _ _ (by omega)).trans hc_13
  have hc_29 : w_24 80 = .inl (cJ, 289, .inr (.inl cf)) := by rw [ew_25]; exact (va_up_ne _ _ (by omega)).trans hc_14
  have hc_30 : w_24 81 = .inl (cJ, 289, .inr (.inl mf)) := by rw [ew_25]; exact (va_up_ne _ _ (by omega)).trans hc_15
  have hc_31 : w_24 82 = .inl (cJ, 289, .inr (.inl (vp_updL sf (17 * i + k) (lN (rgt (co i) t k))))) := by rw [ew_25]; exact va_up_self _ _ _
  have hc_32 : w_24 83 = .inl (cZ, 289, .inl xf) := by rw [ew_25]; exact (va_up_ne _ _ (by omega)).trans hc_17
  have hc_33 : w_24 84 = .inl (cJ, 17, .inr (.inl kyf)) := by rw [ew_25]; exact (va_up_ne _ _ (by omega)).trans hc_18
  have hc_34 : w_24 85 = .inl (cJ, 17, .inr (.inl swf)) := by rw [ew_25]; exact (va_up_ne _ _ (by omega)).trans hc_19
  have hc_35 : w_24 86 = .inl (cJ, 301, .inr (.inl vlf)) := by rw [ew_25]; exact (va_up_ne _ _ (by omega)).trans hc_20
  have hc_36 : w_24 87 = .inl (cJ, 17, .inr (.inl plf)) := by rw [ew_25]; exact (va_up_ne _ _ (by omega)).trans hc_21
  refine lv_aload_n hx hb dX5_answer_104 rfl (lv_at hl 1 rfl) ?_
  refine gf_X5_26 hx hb hts hown hw (by decide) hc_26 rfl dX5_answer_105 ?_
  refine lv_bipush (v := nI 17) hx hb dX5_answer_108 (by decide) ?_
  refine lv_iload_n hx hb dX5_answer_110 rfl (lv_at hl 2 rfl) ?_
  refine t_imul hx hb dX5_answer_111 (v := nI (17 * i)) (pk_mul _ _) ?_
  refine lv_iload_n hx hb dX5_answer_112 rfl (lv_at hl 3 rfl) ?_
  refine t_iadd hx hb dX5_answer_113 (v := nI (17 * i + k)) (nI_add _ _) ?_
  refine lv_iconst (v := nI 0) hx hb dX5_answer_114 (by decide) ?_
  refine x_zast hx hb hw (by decide) 2 hc_32 rfl (j := 17 * i + k) (by omega) (by decide) (by decide) dX5_answer_115 (fun w_37 H locs ew_38 hw => ?_)
  have hc_39 : w_37 77 = .inr (4, [.int (nI 0), .int (nI n), .int (nI t), .int (nI 0), .ref (ad 78), .ref (ad 79), .ref (ad 80), .ref (ad 81), .ref (ad 82), .ref (ad 83), .int (nI qu), .ref (ad 84), .ref (ad 85), .ref (ad 86), .int (nI en), .int (nI kp), .ref (ad 87), .long hs]) := by rw [ew_38]; exact (va_up_ne _ _ (by omega)).trans hc_26
  have hc_40 : w_37 78 = .inl (cZ, 17, .inl dz) := by rw [ew_38]; exact (va_up_ne _ _ (by omega)).trans hc_27
  have hc_41 : w_37 79 = .inl (cZ, 17, .inl oz) := by rw [ew_38]; exact (va_up_ne _ _ (by omega)).trans hc_28
  have hc_42 : w_37 80 = .inl (cJ, 289, .inr (.inl cf)) := by rw [ew_38]; exact (va_up_ne _ _ (by omega)).trans hc_29
  have hc_43 : w_37 81 = .inl (cJ, 289, .inr (.inl mf)) := by rw [ew_38]; exact (va_up_ne _ _ (by omega)).trans hc_30
  have hc_44 : w_37 82 = .inl (cJ, 289, .inr (.inl (vp_updL sf (17 * i + k) (lN (rgt (co i) t k))))) := by rw [ew_38]; exact (va_up_ne _ _ (by omega)).trans hc_31
  have hc_45 : w_37 83 = .inl (cZ, 289, .inl (upd xf (17 * i + k) (nI 0))) := by rw [ew_38]; exact va_up_self _ _ _
  have hc_46 : w_37 84 = .inl (cJ, 17, .inr (.inl kyf)) := by rw [ew_38]; exact (va_up_ne _ _ (by omega)).trans hc_33
  have hc_47 : w_37 85 = .inl (cJ, 17, .inr (.inl swf)) := by rw [ew_38]; exact (va_up_ne _ _ (by omega)).trans hc_34
  have hc_48 : w_37 86 = .inl (cJ, 301, .inr (.inl vlf)) := by rw [ew_38]; exact (va_up_ne _ _ (by omega)).trans hc_35
  have hc_49 : w_37 87 = .inl (cJ, 17, .inr (.inl plf)) := by rw [ew_38]; exact (va_up_ne _ _ (by omega)).trans hc_36
  refine lv_iconst (v := nI 1) hx hb dX5_answer_116 (by decide) ?_
  have hfr : ∀ z, z ≠ 77 → z ≠ 82 → z ≠ 83 → w_37 z = w z := fun z hhfr0 hhfr1 hhfr2 => by rw [ew_38, va_up_ne _ _ hhfr2, ew_25, va_up_ne _ _ hhfr1, hu_9, va_up_ne _ _ hhfr0]
  refine x_wretZ hx hb hr hlocks (by decide) hw ⟨fun z hz => hfr z (by omega) (by omega) (by omega), ⟨_, hc_39⟩, RMd.of ⟨dz, oz, hDz, hOz, hdo⟩ (hfr 78 (by decide) (by decide) (by decide)) (hfr 79 (by decide) (by decide) (by decide)), ⟨cf, mf, _, hc_42, hc_43, hc_44, fun i9 h1 h2 h3 => ?_⟩, ⟨_, hc_45, fun i9 k9 h1 h2 => ?_⟩, RMk.of ⟨kyf, swf, hKy, hSw, hks⟩ (hfr 84 (by decide) (by decide) (by decide)) (hfr 85 (by decide) (by decide) (by decide)), RMv.of ⟨vlf, hVl, hvl⟩ (hfr 86 (by decide) (by decide) (by decide)), RMp.of ⟨plf, hPl, hpl⟩ (hfr 87 (by decide) (by decide) (by decide))⟩ dX5_answer_117
  · obtain ⟨f1, f2⟩ := hcs i9 h1 h2 h3
    refine ⟨f1, fun k9 h4 h5 => ?_⟩
    by_cases hii : i9 = i
    · subst hii; rw [va_up_self]
      by_cases hkk : k9 = k
      · subst hkk; rw [uL_s, va_up_self]
      · rw [uL_n _ _ (by omega), va_up_ne _ _ hkk]; exact f2 k9 h4 h5
    · rw [uL_n _ _ (by omega), va_up_ne _ _ hii]; exact f2 k9 h4 h5
  · by_cases hii : i9 = i
    · subst hii; rw [va_up_self, tb_clr g3 (by omega)]
      by_cases hkk : k9 = k
      · subst hkk; rw [upd_s, if_pos rfl]
      · rw [upd_n _ _ (by omega), if_neg hkk]; exact hxx i9 k9 h1 h2
    · rw [upd_n _ _ (by omega), va_up_ne _ _ hii]; exact hxx i9 k9 h1 h2
set_option maxHeartbeats 4000000 in
set_option maxRecDepth 100000 in
theorem m_answerS (l : Launch) {D : va_G} {cI cJ cZ cD : ClassId} {ad : Nat → Nat} {w : Nat → va_E} {sz : Nat} (n t cl qu en kp : Nat) (dl ou cp ks pt : Nat → Nat) (co sh : Nat → Nat → Nat) (vs : Nat → Int64) (cd : Int32) (hok : OkS n t cl qu en kp dl ou cp ks pt co sh) (hRM : RM ad cJ cZ w cd n t cl qu en kp dl ou cp ks pt co sh vs) (i k : Nat) (hi1 : 1 ≤ i) (hi2 : i ≤ n) (hk1 : 1 ≤ k) (hk2 : k ≤ n) (x : Nat) (hx0 : x < 1073741789) (hbad : cl = 1 ∨ ¬ tb (cp i) k = 1)  : MW l yX5_answer (.code yX5_answer cX5_answer 5 (some .boolean)) ({ frames := 1, cells := 0, slots := 0, locals := 35 }) [.ref (ad 77), .int (nI i), .int (nI k), .int (nI x)] D (tyL cI cJ cZ cD) ad 89 w sz (some (.int (nI 0))) (fun u => (∀ z, z < 77 ∨ 87 < z → u z = w z) ∧ RM ad cJ cZ u (nI 2) n t cl qu en kp dl ou cp ks pt co sh vs) := by
  refine MW.of (by decide) (Nat.le_of_ble_eq_true rfl) ?_
  intro p e s m below meth c ls hC hr hlocks hl hw
  obtain ⟨hx, hb, hml, hown, hts⟩ := id hC
  have hA : ∀ q, s.heap.size ≤ q → xA ad 89 s.heap.size q := fun q h => Or.inr h
  have hl : lv_has ls 5 [(0, .ref (ad 77)), (1, .int (nI i)), (2, .int (nI k)), (3, .int (nI x))] := hl
  obtain ⟨⟨hs, hM⟩, ⟨dz, oz, hDz, hOz, hdo⟩, ⟨cf, mf, sf, hCf, hMf, hSf, hcs⟩, ⟨xf, hXf, hxx⟩, ⟨kyf, swf, hKy, hSw, hks⟩, ⟨vlf, hVl, hvl⟩, ⟨plf, hPl, hpl⟩⟩ := id hRM
  obtain ⟨⟨hn, ht, hcl, hqu, hen, hkp⟩, hle, ⟨hqb, hkb, hcb⟩, hvals, hclv, hptl, ⟨hz1, hz2, hz3⟩⟩ := id hok
  refine lv_aload_n hx hb dX5_answer_0 rfl (lv_at hl 0 rfl) ?_
  refine lv_iload_n hx hb dX5_answer_1 rfl (lv_at hl 1 rfl) ?_
  refine x_callW1 (As := [.int (nI i)]) (rest := []) hC vf_X5_84 hw hA (by decide) hM rfl rfl (k5_isNode l _ _ _ _ _ _ _ _ hn i hi1 hi2 hM) ⟨rfl, rfl, Nat.le_of_ble_eq_true rfl, Nat.le_of_ble_eq_true rfl⟩ hl.1 (Nat.le_of_ble_eq_true rfl) dX5_answer_2 ⟨Nat.zero_le _, Nat.zero_le _⟩ rfl (fun w_1 H locs hu hw => ?_)
  rw [hu] at hw
  refine lv_if_eq (tgt := 27) hx hb dX5_answer_5 (by decide) (fun q_2 => absurd q_2 (by decide)) (fun q_2 => ?_)
  refine lv_aload_n hx hb dX5_answer_8 rfl (lv_at hl 0 rfl) ?_
  refine lv_iload_n hx hb dX5_answer_9 rfl (lv_at hl 2 rfl) ?_
  refine x_callW1 (As := [.int (nI k)]) (rest := []) hC vf_X5_84 hw hA (by decide) hM rfl rfl (k5_isNode l _ _ _ _ _ _ _ _ hn k hk1 hk2 hM) ⟨rfl, rfl, Nat.le_of_ble_eq_true rfl, Nat.le_of_ble_eq_true rfl⟩ hl.1 (Nat.le_of_ble_eq_true rfl) dX5_answer_10 ⟨Nat.zero_le _, Nat.zero_le _⟩ rfl (fun w_3 H locs hu hw => ?_)
  rw [hu] at hw
  refine lv_if_eq (tgt := 27) hx hb dX5_answer_13 (by decide) (fun q_4 => absurd q_4 (by decide)) (fun q_4 => ?_)
  refine lv_iload_n hx hb dX5_answer_16 rfl (lv_at hl 3 rfl) ?_
  refine x_callS (As := [.int (nI x)]) (rest := []) hC sf_X5_103 (k5_isExponent l x hx0) ⟨rfl, rfl, Nat.le_of_ble_eq_true rfl, Nat.le_of_ble_eq_true rfl⟩ hl.1 (Nat.le_of_ble_eq_true rfl) dX5_answer_17 ⟨Nat.zero_le _, Nat.zero_le _⟩ rfl ?_
  refine lv_if_eq (tgt := 27) hx hb dX5_answer_20 (by decide) (fun q_5 => absurd q_5 (by decide)) (fun q_5 => ?_)
  refine lv_iconst (v := nI 1) hx hb dX5_answer_23 (by decide) ?_
  refine lv_goto (tgt := 28) hx hb dX5_answer_24 (by decide) ?_
  refine lv_istore (lv' := [(4, .int (nI 1)), (0, .ref (ad 77)), (1, .int (nI i)), (2, .int (nI k)), (3, .int (nI x))]) hx hb dX5_answer_28 hl (by decide) rfl (fun ls hl => ?_)
  refine lv_aload_n hx hb dX5_answer_30 rfl (lv_at hl 1 rfl) ?_
  refine lv_iload hx hb dX5_answer_31 (lv_at hl 0 rfl) ?_
  refine lv_if_ne (tgt := 40) hx hb dX5_answer_33 (by decide) (fun q_6 => ?_) (fun q_6 => absurd q_6 (by decide))
  have htb := tb_lt (cp i) k
  refine lv_aload_n hx hb dX5_answer_40 rfl (lv_at hl 1 rfl) ?_
  refine gf_X5_71 hx hb hts hown hw (by decide) hM rfl dX5_answer_41 ?_
  refine lv_if_ne (tgt := 61) hx hb dX5_answer_44 (by decide) (fun q1 => ?_) (fun q1 => ?_)
  · rw [nI_z (by omega)] at q1
    refine lv_iconst (v := nI 2) hx hb dX5_answer_61 (by decide) ?_
    refine lv_goto (tgt := 66) hx hb dX5_answer_62 (by decide) ?_
    refine x_callW1 (As := [.int (nI 2)]) (rest := []) hC vf_X5_64 hw hA (by decide) hM rfl rfl (k5_refuses2 l _ _ _ _ _ _ _ _ hM) ⟨rfl, rfl, Nat.le_of_ble_eq_true rfl, Nat.le_of_ble_eq_true rfl⟩ hl.1 (Nat.le_of_ble_eq_true rfl) dX5_answer_66 ⟨Nat.zero_le _, Nat.zero_le _⟩ rfl (fun w_8 H locs hu_7 hw => ?_)
    have hc_9 : w_8 77 = .inr (4, [.int (nI 2), .int (nI n), .int (nI t), .int (nI cl), .ref (ad 78), .ref (ad 79), .ref (ad 80), .ref (ad 81), .ref (ad 82), .ref (ad 83), .int (nI qu), .ref (ad 84), .ref (ad 85), .ref (ad 86), .int (nI en), .int (nI kp), .ref (ad 87), .long hs]) := by rw [hu_7]; exact va_up_self _ _ _
    have hc_10 : w_8 78 = .inl (cZ, 17, .inl dz) := by rw [hu_7, va_up_ne _ _ (by decide)]; exact hDz
    have hc_11 : w_8 79 = .inl (cZ, 17, .inl oz) := by rw [hu_7, va_up_ne _ _ (by decide)]; exact hOz
    have hc_12 : w_8 80 = .inl (cJ, 289, .inr (.inl cf)) := by rw [hu_7, va_up_ne _ _ (by decide)]; exact hCf
    have hc_13 : w_8 81 = .inl (cJ, 289, .inr (.inl mf)) := by rw [hu_7, va_up_ne _ _ (by decide)]; exact hMf
    have hc_14 : w_8 82 = .inl (cJ, 289, .inr (.inl sf)) := by rw [hu_7, va_up_ne _ _ (by decide)]; exact hSf
    have hc_15 : w_8 83 = .inl (cZ, 289, .inl xf) := by rw [hu_7, va_up_ne _ _ (by decide)]; exact hXf
    have hc_16 : w_8 84 = .inl (cJ, 17, .inr (.inl kyf)) := by rw [hu_7, va_up_ne _ _ (by decide)]; exact hKy
    have hc_17 : w_8 85 = .inl (cJ, 17, .inr (.inl swf)) := by rw [hu_7, va_up_ne _ _ (by decide)]; exact hSw
    have hc_18 : w_8 86 = .inl (cJ, 301, .inr (.inl vlf)) := by rw [hu_7, va_up_ne _ _ (by decide)]; exact hVl
    have hc_19 : w_8 87 = .inl (cJ, 17, .inr (.inl plf)) := by rw [hu_7, va_up_ne _ _ (by decide)]; exact hPl
    refine lv_if_eq (tgt := 74) hx hb dX5_answer_69 (by decide) (fun q_20 => absurd q_20 (by decide)) (fun q_20 => ?_)
    refine lv_iconst (v := nI 0) hx hb dX5_answer_72 (by decide) ?_
    have hfr : ∀ z, z ≠ 77 → w_8 z = w z := fun z hhfr0 => by rw [hu_7, va_up_ne _ _ hhfr0]
    exact x_wretZ hx hb hr hlocks (by decide) hw ⟨fun z hz => hfr z (by omega), RM.set77 hRM hfr hc_9⟩ dX5_answer_73
  · rw [nI_z (by omega)] at q1
    refine lv_aload_n hx hb dX5_answer_47 rfl (lv_at hl 1 rfl) ?_
    refine gf_X5_26 hx hb hts hown hw (by decide) hM rfl dX5_answer_48 ?_
    refine lv_bipush (v := nI 17) hx hb dX5_answer_51 (by decide) ?_
    refine lv_iload_n hx hb dX5_answer_53 rfl (lv_at hl 2 rfl) ?_
    refine t_imul hx hb dX5_answer_54 (v := nI (17 * i)) (pk_mul _ _) ?_
    refine lv_iload_n hx hb dX5_answer_55 rfl (lv_at hl 3 rfl) ?_
    refine t_iadd hx hb dX5_answer_56 (v := nI (17 * i + k)) (nI_add _ _) ?_
    refine x_zald hx hb hw (by decide) 2 hXf rfl (j := 17 * i + k) (by omega) (by decide) (hxx i k (by omega) (by omega)) dX5_answer_57 ?_
    refine lv_if_ne (tgt := 65) hx hb dX5_answer_58 (by decide) (fun q2 => absurd ((nI_z (by omega)).mpr (by omega)) q2) (fun q2 => ?_)
    refine lv_iconst (v := nI 2) hx hb dX5_answer_61 (by decide) ?_
    refine lv_goto (tgt := 66) hx hb dX5_answer_62 (by decide) ?_
    refine x_callW1 (As := [.int (nI 2)]) (rest := []) hC vf_X5_64 hw hA (by decide) hM rfl rfl (k5_refuses2 l _ _ _ _ _ _ _ _ hM) ⟨rfl, rfl, Nat.le_of_ble_eq_true rfl, Nat.le_of_ble_eq_true rfl⟩ hl.1 (Nat.le_of_ble_eq_true rfl) dX5_answer_66 ⟨Nat.zero_le _, Nat.zero_le _⟩ rfl (fun w_22 H locs hu_21 hw => ?_)
    have hc_23 : w_22 77 = .inr (4, [.int (nI 2), .int (nI n), .int (nI t), .int (nI cl), .ref (ad 78), .ref (ad 79), .ref (ad 80), .ref (ad 81), .ref (ad 82), .ref (ad 83), .int (nI qu), .ref (ad 84), .ref (ad 85), .ref (ad 86), .int (nI en), .int (nI kp), .ref (ad 87), .long hs]) := by rw [hu_21]; exact va_up_self _ _ _
    have hc_24 : w_22 78 = .inl (cZ, 17, .inl dz) := by rw [hu_21, va_up_ne _ _ (by decide)]; exact hDz
    have hc_25 : w_22 79 = .inl (cZ, 17, .inl oz) := by rw [hu_21, va_up_ne _ _ (by decide)]; exact hOz
    have hc_26 : w_22 80 = .inl (cJ, 289, .inr (.inl cf)) := by rw [hu_21, va_up_ne _ _ (by decide)]; exact hCf
    have hc_27 : w_22 81 = .inl (cJ, 289, .inr (.inl mf)) := by rw [hu_21, va_up_ne _ _ (by decide)]; exact hMf
    have hc_28 : w_22 82 = .inl (cJ, 289, .inr (.inl sf)) := by rw [hu_21, va_up_ne _ _ (by decide)]; exact hSf
    have hc_29 : w_22 83 = .inl (cZ, 289, .inl xf) := by rw [hu_21, va_up_ne _ _ (by decide)]; exact hXf
    have hc_30 : w_22 84 = .inl (cJ, 17, .inr (.inl kyf)) := by rw [hu_21, va_up_ne _ _ (by decide)]; exact hKy
    have hc_31 : w_22 85 = .inl (cJ, 17, .inr (.inl swf)) := by rw [hu_21, va_up_ne _ _ (by decide)]; exact hSw
    have hc_32 : w_22 86 = .inl (cJ, 301, .inr (.inl vlf)) := by rw [hu_21, va_up_ne _ _ (by decide)]; exact hVl
    have hc_33 : w_22 87 = .inl (cJ, 17, .inr (.inl plf)) := by rw [hu_21, va_up_ne _ _ (by decide)]; exact hPl
    refine lv_if_eq (tgt := 74) hx hb dX5_answer_69 (by decide) (fun q_34 => absurd q_34 (by decide)) (fun q_34 => ?_)
    refine lv_iconst (v := nI 0) hx hb dX5_answer_72 (by decide) ?_
    have hfr : ∀ z, z ≠ 77 → w_22 z = w z := fun z hhfr0 => by rw [hu_21, va_up_ne _ _ hhfr0]
    exact x_wretZ hx hb hr hlocks (by decide) hw ⟨fun z hz => hfr z (by omega), RM.set77 hRM hfr hc_23⟩ dX5_answer_73
