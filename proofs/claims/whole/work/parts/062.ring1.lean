/-! the ring: its dealers in the world; counts; keys -/
def RCd (ad : Nat → Nat) (cI : ClassId) (w : Nat → va_E) (n t : Nat) (dl ou cp : Nat → Nat) (co sh : Nat → Nat → Nat) : Prop :=
  ∀ i, i < 17 → ∃ cm rt gv : Nat → Int32, w (2 + 4 * i) = .inr (0, [.ref (ad (3 + 4 * i)), .ref (ad (4 + 4 * i)), .ref (ad (5 + 4 * i)), .int (nI (cp i)), .int (nI (dl i)), .int (nI (ou i))]) ∧ w (3 + 4 * i) = .inl (cI, 16, .inl cm) ∧ w (4 + 4 * i) = .inl (cI, 17, .inl rt) ∧ w (5 + 4 * i) = .inl (cI, 17, .inl gv) ∧
    (1 ≤ i → i ≤ n → dl i = 1 → (∀ j, j < t → cm j = nI (4 ^ co i j % 2147483579)) ∧ ∀ k, 1 ≤ k → k ≤ n → rt k = nI (rgt (co i) t k) ∧ gv k = nI (sh i k))
theorem RCd.of {ad : Nat → Nat} {cI : ClassId} {w u : Nat → va_E} {n t : Nat} {dl ou cp : Nat → Nat} {co sh : Nat → Nat → Nat} (h : RCd ad cI w n t dl ou cp co sh) (he : ∀ z, 2 ≤ z → z ≤ 69 → u z = w z) : RCd ad cI u n t dl ou cp co sh := by
  intro i hi
  obtain ⟨cm, rt, gv, h1, h2, h3, h4, h5⟩ := h i hi
  exact ⟨cm, rt, gv, (he _ (by omega) (by omega)).trans h1, (he _ (by omega) (by omega)).trans h2, (he _ (by omega) (by omega)).trans h3, (he _ (by omega) (by omega)).trans h4, h5⟩
def cnt (f : Nat → Nat) : Nat → Nat
  | 0 => 0
  | k + 1 => cnt f k + f (k + 1)
theorem cnt_le {f : Nat → Nat} {b : Nat} (h : ∀ i, f i ≤ b) : ∀ k, cnt f k ≤ k * b := by
  intro k
  induction k with
  | zero => exact Nat.zero_le _
  | succ k ih =>
    have := h (k + 1)
    show cnt f k + f (k + 1) ≤ _
    rw [Nat.succ_mul]
    omega
theorem pcN_le (b : Nat) : pcN b ≤ 17 := by
  unfold pcN
  have h := fun k => tb_lt b k
  have h0 := h 0; have h1 := h 1; have h2 := h 2; have h3 := h 3; have h4 := h 4; have h5 := h 5; have h6 := h 6; have h7 := h 7; have h8 := h 8
  have h9 := h 9; have h10 := h 10; have h11 := h 11; have h12 := h 12; have h13 := h 13; have h14 := h 14; have h15 := h 15; have h16 := h 16
  omega
def qf (dl ou cp : Nat → Nat) : Nat → Nat
  | 0 => 0
  | k + 1 => if dl (k + 1) = 1 ∧ ou (k + 1) = 0 ∧ cp (k + 1) = 0 then qf dl ou cp k ||| 2 ^ (k + 1) else qf dl ou cp k
theorem qf_lt (dl ou cp : Nat → Nat) : ∀ k, k ≤ 16 → qf dl ou cp k < 2 ^ 17 := by
  intro k
  induction k with
  | zero => intro _; exact (by decide : 0 < 2 ^ 17)
  | succ k ih =>
    intro hk
    show (if _ then _ else _) < _
    by_cases h : dl (k + 1) = 1 ∧ ou (k + 1) = 0 ∧ cp (k + 1) = 0
    · rw [if_pos h]; exact or_lt (ih (by omega)) (by omega)
    · rw [if_neg h]; exact ih (by omega)
def ssm (qu : Nat) (sh : Nat → Nat → Nat) (k : Nat) : Nat → Nat
  | 0 => 0
  | i + 1 => ssm qu sh k i + (if tb qu (i + 1) = 1 then sh (i + 1) k else 0)
def wpk (qu : Nat) (co : Nat → Nat → Nat) : Nat → Nat
  | 0 => 1
  | i + 1 => if tb qu (i + 1) = 1 then wpk qu co i * (4 ^ co (i + 1) 0 % 2147483579) % 2147483579 else wpk qu co i
theorem wpk_lt (qu : Nat) (co : Nat → Nat → Nat) : ∀ i, wpk qu co i < 2147483579 := by
  intro i
  induction i with
  | zero => exact (by decide : 1 < 2147483579)
  | succ i ih =>
    show (if _ then _ else _) < _
    by_cases h : tb qu (i + 1) = 1
    · rw [if_pos h]; exact Nat.mod_lt _ (by decide)
    · rw [if_neg h]; exact ih

set_option maxHeartbeats 4000000 in
set_option maxRecDepth 100000 in
theorem k_countDealt_loop {l : Launch} {p : Program} {e : Env} {s : State} {m : MethodId} {args : Array Value} {below : List Frame} {meth : Method} {c : Code} {Q : State → Prop} {D : va_G} {cI cJ cZ cD : ClassId} {ad : Nat → Nat} {A : Nat → Prop} {H0 : Heap} {w : Nat → va_E} (hC : CallFix p m c cX4_countDealt 3 s args wsL_law RX4) (hA : ∀ q, H0.size ≤ q → A q) (n t cl qu : Nat) (wh : Int32) (hn : n ≤ 16) (df : Nat → Option Nat) (hdf : ∀ i, i < 17 → df i = some (ad (2 + 4 * i))) (dl ou cp : Nat → Nat) (co sh : Nat → Nat → Nat) (hRd : RCd ad cI w n t dl ou cp co sh) (hle : ∀ i, dl i ≤ 1) (h0 : w 0 = .inr (3, [.ref (ad 1), .ref (ad 70), .ref (ad 71), .ref (ad 72), .ref (ad 76), .int (nI n), .int (nI t), .int (nI cl), .int (nI qu), .int wh])) (hDa : w 1 = .inl (cD, 17, .inr (.inr (.inr (.inr df)))))
    (kx : ∀ (ls : Array Slot) (H : Heap) (locs : List Loc), WW D vwCl (tyL cI cJ cZ cD) A H0 ad 89 w s H locs → lv_has ls 3 [(1, .int (nI (cnt dl n)))] → W p l e ({ frames := 0, cells := 0, slots := 0, locals := 0 }) s m args below meth c H locs 0 0 Q (F0 m 38 ls [])) :
    ∀ (j q : Nat) (ls : Array Slot) (H : Heap) (locs : List Loc), q + j = n → WW D vwCl (tyL cI cJ cZ cD) A H0 ad 89 w s H locs → lv_has ls 3 [(0, .ref (ad 0)), (1, .int (nI (cnt dl q))), (2, .int (nI (q + 1)))] → W p l e ({ frames := 0, cells := 0, slots := 0, locals := 0 }) s m args below meth c H locs 0 0 Q (F0 m 4 ls []) := by
  obtain ⟨hx, hb, hml, hown, hts⟩ := id hC
  intro j
  induction j with
  | zero =>
    intro q ls H locs hq hw hl
    obtain rfl : q = n := by omega
    refine lv_iload_n hx hb dX4_countDealt_4 rfl (lv_at hl 2 rfl) ?_
    refine lv_aload_n hx hb dX4_countDealt_5 rfl (lv_at hl 0 rfl) ?_
    refine gf_X4_44 hx hb hts hown hw (by decide) h0 rfl dX4_countDealt_6 ?_
    refine lv_icmp_gt (tgt := 38) hx hb dX4_countDealt_9 (by decide) (fun hc => ?_) (fun hc => absurd (nI_lt (by omega) (by omega)) hc)
    exact kx ls H locs hw (lv_sub hl [1] rfl)
  | succ j ih =>
    intro q ls H locs hq hw hl
    refine lv_iload_n hx hb dX4_countDealt_4 rfl (lv_at hl 2 rfl) ?_
    refine lv_aload_n hx hb dX4_countDealt_5 rfl (lv_at hl 0 rfl) ?_
    refine gf_X4_44 hx hb hts hown hw (by decide) h0 rfl dX4_countDealt_6 ?_
    refine lv_icmp_gt (tgt := 38) hx hb dX4_countDealt_9 (by decide) (fun hc => absurd hc (nI_nlt (by omega) (by omega))) (fun hc => ?_)
    obtain ⟨cm, rt, gv, hD, hCm, hRt, hGv, hval⟩ := hRd (q + 1) (by omega)
    have hcl := cnt_le hle q
    have h01 := hle (q + 1)
    refine lv_iload_n hx hb dX4_countDealt_12 rfl (lv_at hl 1 rfl) ?_
    refine lv_aload_n hx hb dX4_countDealt_13 rfl (lv_at hl 0 rfl) ?_
    refine gf_X4_11 hx hb hts hown hw (by decide) h0 rfl dX4_countDealt_14 ?_
    refine lv_iload_n hx hb dX4_countDealt_17 rfl (lv_at hl 2 rfl) ?_
    refine x_aald hx hb hw (by decide) 3 hDa rfl (j := q + 1) (by omega) (by decide) (hdf _ (by omega)) dX4_countDealt_18 ?_
    refine gf_X4_69 hx hb hts hown hw (by omega) hD rfl dX4_countDealt_19 ?_
    refine lv_if_eq (tgt := 29) hx hb dX4_countDealt_22 (by decide) (fun hc2 => ?_) (fun hc2 => ?_)
    · rw [nI_z (by omega)] at hc2
      refine lv_iconst (v := nI 0) hx hb dX4_countDealt_29 (by decide) ?_
      refine t_iadd hx hb dX4_countDealt_30 (v := nI (cnt dl q + 0)) (nI_add _ _) ?_
      refine lv_istore_n (lv' := [(1, .int (nI (cnt dl q + 0))), (0, .ref (ad 0)), (2, .int (nI (q + 1)))]) hx hb dX4_countDealt_31 rfl hl (by decide) rfl (fun ls hl => ?_)
      refine lv_iinc (v := nI (q + 1 + 1)) (lv' := [(2, .int (nI (q + 1 + 1))), (1, .int (nI (cnt dl q + 0))), (0, .ref (ad 0))]) hx hb dX4_countDealt_32 hl (k := 2) rfl (nI_1 (q + 1)) (by decide) rfl (fun ls hl => ?_)
      refine lv_goto (tgt := 4) hx hb dX4_countDealt_35 (by decide) ?_
      exact ih (q + 1) ls H locs (by omega) hw (lv_sub hl [2, 1, 0] (by rw [show cnt dl (q + 1) = cnt dl q + 0 from by show cnt dl q + dl (q + 1) = _; rw [hc2]]; rfl))
    · rw [nI_z (by omega)] at hc2
      refine lv_iconst (v := nI 1) hx hb dX4_countDealt_25 (by decide) ?_
      refine lv_goto (tgt := 30) hx hb dX4_countDealt_26 (by decide) ?_
      refine t_iadd hx hb dX4_countDealt_30 (v := nI (cnt dl q + 1)) (nI_add _ _) ?_
      refine lv_istore_n (lv' := [(1, .int (nI (cnt dl q + 1))), (0, .ref (ad 0)), (2, .int (nI (q + 1)))]) hx hb dX4_countDealt_31 rfl hl (by decide) rfl (fun ls hl => ?_)
      refine lv_iinc (v := nI (q + 1 + 1)) (lv' := [(2, .int (nI (q + 1 + 1))), (1, .int (nI (cnt dl q + 1))), (0, .ref (ad 0))]) hx hb dX4_countDealt_32 hl (k := 2) rfl (nI_1 (q + 1)) (by decide) rfl (fun ls hl => ?_)
      refine lv_goto (tgt := 4) hx hb dX4_countDealt_35 (by decide) ?_
      exact ih (q + 1) ls H locs (by omega) hw (lv_sub hl [2, 1, 0] (by rw [show cnt dl (q + 1) = cnt dl q + 1 from by show cnt dl q + dl (q + 1) = _; rw [show dl (q + 1) = 1 by omega]]; rfl))
set_option maxHeartbeats 4000000 in
set_option maxRecDepth 100000 in
theorem k_countDealt (l : Launch) {D : va_G} {cI cJ cZ cD : ClassId} {ad : Nat → Nat} {w : Nat → va_E} {sz : Nat} (n t cl qu : Nat) (wh : Int32) (hn : n ≤ 16) (df : Nat → Option Nat) (hdf : ∀ i, i < 17 → df i = some (ad (2 + 4 * i))) (dl ou cp : Nat → Nat) (co sh : Nat → Nat → Nat) (hRd : RCd ad cI w n t dl ou cp co sh) (hle : ∀ i, dl i ≤ 1) (h0 : w 0 = .inr (3, [.ref (ad 1), .ref (ad 70), .ref (ad 71), .ref (ad 72), .ref (ad 76), .int (nI n), .int (nI t), .int (nI cl), .int (nI qu), .int wh])) (hDa : w 1 = .inl (cD, 17, .inr (.inr (.inr (.inr df))))) : MW l yX4_countDealt (.code yX4_countDealt cX4_countDealt 3 (some .int)) ({ frames := 0, cells := 0, slots := 0, locals := 0 }) [.ref (ad 0)] D (tyL cI cJ cZ cD) ad 89 w sz (some (.int (nI (cnt dl n)))) (fun u => u = w) := by
  refine MW.of (by decide) (Nat.le_of_ble_eq_true rfl) ?_
  intro p e s m below meth c ls hC hr hlocks hl hw
  obtain ⟨hx, hb, hml, hown, hts⟩ := id hC
  have hA : ∀ q, s.heap.size ≤ q → xA ad 89 s.heap.size q := fun q h => Or.inr h
  have hl : lv_has ls 3 [(0, .ref (ad 0))] := hl
  refine lv_iconst (v := nI 0) hx hb dX4_countDealt_0 (by decide) ?_
  refine lv_istore_n (lv' := [(1, .int (nI 0)), (0, .ref (ad 0))]) hx hb dX4_countDealt_1 rfl hl (by decide) rfl (fun ls hl => ?_)
  refine lv_iconst (v := nI 1) hx hb dX4_countDealt_2 (by decide) ?_
  refine lv_istore_n (lv' := [(2, .int (nI 1)), (1, .int (nI 0)), (0, .ref (ad 0))]) hx hb dX4_countDealt_3 rfl hl (by decide) rfl (fun ls hl => ?_)
  refine k_countDealt_loop hC hA n t cl qu wh hn df hdf dl ou cp co sh hRd hle h0 hDa (fun ls H locs hw hl => ?_) n 0 ls s.heap [] (by omega) hw (lv_sub hl [2, 1, 0] rfl)
  refine lv_iload_n hx hb dX4_countDealt_38 rfl (lv_at hl 0 rfl) ?_
  exact x_wretI hx hb hr hlocks hw rfl dX4_countDealt_39
set_option maxHeartbeats 4000000 in
set_option maxRecDepth 100000 in
theorem k_countOut_loop {l : Launch} {p : Program} {e : Env} {s : State} {m : MethodId} {args : Array Value} {below : List Frame} {meth : Method} {c : Code} {Q : State → Prop} {D : va_G} {cI cJ cZ cD : ClassId} {ad : Nat → Nat} {A : Nat → Prop} {H0 : Heap} {w : Nat → va_E} (hC : CallFix p m c cX4_countOut 3 s args wsL_law RX4) (hA : ∀ q, H0.size ≤ q → A q) (n t cl qu : Nat) (wh : Int32) (hn : n ≤ 16) (df : Nat → Option Nat) (hdf : ∀ i, i < 17 → df i = some (ad (2 + 4 * i))) (dl ou cp : Nat → Nat) (co sh : Nat → Nat → Nat) (hRd : RCd ad cI w n t dl ou cp co sh) (hle : ∀ i, ou i ≤ 1) (h0 : w 0 = .inr (3, [.ref (ad 1), .ref (ad 70), .ref (ad 71), .ref (ad 72), .ref (ad 76), .int (nI n), .int (nI t), .int (nI cl), .int (nI qu), .int wh])) (hDa : w 1 = .inl (cD, 17, .inr (.inr (.inr (.inr df)))))
    (kx : ∀ (ls : Array Slot) (H : Heap) (locs : List Loc), WW D vwCl (tyL cI cJ cZ cD) A H0 ad 89 w s H locs → lv_has ls 3 [(1, .int (nI (cnt ou n)))] → W p l e ({ frames := 0, cells := 0, slots := 0, locals := 0 }) s m args below meth c H locs 0 0 Q (F0 m 38 ls [])) :
    ∀ (j q : Nat) (ls : Array Slot) (H : Heap) (locs : List Loc), q + j = n → WW D vwCl (tyL cI cJ cZ cD) A H0 ad 89 w s H locs → lv_has ls 3 [(0, .ref (ad 0)), (1, .int (nI (cnt ou q))), (2, .int (nI (q + 1)))] → W p l e ({ frames := 0, cells := 0, slots := 0, locals := 0 }) s m args below meth c H locs 0 0 Q (F0 m 4 ls []) := by
  obtain ⟨hx, hb, hml, hown, hts⟩ := id hC
  intro j
  induction j with
  | zero =>
    intro q ls H locs hq hw hl
    obtain rfl : q = n := by omega
    refine lv_iload_n hx hb dX4_countOut_4 rfl (lv_at hl 2 rfl) ?_
    refine lv_aload_n hx hb dX4_countOut_5 rfl (lv_at hl 0 rfl) ?_
    refine gf_X4_44 hx hb hts hown hw (by decide) h0 rfl dX4_countOut_6 ?_
    refine lv_icmp_gt (tgt := 38) hx hb dX4_countOut_9 (by decide) (fun hc => ?_) (fun hc => absurd (nI_lt (by omega) (by omega)) hc)
    exact kx ls H locs hw (lv_sub hl [1] rfl)
  | succ j ih =>
    intro q ls H locs hq hw hl
    refine lv_iload_n hx hb dX4_countOut_4 rfl (lv_at hl 2 rfl) ?_
    refine lv_aload_n hx hb dX4_countOut_5 rfl (lv_at hl 0 rfl) ?_
    refine gf_X4_44 hx hb hts hown hw (by decide) h0 rfl dX4_countOut_6 ?_
    refine lv_icmp_gt (tgt := 38) hx hb dX4_countOut_9 (by decide) (fun hc => absurd hc (nI_nlt (by omega) (by omega))) (fun hc => ?_)
    obtain ⟨cm, rt, gv, hD, hCm, hRt, hGv, hval⟩ := hRd (q + 1) (by omega)
    have hcl := cnt_le hle q
    have h01 := hle (q + 1)
    refine lv_iload_n hx hb dX4_countOut_12 rfl (lv_at hl 1 rfl) ?_
    refine lv_aload_n hx hb dX4_countOut_13 rfl (lv_at hl 0 rfl) ?_
    refine gf_X4_11 hx hb hts hown hw (by decide) h0 rfl dX4_countOut_14 ?_
    refine lv_iload_n hx hb dX4_countOut_17 rfl (lv_at hl 2 rfl) ?_
    refine x_aald hx hb hw (by decide) 3 hDa rfl (j := q + 1) (by omega) (by decide) (hdf _ (by omega)) dX4_countOut_18 ?_
    refine gf_X4_244 hx hb hts hown hw (by omega) hD rfl dX4_countOut_19 ?_
    refine lv_if_eq (tgt := 29) hx hb dX4_countOut_22 (by decide) (fun hc2 => ?_) (fun hc2 => ?_)
    · rw [nI_z (by omega)] at hc2
      refine lv_iconst (v := nI 0) hx hb dX4_countOut_29 (by decide) ?_
      refine t_iadd hx hb dX4_countOut_30 (v := nI (cnt ou q + 0)) (nI_add _ _) ?_
      refine lv_istore_n (lv' := [(1, .int (nI (cnt ou q + 0))), (0, .ref (ad 0)), (2, .int (nI (q + 1)))]) hx hb dX4_countOut_31 rfl hl (by decide) rfl (fun ls hl => ?_)
      refine lv_iinc (v := nI (q + 1 + 1)) (lv' := [(2, .int (nI (q + 1 + 1))), (1, .int (nI (cnt ou q + 0))), (0, .ref (ad 0))]) hx hb dX4_countOut_32 hl (k := 2) rfl (nI_1 (q + 1)) (by decide) rfl (fun ls hl => ?_)
      refine lv_goto (tgt := 4) hx hb dX4_countOut_35 (by decide) ?_
      exact ih (q + 1) ls H locs (by omega) hw (lv_sub hl [2, 1, 0] (by rw [show cnt ou (q + 1) = cnt ou q + 0 from by show cnt ou q + ou (q + 1) = _; rw [hc2]]; rfl))
    · rw [nI_z (by omega)] at hc2
      refine lv_iconst (v := nI 1) hx hb dX4_countOut_25 (by decide) ?_
      refine lv_goto (tgt := 30) hx hb dX4_countOut_26 (by decide) ?_
      refine t_iadd hx hb dX4_countOut_30 (v := nI (cnt ou q + 1)) (nI_add _ _) ?_
      refine lv_istore_n (lv' := [(1, .int (nI (cnt ou q + 1))), (0, .ref (ad 0)), (2, .int (nI (q + 1)))]) hx hb dX4_countOut_31 rfl hl (by decide) rfl (fun ls hl => ?_)
      refine lv_iinc (v := nI (q + 1 + 1)) (lv' := [(2, .int (nI (q + 1 + 1))), (1, .int (nI (cnt ou q + 1))), (0, .ref (ad 0))]) hx hb dX4_countOut_32 hl (k := 2) rfl (nI_1 (q + 1)) (by decide) rfl (fun ls hl => ?_)
      refine lv_goto (tgt := 4) hx hb dX4_countOut_35 (by decide) ?_
      exact ih (q + 1) ls H locs (by omega) hw (lv_sub hl [2, 1, 0] (by rw [show cnt ou (q + 1) = cnt ou q + 1 from by show cnt ou q + ou (q + 1) = _; rw [show ou (q + 1) = 1 by omega]]; rfl))
set_option maxHeartbeats 4000000 in
set_option maxRecDepth 100000 in
theorem k_countOut (l : Launch) {D : va_G} {cI cJ cZ cD : ClassId} {ad : Nat → Nat} {w : Nat → va_E} {sz : Nat} (n t cl qu : Nat) (wh : Int32) (hn : n ≤ 16) (df : Nat → Option Nat) (hdf : ∀ i, i < 17 → df i = some (ad (2 + 4 * i))) (dl ou cp : Nat → Nat) (co sh : Nat → Nat → Nat) (hRd : RCd ad cI w n t dl ou cp co sh) (hle : ∀ i, ou i ≤ 1) (h0 : w 0 = .inr (3, [.ref (ad 1), .ref (ad 70), .ref (ad 71), .ref (ad 72), .ref (ad 76), .int (nI n), .int (nI t), .int (nI cl), .int (nI qu), .int wh])) (hDa : w 1 = .inl (cD, 17, .inr (.inr (.inr (.inr df))))) : MW l yX4_countOut (.code yX4_countOut cX4_countOut 3 (some .int)) ({ frames := 0, cells := 0, slots := 0, locals := 0 }) [.ref (ad 0)] D (tyL cI cJ cZ cD) ad 89 w sz (some (.int (nI (cnt ou n)))) (fun u => u = w) := by
  refine MW.of (by decide) (Nat.le_of_ble_eq_true rfl) ?_
  intro p e s m below meth c ls hC hr hlocks hl hw
  obtain ⟨hx, hb, hml, hown, hts⟩ := id hC
  have hA : ∀ q, s.heap.size ≤ q → xA ad 89 s.heap.size q := fun q h => Or.inr h
  have hl : lv_has ls 3 [(0, .ref (ad 0))] := hl
  refine lv_iconst (v := nI 0) hx hb dX4_countOut_0 (by decide) ?_
  refine lv_istore_n (lv' := [(1, .int (nI 0)), (0, .ref (ad 0))]) hx hb dX4_countOut_1 rfl hl (by decide) rfl (fun ls hl => ?_)
  refine lv_iconst (v := nI 1) hx hb dX4_countOut_2 (by decide) ?_
  refine lv_istore_n (lv' := [(2, .int (nI 1)), (1, .int (nI 0)), (0, .ref (ad 0))]) hx hb dX4_countOut_3 rfl hl (by decide) rfl (fun ls hl => ?_)
  refine k_countOut_loop hC hA n t cl qu wh hn df hdf dl ou cp co sh hRd hle h0 hDa (fun ls H locs hw hl => ?_) n 0 ls s.heap [] (by omega) hw (lv_sub hl [2, 1, 0] rfl)
  refine lv_iload_n hx hb dX4_countOut_38 rfl (lv_at hl 0 rfl) ?_
  exact x_wretI hx hb hr hlocks hw rfl dX4_countOut_39
set_option maxHeartbeats 4000000 in
set_option maxRecDepth 100000 in
theorem k_countC_loop {l : Launch} {p : Program} {e : Env} {s : State} {m : MethodId} {args : Array Value} {below : List Frame} {meth : Method} {c : Code} {Q : State → Prop} {D : va_G} {cI cJ cZ cD : ClassId} {ad : Nat → Nat} {A : Nat → Prop} {H0 : Heap} {w : Nat → va_E} (hC : CallFix p m c cX4_countComplaints 3 s args wsL_law RX4) (hA : ∀ q, H0.size ≤ q → A q) (n t cl qu : Nat) (wh : Int32) (hn : n ≤ 16) (df : Nat → Option Nat) (hdf : ∀ i, i < 17 → df i = some (ad (2 + 4 * i))) (dl ou cp : Nat → Nat) (co sh : Nat → Nat → Nat) (hRd : RCd ad cI w n t dl ou cp co sh) (hle : ∀ i, cp i < 2 ^ 17) (h0 : w 0 = .inr (3, [.ref (ad 1), .ref (ad 70), .ref (ad 71), .ref (ad 72), .ref (ad 76), .int (nI n), .int (nI t), .int (nI cl), .int (nI qu), .int wh])) (hDa : w 1 = .inl (cD, 17, .inr (.inr (.inr (.inr df)))))
    (kx : ∀ (ls : Array Slot) (H : Heap) (locs : List Loc), WW D vwCl (tyL cI cJ cZ cD) A H0 ad 89 w s H locs → lv_has ls 3 [(1, .int (nI (cnt (fun i => pcN (cp i)) n)))] → W p l e ({ frames := 1, cells := 0, slots := 0, locals := 28 }) s m args below meth c H locs 0 0 Q (F0 m 33 ls [])) :
    ∀ (j q : Nat) (ls : Array Slot) (H : Heap) (locs : List Loc), q + j = n → WW D vwCl (tyL cI cJ cZ cD) A H0 ad 89 w s H locs → lv_has ls 3 [(0, .ref (ad 0)), (1, .int (nI (cnt (fun i => pcN (cp i)) q))), (2, .int (nI (q + 1)))] → W p l e ({ frames := 1, cells := 0, slots := 0, locals := 28 }) s m args below meth c H locs 0 0 Q (F0 m 4 ls []) := by
  obtain ⟨hx, hb, hml, hown, hts⟩ := id hC
  intro j
  induction j with
  | zero =>
    intro q ls H locs hq hw hl
    obtain rfl : q = n := by omega
    refine lv_iload_n hx hb dX4_countComplaints_4 rfl (lv_at hl 2 rfl) ?_
    refine lv_aload_n hx hb dX4_countComplaints_5 rfl (lv_at hl 0 rfl) ?_
    refine gf_X4_44 hx hb hts hown hw (by decide) h0 rfl dX4_countComplaints_6 ?_
    refine lv_icmp_gt (tgt := 33) hx hb dX4_countComplaints_9 (by decide) (fun hc => ?_) (fun hc => absurd (nI_lt (by omega) (by omega)) hc)
    exact kx ls H locs hw (lv_sub hl [1] rfl)
  | succ j ih =>
    intro q ls H locs hq hw hl
    refine lv_iload_n hx hb dX4_countComplaints_4 rfl (lv_at hl 2 rfl) ?_
    refine lv_aload_n hx hb dX4_countComplaints_5 rfl (lv_at hl 0 rfl) ?_
    refine gf_X4_44 hx hb hts hown hw (by decide) h0 rfl dX4_countComplaints_6 ?_
    refine lv_icmp_gt (tgt := 33) hx hb dX4_countComplaints_9 (by decide) (fun hc => absurd hc (nI_nlt (by omega) (by omega))) (fun hc => ?_)
    obtain ⟨cm, rt, gv, hD, hCm, hRt, hGv, hval⟩ := hRd (q + 1) (by omega)
    have hcl := cnt_le (f := (fun i => pcN (cp i))) (b := 17) (fun i => pcN_le _) q
    have hpl := pcN_le (cp (q + 1))
    have h01 := hle (q + 1)
    refine lv_iload_n hx hb dX4_countComplaints_12 rfl (lv_at hl 1 rfl) ?_
    refine lv_aload_n hx hb dX4_countComplaints_13 rfl (lv_at hl 0 rfl) ?_
    refine gf_X4_11 hx hb hts hown hw (by decide) h0 rfl dX4_countComplaints_14 ?_
    refine lv_iload_n hx hb dX4_countComplaints_17 rfl (lv_at hl 2 rfl) ?_
    refine x_aald hx hb hw (by decide) 3 hDa rfl (j := q + 1) (by omega) (by decide) (hdf _ (by omega)) dX4_countComplaints_18 ?_
    refine gf_X4_241 hx hb hts hown hw (by omega) hD rfl dX4_countComplaints_19 ?_
    refine x_callS (As := [.int (nI (cp (q + 1)))]) (rest := [.int (nI (cnt (fun i => pcN (cp i)) q))]) hC sf_X4_131 (k_bitCount l (nI (cp (q + 1)))) ⟨rfl, rfl, Nat.le_of_ble_eq_true rfl, Nat.le_of_ble_eq_true rfl⟩ hl.1 (Nat.le_of_ble_eq_true rfl) dX4_countComplaints_22 ⟨Nat.zero_le _, Nat.zero_le _⟩ rfl ?_
    rw [bc_pc (by omega)]
    refine t_iadd hx hb dX4_countComplaints_25 (v := nI (cnt (fun i => pcN (cp i)) q + (pcN (cp (q + 1))))) (nI_add _ _) ?_
    refine lv_istore_n (lv' := [(1, .int (nI (cnt (fun i => pcN (cp i)) q + (pcN (cp (q + 1)))))), (0, .ref (ad 0)), (2, .int (nI (q + 1)))]) hx hb dX4_countComplaints_26 rfl hl (by decide) rfl (fun ls hl => ?_)
    refine lv_iinc (v := nI (q + 1 + 1)) (lv' := [(2, .int (nI (q + 1 + 1))), (1, .int (nI (cnt (fun i => pcN (cp i)) q + (pcN (cp (q + 1)))))), (0, .ref (ad 0))]) hx hb dX4_countComplaints_27 hl (k := 2) rfl (nI_1 (q + 1)) (by decide) rfl (fun ls hl => ?_)
    refine lv_goto (tgt := 4) hx hb dX4_countComplaints_30 (by decide) ?_
    exact ih (q + 1) ls H locs (by omega) hw (lv_sub hl [2, 1, 0] rfl)
set_option maxHeartbeats 4000000 in
set_option maxRecDepth 100000 in
theorem k_countC (l : Launch) {D : va_G} {cI cJ cZ cD : ClassId} {ad : Nat → Nat} {w : Nat → va_E} {sz : Nat} (n t cl qu : Nat) (wh : Int32) (hn : n ≤ 16) (df : Nat → Option Nat) (hdf : ∀ i, i < 17 → df i = some (ad (2 + 4 * i))) (dl ou cp : Nat → Nat) (co sh : Nat → Nat → Nat) (hRd : RCd ad cI w n t dl ou cp co sh) (hle : ∀ i, cp i < 2 ^ 17) (h0 : w 0 = .inr (3, [.ref (ad 1), .ref (ad 70), .ref (ad 71), .ref (ad 72), .ref (ad 76), .int (nI n), .int (nI t), .int (nI cl), .int (nI qu), .int wh])) (hDa : w 1 = .inl (cD, 17, .inr (.inr (.inr (.inr df))))) : MW l yX4_countComplaints (.code yX4_countComplaints cX4_countComplaints 3 (some .int)) ({ frames := 1, cells := 0, slots := 0, locals := 28 }) [.ref (ad 0)] D (tyL cI cJ cZ cD) ad 89 w sz (some (.int (nI (cnt (fun i => pcN (cp i)) n)))) (fun u => u = w) := by
  refine MW.of (by decide) (Nat.le_of_ble_eq_true rfl) ?_
  intro p e s m below meth c ls hC hr hlocks hl hw
  obtain ⟨hx, hb, hml, hown, hts⟩ := id hC
  have hA : ∀ q, s.heap.size ≤ q → xA ad 89 s.heap.size q := fun q h => Or.inr h
  have hl : lv_has ls 3 [(0, .ref (ad 0))] := hl
  refine lv_iconst (v := nI 0) hx hb dX4_countComplaints_0 (by decide) ?_
  refine lv_istore_n (lv' := [(1, .int (nI 0)), (0, .ref (ad 0))]) hx hb dX4_countComplaints_1 rfl hl (by decide) rfl (fun ls hl => ?_)
  refine lv_iconst (v := nI 1) hx hb dX4_countComplaints_2 (by decide) ?_
  refine lv_istore_n (lv' := [(2, .int (nI 1)), (1, .int (nI 0)), (0, .ref (ad 0))]) hx hb dX4_countComplaints_3 rfl hl (by decide) rfl (fun ls hl => ?_)
  refine k_countC_loop hC hA n t cl qu wh hn df hdf dl ou cp co sh hRd hle h0 hDa (fun ls H locs hw hl => ?_) n 0 ls s.heap [] (by omega) hw (lv_sub hl [2, 1, 0] rfl)
  refine lv_iload_n hx hb dX4_countComplaints_33 rfl (lv_at hl 0 rfl) ?_
  exact x_wretI hx hb hr hlocks hw rfl dX4_countComplaints_34
set_option maxHeartbeats 4000000 in
set_option maxRecDepth 100000 in
theorem k_findQ_loop {l : Launch} {p : Program} {e : Env} {s : State} {m : MethodId} {args : Array Value} {below : List Frame} {meth : Method} {c : Code} {Q : State → Prop} {D : va_G} {cI cJ cZ cD : ClassId} {ad : Nat → Nat} {A : Nat → Prop} {H0 : Heap} {w : Nat → va_E} (hC : CallFix p m c cX4_findQualified 3 s args wsL_law RX4) (hA : ∀ q, H0.size ≤ q → A q) (n t cl qu : Nat) (wh : Int32) (hn : n ≤ 16) (df : Nat → Option Nat) (hdf : ∀ i, i < 17 → df i = some (ad (2 + 4 * i))) (dl ou cp : Nat → Nat) (co sh : Nat → Nat → Nat) (hRd : RCd ad cI w n t dl ou cp co sh) (hle : ∀ i, dl i ≤ 1 ∧ ou i ≤ 1 ∧ cp i < 2 ^ 17) (h0 : w 0 = .inr (3, [.ref (ad 1), .ref (ad 70), .ref (ad 71), .ref (ad 72), .ref (ad 76), .int (nI n), .int (nI t), .int (nI cl), .int (nI qu), .int wh])) (hDa : w 1 = .inl (cD, 17, .inr (.inr (.inr (.inr df)))))
    (kx : ∀ (ls : Array Slot) (H : Heap) (locs : List Loc), WW D vwCl (tyL cI cJ cZ cD) A H0 ad 89 w s H locs → lv_has ls 3 [(1, .int (nI (qf dl ou cp n)))] → W p l e ({ frames := 1, cells := 0, slots := 0, locals := 28 }) s m args below meth c H locs 0 0 Q (F0 m 36 ls [])) :
    ∀ (j q : Nat) (ls : Array Slot) (H : Heap) (locs : List Loc), q + j = n → WW D vwCl (tyL cI cJ cZ cD) A H0 ad 89 w s H locs → lv_has ls 3 [(0, .ref (ad 0)), (1, .int (nI (qf dl ou cp q))), (2, .int (nI (q + 1)))] → W p l e ({ frames := 1, cells := 0, slots := 0, locals := 28 }) s m args below meth c H locs 0 0 Q (F0 m 4 ls []) := by
  obtain ⟨hx, hb, hml, hown, hts⟩ := id hC
  intro j
  induction j with
  | zero =>
    intro q ls H locs hq hw hl
    obtain rfl : q = n := by omega
    refine lv_iload_n hx hb dX4_findQualified_4 rfl (lv_at hl 2 rfl) ?_
    refine lv_aload_n hx hb dX4_findQualified_5 rfl (lv_at hl 0 rfl) ?_
    refine gf_X4_44 hx hb hts hown hw (by decide) h0 rfl dX4_findQualified_6 ?_
    refine lv_icmp_gt (tgt := 36) hx hb dX4_findQualified_9 (by decide) (fun hc => ?_) (fun hc => absurd (nI_lt (by omega) (by omega)) hc)
    exact kx ls H locs hw (lv_sub hl [1] rfl)
  | succ j ih =>
    intro q ls H locs hq hw hl
    refine lv_iload_n hx hb dX4_findQualified_4 rfl (lv_at hl 2 rfl) ?_
    refine lv_aload_n hx hb dX4_findQualified_5 rfl (lv_at hl 0 rfl) ?_
    refine gf_X4_44 hx hb hts hown hw (by decide) h0 rfl dX4_findQualified_6 ?_
    refine lv_icmp_gt (tgt := 36) hx hb dX4_findQualified_9 (by decide) (fun hc => absurd hc (nI_nlt (by omega) (by omega))) (fun hc => ?_)
    obtain ⟨cm, rt, gv, hD, hCm, hRt, hGv, hval⟩ := hRd (q + 1) (by omega)
    obtain ⟨g1, g2, g3⟩ := hle (q + 1)
    have hql := qf_lt dl ou cp q (by omega)
    refine lv_aload_n hx hb dX4_findQualified_12 rfl (lv_at hl 0 rfl) ?_
    refine gf_X4_11 hx hb hts hown hw (by decide) h0 rfl dX4_findQualified_13 ?_
    refine lv_iload_n hx hb dX4_findQualified_16 rfl (lv_at hl 2 rfl) ?_
    refine x_aald hx hb hw (by decide) 3 hDa rfl (j := q + 1) (by omega) (by decide) (hdf _ (by omega)) dX4_findQualified_17 ?_
    refine x_callW1 (As := []) (rest := []) hC vf_X4_247 hw hA (by omega) hD rfl rfl (k_mayQualify l (q + 1) (by omega) (cp (q + 1)) (dl (q + 1)) (ou (q + 1)) (by omega) (by omega) (by omega) hD) ⟨rfl, rfl, Nat.le_of_ble_eq_true rfl, Nat.le_of_ble_eq_true rfl⟩ hl.1 (Nat.le_of_ble_eq_true rfl) dX4_findQualified_18 ⟨Nat.zero_le _, Nat.zero_le _⟩ rfl (fun w_1 H locs hu hw => ?_)
    rw [hu] at hw
    by_cases hy : dl (q + 1) = 1 ∧ ou (q + 1) = 0 ∧ cp (q + 1) = 0
    · skip
      rw [if_pos hy]
      refine lv_if_eq (tgt := 30) hx hb dX4_findQualified_21 (by decide) (fun hc2 => absurd hc2 (by decide)) (fun hc2 => ?_)
      refine lv_iload_n hx hb dX4_findQualified_24 rfl (lv_at hl 1 rfl) ?_
      refine lv_iconst (v := nI 1) hx hb dX4_findQualified_25 (by decide) ?_
      refine lv_iload_n hx hb dX4_findQualified_26 rfl (lv_at hl 2 rfl) ?_
      refine lv_ishl hx hb dX4_findQualified_27 ?_
      refine lv_ior hx hb dX4_findQualified_28 ?_
      rw [or_bit (by omega)]
      refine lv_istore_n (lv' := [(1, .int (nI (qf dl ou cp q ||| 2 ^ (q + 1)))), (0, .ref (ad 0)), (2, .int (nI (q + 1)))]) hx hb dX4_findQualified_29 rfl hl (by decide) rfl (fun ls hl => ?_)
      refine lv_iinc (v := nI (q + 1 + 1)) (lv' := [(2, .int (nI (q + 1 + 1))), (1, .int (nI (qf dl ou cp q ||| 2 ^ (q + 1)))), (0, .ref (ad 0))]) hx hb dX4_findQualified_30 hl (k := 2) rfl (nI_1 (q + 1)) (by decide) rfl (fun ls hl => ?_)
      refine lv_goto (tgt := 4) hx hb dX4_findQualified_33 (by decide) ?_
      exact ih (q + 1) ls H locs (by omega) hw (lv_sub hl [2, 1, 0] (by rw [show qf dl ou cp (q + 1) = _ from if_pos hy]; rfl))
    · skip
      rw [if_neg hy]
      refine lv_if_eq (tgt := 30) hx hb dX4_findQualified_21 (by decide) (fun hc2 => ?_) (fun hc2 => absurd (by decide) hc2)
      refine lv_iinc (v := nI (q + 1 + 1)) (lv' := [(2, .int (nI (q + 1 + 1))), (0, .ref (ad 0)), (1, .int (nI (qf dl ou cp q)))]) hx hb dX4_findQualified_30 hl (k := 2) rfl (nI_1 (q + 1)) (by decide) rfl (fun ls hl => ?_)
      refine lv_goto (tgt := 4) hx hb dX4_findQualified_33 (by decide) ?_
      exact ih (q + 1) ls H locs (by omega) hw (lv_sub hl [1, 2, 0] (by rw [show qf dl ou cp (q + 1) = _ from if_neg hy]; rfl))
set_option maxHeartbeats 4000000 in
set_option maxRecDepth 100000 in
theorem k_findQ (l : Launch) {D : va_G} {cI cJ cZ cD : ClassId} {ad : Nat → Nat} {w : Nat → va_E} {sz : Nat} (n t cl qu : Nat) (wh : Int32) (hn : n ≤ 16) (df : Nat → Option Nat) (hdf : ∀ i, i < 17 → df i = some (ad (2 + 4 * i))) (dl ou cp : Nat → Nat) (co sh : Nat → Nat → Nat) (hRd : RCd ad cI w n t dl ou cp co sh) (hle : ∀ i, dl i ≤ 1 ∧ ou i ≤ 1 ∧ cp i < 2 ^ 17) (h0 : w 0 = .inr (3, [.ref (ad 1), .ref (ad 70), .ref (ad 71), .ref (ad 72), .ref (ad 76), .int (nI n), .int (nI t), .int (nI cl), .int (nI qu), .int wh])) (hDa : w 1 = .inl (cD, 17, .inr (.inr (.inr (.inr df))))) : MW l yX4_findQualified (.code yX4_findQualified cX4_findQualified 3 (some .int)) ({ frames := 1, cells := 0, slots := 0, locals := 28 }) [.ref (ad 0)] D (tyL cI cJ cZ cD) ad 89 w sz (some (.int (nI (qf dl ou cp n)))) (fun u => u = w) := by
  refine MW.of (by decide) (Nat.le_of_ble_eq_true rfl) ?_
  intro p e s m below meth c ls hC hr hlocks hl hw
  obtain ⟨hx, hb, hml, hown, hts⟩ := id hC
  have hA : ∀ q, s.heap.size ≤ q → xA ad 89 s.heap.size q := fun q h => Or.inr h
  have hl : lv_has ls 3 [(0, .ref (ad 0))] := hl
  refine lv_iconst (v := nI 0) hx hb dX4_findQualified_0 (by decide) ?_
  refine lv_istore_n (lv' := [(1, .int (nI 0)), (0, .ref (ad 0))]) hx hb dX4_findQualified_1 rfl hl (by decide) rfl (fun ls hl => ?_)
  refine lv_iconst (v := nI 1) hx hb dX4_findQualified_2 (by decide) ?_
  refine lv_istore_n (lv' := [(2, .int (nI 1)), (1, .int (nI 0)), (0, .ref (ad 0))]) hx hb dX4_findQualified_3 rfl hl (by decide) rfl (fun ls hl => ?_)
  refine k_findQ_loop hC hA n t cl qu wh hn df hdf dl ou cp co sh hRd hle h0 hDa (fun ls H locs hw hl => ?_) n 0 ls s.heap [] (by omega) hw (lv_sub hl [2, 1, 0] rfl)
  refine lv_iload_n hx hb dX4_findQualified_36 rfl (lv_at hl 0 rfl) ?_
  exact x_wretI hx hb hr hlocks hw rfl dX4_findQualified_37
set_option maxRecDepth 100000 in
theorem ssm_le {qu n k : Nat} {sh : Nat → Nat → Nat} (h : ∀ i, 1 ≤ i → i ≤ n → tb qu i = 1 → sh i k < 1073741789) : ∀ i, i ≤ n → ssm qu sh k i ≤ i * 1073741789 := by
  intro i
  induction i with
  | zero => intro _; exact Nat.zero_le _
  | succ i ih =>
    intro hi
    have h1 := ih (by omega)
    show ssm qu sh k i + (if _ then _ else _) ≤ _
    rw [Nat.succ_mul]
    by_cases hc : tb qu (i + 1) = 1
    · rw [if_pos hc]
      exact Nat.add_le_add h1 (Nat.le_of_lt (h (i + 1) (by omega) hi hc))
    · rw [if_neg hc]
      exact Nat.add_le_add h1 (Nat.zero_le _)

set_option maxHeartbeats 4000000 in
set_option maxRecDepth 100000 in
theorem k_sum_loop {l : Launch} {p : Program} {e : Env} {s : State} {m : MethodId} {args : Array Value} {below : List Frame} {meth : Method} {c : Code} {Q : State → Prop} {D : va_G} {cI cJ cZ cD : ClassId} {ad : Nat → Nat} {A : Nat → Prop} {H0 : Heap} {w : Nat → va_E} (hC : CallFix p m c cX4_sumOfShares 5 s args wsL_law RX4) (hA : ∀ q, H0.size ≤ q → A q) (n t cl qu : Nat) (wh : Int32) (hn : n ≤ 16) (df : Nat → Option Nat) (hdf : ∀ i, i < 17 → df i = some (ad (2 + 4 * i))) (dl ou cp : Nat → Nat) (co sh : Nat → Nat → Nat) (hRd : RCd ad cI w n t dl ou cp co sh) (hqu : qu < 2 ^ 17) (hqd : ∀ i, 1 ≤ i → i ≤ n → tb qu i = 1 → dl i = 1) (k : Nat) (hk1 : 1 ≤ k) (hk2 : k ≤ n) (hsh : ∀ i, 1 ≤ i → i ≤ n → dl i = 1 → sh i k < 1073741789) (h0 : w 0 = .inr (3, [.ref (ad 1), .ref (ad 70), .ref (ad 71), .ref (ad 72), .ref (ad 76), .int (nI n), .int (nI t), .int (nI cl), .int (nI qu), .int wh])) (hDa : w 1 = .inl (cD, 17, .inr (.inr (.inr (.inr df)))))
    (kx : ∀ (ls : Array Slot) (H : Heap) (locs : List Loc), WW D vwCl (tyL cI cJ cZ cD) A H0 ad 89 w s H locs → lv_has ls 5 [(2, .long (lN (ssm qu sh k n)))] → W p l e ({ frames := 2, cells := 0, slots := 0, locals := 62 }) s m args below meth c H locs 0 0 Q (F0 m 48 ls [])) :
    ∀ (j q : Nat) (ls : Array Slot) (H : Heap) (locs : List Loc), q + j = n → WW D vwCl (tyL cI cJ cZ cD) A H0 ad 89 w s H locs → lv_has ls 5 [(0, .ref (ad 0)), (1, .int (nI k)), (2, .long (lN (ssm qu sh k q))), (4, .int (nI (q + 1)))] → W p l e ({ frames := 2, cells := 0, slots := 0, locals := 62 }) s m args below meth c H locs 0 0 Q (F0 m 5 ls []) := by
  obtain ⟨hx, hb, hml, hown, hts⟩ := id hC
  intro j
  induction j with
  | zero =>
    intro q ls H locs hq hw hl
    obtain rfl : q = n := by omega
    refine lv_iload hx hb dX4_sumOfShares_5 (lv_at hl 3 rfl) ?_
    refine lv_aload_n hx hb dX4_sumOfShares_7 rfl (lv_at hl 0 rfl) ?_
    refine gf_X4_44 hx hb hts hown hw (by decide) h0 rfl dX4_sumOfShares_8 ?_
    refine lv_icmp_gt (tgt := 48) hx hb dX4_sumOfShares_11 (by decide) (fun hc => ?_) (fun hc => absurd (nI_lt (by omega) (by omega)) hc)
    exact kx ls H locs hw (lv_sub hl [2] rfl)
  | succ j ih =>
    intro q ls H locs hq hw hl
    refine lv_iload hx hb dX4_sumOfShares_5 (lv_at hl 3 rfl) ?_
    refine lv_aload_n hx hb dX4_sumOfShares_7 rfl (lv_at hl 0 rfl) ?_
    refine gf_X4_44 hx hb hts hown hw (by decide) h0 rfl dX4_sumOfShares_8 ?_
    refine lv_icmp_gt (tgt := 48) hx hb dX4_sumOfShares_11 (by decide) (fun hc => absurd hc (nI_nlt (by omega) (by omega))) (fun hc => ?_)
    obtain ⟨cm, rt, gv, hD, hCm, hRt, hGv, hval⟩ := hRd (q + 1) (by omega)
    have hsl := ssm_le (qu := qu) (n := n) (k := k) (sh := sh) (fun i g1 g2 g3 => hsh i g1 g2 (hqd i g1 g2 g3)) q (by omega)
    have htb := tb_lt qu (q + 1)
    refine lv_aload_n hx hb dX4_sumOfShares_14 rfl (lv_at hl 0 rfl) ?_
    refine gf_X4_55 hx hb hts hown hw (by decide) h0 rfl dX4_sumOfShares_15 ?_
    refine lv_iload hx hb dX4_sumOfShares_18 (lv_at hl 3 rfl) ?_
    refine x_callS (As := [.int (nI qu), .int (nI (q + 1))]) (rest := []) hC sf_X4_251 (k_hasBit l qu (q + 1) (by omega) (by omega)) ⟨rfl, rfl, Nat.le_of_ble_eq_true rfl, Nat.le_of_ble_eq_true rfl⟩ hl.1 (Nat.le_of_ble_eq_true rfl) dX4_sumOfShares_20 ⟨Nat.zero_le _, Nat.zero_le _⟩ rfl ?_
    refine lv_if_eq (tgt := 42) hx hb dX4_sumOfShares_23 (by decide) (fun hc2 => ?_) (fun hc2 => ?_)
    · rw [nI_z (by omega)] at hc2
      refine lv_iinc (v := nI (q + 1 + 1)) (lv' := [(4, .int (nI (q + 1 + 1))), (0, .ref (ad 0)), (1, .int (nI k)), (2, .long (lN (ssm qu sh k q)))]) hx hb dX4_sumOfShares_42 hl (k := 3) rfl (nI_1 (q + 1)) (by decide) rfl (fun ls hl => ?_)
      refine lv_goto (tgt := 5) hx hb dX4_sumOfShares_45 (by decide) ?_
      exact ih (q + 1) ls H locs (by omega) hw (lv_sub hl [1, 2, 3, 0] (by rw [show ssm qu sh k (q + 1) = ssm qu sh k q from by show ssm qu sh k q + (if _ then _ else _) = _; rw [if_neg (by omega)]; rfl]; rfl))
    · rw [nI_z (by omega)] at hc2
      have hdq := hqd (q + 1) (by omega) (by omega) (by omega)
      obtain ⟨hcm9, hv9⟩ := hval (by omega) (by omega) hdq
      obtain ⟨hrt9, hgv9⟩ := hv9 k hk1 hk2
      have hs9 := hsh (q + 1) (by omega) (by omega) hdq
      refine lv_lload_n hx hb dX4_sumOfShares_26 rfl (lv_at hl 2 rfl) ?_
      refine lv_aload_n hx hb dX4_sumOfShares_27 rfl (lv_at hl 0 rfl) ?_
      refine gf_X4_11 hx hb hts hown hw (by decide) h0 rfl dX4_sumOfShares_28 ?_
      refine lv_iload hx hb dX4_sumOfShares_31 (lv_at hl 3 rfl) ?_
      refine x_aald hx hb hw (by decide) 3 hDa rfl (j := q + 1) (by omega) (by decide) (hdf _ (by omega)) dX4_sumOfShares_33 ?_
      refine gf_X4_96 hx hb hts hown hw (by omega) hD rfl dX4_sumOfShares_34 ?_
      refine lv_iload_n hx hb dX4_sumOfShares_37 rfl (lv_at hl 1 rfl) ?_
      refine x_iald hx hb hw (by omega) 0 hGv rfl (j := k) (by omega) (by decide) hgv9 dX4_sumOfShares_38 ?_
      refine lv_i2l hx hb dX4_sumOfShares_39 (nI_l (by omega)) ?_
      refine t_ladd hx hb dX4_sumOfShares_40 (v := lN (ssm qu sh k q + (sh (q + 1) k))) (lN_add _ _) ?_
      refine lv_lstore_n (lv' := [(2, .long (lN (ssm qu sh k q + (sh (q + 1) k)))), (0, .ref (ad 0)), (1, .int (nI k)), (4, .int (nI (q + 1)))]) hx hb dX4_sumOfShares_41 rfl hl (by decide) rfl (fun ls hl => ?_)
      refine lv_iinc (v := nI (q + 1 + 1)) (lv' := [(4, .int (nI (q + 1 + 1))), (2, .long (lN (ssm qu sh k q + (sh (q + 1) k)))), (0, .ref (ad 0)), (1, .int (nI k))]) hx hb dX4_sumOfShares_42 hl (k := 3) rfl (nI_1 (q + 1)) (by decide) rfl (fun ls hl => ?_)
      refine lv_goto (tgt := 5) hx hb dX4_sumOfShares_45 (by decide) ?_
      exact ih (q + 1) ls H locs (by omega) hw (lv_sub hl [2, 3, 1, 0] (by rw [show ssm qu sh k (q + 1) = ssm qu sh k q + sh (q + 1) k from by show ssm qu sh k q + (if _ then _ else _) = _; rw [if_pos (by omega)]]; rfl))
set_option maxHeartbeats 4000000 in
set_option maxRecDepth 100000 in
theorem k_sumOfShares (l : Launch) {D : va_G} {cI cJ cZ cD : ClassId} {ad : Nat → Nat} {w : Nat → va_E} {sz : Nat} (n t cl qu : Nat) (wh : Int32) (hn : n ≤ 16) (df : Nat → Option Nat) (hdf : ∀ i, i < 17 → df i = some (ad (2 + 4 * i))) (dl ou cp : Nat → Nat) (co sh : Nat → Nat → Nat) (hRd : RCd ad cI w n t dl ou cp co sh) (hqu : qu < 2 ^ 17) (hqd : ∀ i, 1 ≤ i → i ≤ n → tb qu i = 1 → dl i = 1) (k : Nat) (hk1 : 1 ≤ k) (hk2 : k ≤ n) (hsh : ∀ i, 1 ≤ i → i ≤ n → dl i = 1 → sh i k < 1073741789) (h0 : w 0 = .inr (3, [.ref (ad 1), .ref (ad 70), .ref (ad 71), .ref (ad 72), .ref (ad 76), .int (nI n), .int (nI t), .int (nI cl), .int (nI qu), .int wh])) (hDa : w 1 = .inl (cD, 17, .inr (.inr (.inr (.inr df))))) : MW l yX4_sumOfShares (.code yX4_sumOfShares cX4_sumOfShares 5 (some .int)) ({ frames := 2, cells := 0, slots := 0, locals := 62 }) [.ref (ad 0), .int (nI k)] D (tyL cI cJ cZ cD) ad 89 w sz (some (.int (nI (ssm qu sh k n % 1073741789)))) (fun u => u = w) := by
  refine MW.of (by decide) (Nat.le_of_ble_eq_true rfl) ?_
  intro p e s m below meth c ls hC hr hlocks hl hw
  obtain ⟨hx, hb, hml, hown, hts⟩ := id hC
  have hA : ∀ q, s.heap.size ≤ q → xA ad 89 s.heap.size q := fun q h => Or.inr h
  have hl : lv_has ls 5 [(0, .ref (ad 0)), (1, .int (nI k))] := hl
  refine lv_lconst (v := lN 0) hx hb dX4_sumOfShares_0 (by decide) ?_
  refine lv_lstore_n (lv' := [(2, .long (lN 0)), (0, .ref (ad 0)), (1, .int (nI k))]) hx hb dX4_sumOfShares_1 rfl hl (by decide) rfl (fun ls hl => ?_)
  refine lv_iconst (v := nI 1) hx hb dX4_sumOfShares_2 (by decide) ?_
  refine lv_istore (lv' := [(4, .int (nI 1)), (2, .long (lN 0)), (0, .ref (ad 0)), (1, .int (nI k))]) hx hb dX4_sumOfShares_3 hl (by decide) rfl (fun ls hl => ?_)
  refine k_sum_loop hC hA n t cl qu wh hn df hdf dl ou cp co sh hRd hqu hqd k hk1 hk2 hsh h0 hDa (fun ls H locs hw hl => ?_) n 0 ls s.heap [] (by omega) hw (lv_sub hl [2, 3, 1, 0] rfl)
  have hsl := ssm_le (qu := qu) (n := n) (k := k) (sh := sh) (fun i g1 g2 g3 => hsh i g1 g2 (hqd i g1 g2 g3)) n (Nat.le_refl _)
  refine lv_lload_n hx hb dX4_sumOfShares_48 rfl (lv_at hl 0 rfl) ?_
  refine x_callS (As := [.long (lN (ssm qu sh k n))]) (rest := []) hC sf_X4_263 (k_toExponent l (lN (ssm qu sh k n))) ⟨rfl, rfl, Nat.le_of_ble_eq_true rfl, Nat.le_of_ble_eq_true rfl⟩ hl.1 (Nat.le_of_ble_eq_true rfl) dX4_sumOfShares_49 ⟨Nat.zero_le _, Nat.zero_le _⟩ rfl ?_
  rw [md_nat (by omega)]
  exact x_wretI hx hb hr hlocks hw rfl dX4_sumOfShares_52
set_option maxHeartbeats 4000000 in
set_option maxRecDepth 100000 in
theorem k_stateFor (l : Launch) {D : va_G} {cI cJ cZ cD : ClassId} {ad : Nat → Nat} {w : Nat → va_E} {sz : Nat} (n t cl qu : Nat) (wh : Int32) (k : Nat) (hk : k < 17) (kf pf : Nat → Int32) (key pub base : Nat) (msg : Int64) (en kp : Int32) (a x y : Int32) (hkf : kf k = nI key) (hpf : pf k = nI pub) (g1 : key < 1073741789) (g2 : pub < 2 ^ 31) (g3 : base < 2147483579) (h0 : w 0 = .inr (3, [.ref (ad 1), .ref (ad 70), .ref (ad 71), .ref (ad 72), .ref (ad 76), .int (nI n), .int (nI t), .int (nI cl), .int (nI qu), .int wh])) (hKf : w 70 = .inl (cI, 17, .inl kf)) (hPf : w 71 = .inl (cI, 17, .inl pf)) (hR : w 72 = .inr (1, [.ref (ad 73), .ref (ad 74), .ref (ad 75), .int en, .int kp, .long msg, .int (nI base)])) (hSt : w 76 = .inr (2, [.int a, .int x, .int y])) : MW l yX4_stateFor (.code yX4_stateFor cX4_stateFor 2 none) ({ frames := 4, cells := 0, slots := 0, locals := 132 }) [.ref (ad 0), .int (nI k)] D (tyL cI cJ cZ cD) ad 89 w sz none (fun u => u = va_up w 76 (.inr (2, [.int (nI (base ^ key % 2147483579)), .int (nI (saC key pub base msg)), .int (nI (saZ key pub base msg))]))) := by
  refine MW.of (by decide) (Nat.le_of_ble_eq_true rfl) ?_
  intro p e s m below meth c ls hC hr hlocks hl hw
  obtain ⟨hx, hb, hml, hown, hts⟩ := id hC
  have hA : ∀ q, s.heap.size ≤ q → xA ad 89 s.heap.size q := fun q h => Or.inr h
  have hl : lv_has ls 2 [(0, .ref (ad 0)), (1, .int (nI k))] := hl
  refine lv_aload_n hx hb dX4_stateFor_0 rfl (lv_at hl 0 rfl) ?_
  refine gf_X4_33 hx hb hts hown hw (by decide) h0 rfl dX4_stateFor_1 ?_
  refine lv_aload_n hx hb dX4_stateFor_4 rfl (lv_at hl 0 rfl) ?_
  refine gf_X4_16 hx hb hts hown hw (by decide) h0 rfl dX4_stateFor_5 ?_
  refine lv_iload_n hx hb dX4_stateFor_8 rfl (lv_at hl 1 rfl) ?_
  refine x_iald hx hb hw (by decide) 0 hKf rfl (j := k) (by omega) (by decide) hkf dX4_stateFor_9 ?_
  refine lv_aload_n hx hb dX4_stateFor_10 rfl (lv_at hl 0 rfl) ?_
  refine gf_X4_20 hx hb hts hown hw (by decide) h0 rfl dX4_stateFor_11 ?_
  refine lv_iload_n hx hb dX4_stateFor_14 rfl (lv_at hl 1 rfl) ?_
  refine x_iald hx hb hw (by decide) 0 hPf rfl (j := k) (by omega) (by decide) hpf dX4_stateFor_15 ?_
  refine lv_aload_n hx hb dX4_stateFor_16 rfl (lv_at hl 0 rfl) ?_
  refine gf_X4_26 hx hb hts hown hw (by decide) h0 rfl dX4_stateFor_17 ?_
  refine gf_X4_150 hx hb hts hown hw (by decide) hR rfl dX4_stateFor_20 ?_
  refine lv_aload_n hx hb dX4_stateFor_23 rfl (lv_at hl 0 rfl) ?_
  refine gf_X4_26 hx hb hts hown hw (by decide) h0 rfl dX4_stateFor_24 ?_
  refine gf_X4_267 hx hb hts hown hw (by decide) hR rfl dX4_stateFor_27 ?_
  refine x_callW0 (As := [.int (nI key), .int (nI pub), .int (nI base), .long msg]) (rest := []) hC vf_X4_271 hw hA (by decide) hSt rfl rfl (k_state l a x y key pub base msg g1 g2 g3 hSt) ⟨rfl, rfl, Nat.le_of_ble_eq_true rfl, Nat.le_of_ble_eq_true rfl⟩ hl.1 (Nat.le_of_ble_eq_true rfl) dX4_stateFor_30 ⟨Nat.zero_le _, Nat.zero_le _⟩ rfl (fun w_1 H locs hu hw => ?_)
  exact x_wretV hx hb hr hlocks hw hu dX4_stateFor_33
