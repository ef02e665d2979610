/-! what a call needs -/
def isNd (n : Nat) (x : Int32) : Prop := nI 1 ≤ x ∧ x ≤ nI n
theorem isNd_of {n : Nat} {x : Int32} (hn : n ≤ 16) (h : isNd n x) : ∃ k : Nat, 1 ≤ k ∧ k ≤ n ∧ x = nI k := by
  have h0 : ¬ x < 0 := fun q => by
    have h1 := Int32.le_iff_toInt_le.mp h.1
    have h2 := Int32.lt_iff_toInt_lt.mp q
    rw [nI_toInt (by decide)] at h1
    rw [Int32.toInt_zero] at h2
    omega
  obtain ⟨k, hk, rfl⟩ := nI_of h0
  refine ⟨k, (nI_leI (by decide) hk).mp h.1, (nI_leI hk (by omega)).mp h.2, rfl⟩
theorem isNd_k {n k : Nat} (hn : n ≤ 16) (h1 : 1 ≤ k) (h2 : k ≤ n) : isNd n (nI k) := ⟨nI_le h1 (by omega), nI_le h2 (by omega)⟩
def isEx (x : Int32) : Prop := ¬ x < 0 ∧ ¬ nI 1073741789 ≤ x
theorem isEx_of {x : Int32} (h : isEx x) : ∃ k : Nat, k < 1073741789 ∧ x = nI k := by
  obtain ⟨k, hk, rfl⟩ := nI_of h.1
  refine ⟨k, ?_, rfl⟩
  have := h.2
  rw [nI_leI (by decide) hk] at this
  omega
theorem isEx_no {x : Int32} (h : ¬ isEx x) : x < 0 ∨ nI 1073741789 ≤ x := by
  by_cases h1 : x < 0
  · exact Or.inl h1
  · exact Or.inr (Classical.byContradiction fun q => h ⟨h1, q⟩)
theorem nlt_le {x y : Int32} (h : ¬ x < y) : y ≤ x := Int32.not_lt.mp h

set_option maxHeartbeats 4000000 in
set_option maxRecDepth 100000 in
theorem k_needNode (l : Launch) {D : va_G} {cI cJ cZ cD : ClassId} {ad : Nat → Nat} {w : Nat → va_E} {sz : Nat} (n t cl qu : Nat) (wh : Int32) (hn : n ≤ 16) (k : Nat) (h1 : 1 ≤ k) (h2 : k ≤ n) (h0 : w 0 = .inr (3, [.ref (ad 1), .ref (ad 70), .ref (ad 71), .ref (ad 72), .ref (ad 76), .int (nI n), .int (nI t), .int (nI cl), .int (nI qu), .int wh])) : MW l yX4_needNode (.code yX4_needNode cX4_needNode 2 none) ({ frames := 0, cells := 0, slots := 0, locals := 0 }) [.ref (ad 0), .int (nI k)] D (tyL cI cJ cZ cD) ad 89 w sz none (fun u => u = w) := by
  refine MW.of (by decide) (Nat.le_of_ble_eq_true rfl) ?_
  intro p e s m below meth c ls hC hr hlocks hl hw
  obtain ⟨hx, hb, hml, hown, hts⟩ := id hC
  have hA : ∀ q, s.heap.size ≤ q → xA ad 89 s.heap.size q := fun q h => Or.inr h
  have hl : lv_has ls 2 [(0, .ref (ad 0)), (1, .int (nI k))] := hl
  refine lv_iload_n hx hb dX4_needNode_0 rfl (lv_at hl 1 rfl) ?_
  refine lv_iconst (v := nI 1) hx hb dX4_needNode_1 (by decide) ?_
  refine lv_icmp_lt (tgt := 13) hx hb dX4_needNode_2 (by decide) (fun hc => absurd hc (nI_nlt (by omega) (by omega))) (fun hc => ?_)
  refine lv_iload_n hx hb dX4_needNode_5 rfl (lv_at hl 1 rfl) ?_
  refine lv_aload_n hx hb dX4_needNode_6 rfl (lv_at hl 0 rfl) ?_
  refine gf_X4_44 hx hb hts hown hw (by decide) h0 rfl dX4_needNode_7 ?_
  refine lv_icmp_le (tgt := 23) hx hb dX4_needNode_10 (by decide) (fun hc2 => ?_) (fun hc2 => absurd (nI_le (by omega) (by omega)) hc2)
  exact x_wretV hx hb hr hlocks hw rfl dX4_needNode_23
set_option maxHeartbeats 4000000 in
set_option maxRecDepth 100000 in
theorem k_needNodeT (l : Launch) (hl0 : l.stackTraces = false) {D : va_G} {cI cJ cZ cD : ClassId} {ad : Nat → Nat} {sa : Nat → Nat} {w : Nat → va_E} {sz : Nat} (n t cl qu : Nat) (wh : Int32) (hn : n ≤ 16) (x : Int32) (hx0 : ¬ isNd n x) (h0 : w 0 = .inr (3, [.ref (ad 1), .ref (ad 70), .ref (ad 71), .ref (ad 72), .ref (ad 76), .int (nI n), .int (nI t), .int (nI cl), .int (nI qu), .int wh])) : MT l yX4_needNode (.code yX4_needNode cX4_needNode 2 none) ({ frames := 6, cells := 1, slots := 6, locals := 82 }) [.ref (ad 0), .int x] D (tyL cI cJ cZ cD) ad 89 w sz sa "java/lang/IllegalArgumentException" := by
  refine MT.of (by decide) (Nat.le_of_ble_eq_true rfl) ?_
  intro p e s m below meth c ls hC hlocks htab hl hw hT
  obtain ⟨hx, hb, hml, hown, hts⟩ := id hC
  have hA : ∀ q, s.heap.size ≤ q → xA ad 89 s.heap.size q := fun q h => Or.inr h
  have hl : lv_has ls 2 [(0, .ref (ad 0)), (1, .int x)] := hl
  refine lv_iload_n hx hb dX4_needNode_0 rfl (lv_at hl 1 rfl) ?_
  refine lv_iconst (v := nI 1) hx hb dX4_needNode_1 (by decide) ?_
  refine lv_icmp_lt (tgt := 13) hx hb dX4_needNode_2 (by decide) (fun hc => ?_) (fun hc => ?_)
  · skip
    exact x_throwIAE (is := 222) (text := "there is no such node") hl0 hC hlocks htab hw hT (by decide +kernel) hl.1 dX4_needNode_13 dX4_needNode_16 dX4_needNode_17 dX4_needNode_19 dX4_needNode_22 (Nat.le_of_ble_eq_true rfl) (Nat.le_of_ble_eq_true rfl) ⟨Nat.le_of_ble_eq_true rfl, Nat.le_of_ble_eq_true rfl⟩
  · skip
    refine lv_iload_n hx hb dX4_needNode_5 rfl (lv_at hl 1 rfl) ?_
    refine lv_aload_n hx hb dX4_needNode_6 rfl (lv_at hl 0 rfl) ?_
    refine gf_X4_44 hx hb hts hown hw (by decide) h0 rfl dX4_needNode_7 ?_
    refine lv_icmp_le (tgt := 23) hx hb dX4_needNode_10 (by decide) (fun hc2 => absurd hc2 (fun q => hx0 ⟨nlt_le hc, q⟩)) (fun hc2 => ?_)
    exact x_throwIAE (is := 222) (text := "there is no such node") hl0 hC hlocks htab hw hT (by decide +kernel) hl.1 dX4_needNode_13 dX4_needNode_16 dX4_needNode_17 dX4_needNode_19 dX4_needNode_22 (Nat.le_of_ble_eq_true rfl) (Nat.le_of_ble_eq_true rfl) ⟨Nat.le_of_ble_eq_true rfl, Nat.le_of_ble_eq_true rfl⟩
set_option maxHeartbeats 4000000 in
set_option maxRecDepth 100000 in
theorem k_needExponent (l : Launch) {D : va_G} {cI cJ cZ cD : ClassId} {ad : Nat → Nat} {w : Nat → va_E} {sz : Nat} (n t cl qu : Nat) (wh : Int32) (x : Nat) (hx0 : x < 1073741789) (h0 : w 0 = .inr (3, [.ref (ad 1), .ref (ad 70), .ref (ad 71), .ref (ad 72), .ref (ad 76), .int (nI n), .int (nI t), .int (nI cl), .int (nI qu), .int wh])) : MW l yX4_needExponent (.code yX4_needExponent cX4_needExponent 2 none) ({ frames := 1, cells := 0, slots := 0, locals := 28 }) [.ref (ad 0), .int (nI x)] D (tyL cI cJ cZ cD) ad 89 w sz none (fun u => u = w) := by
  refine MW.of (by decide) (Nat.le_of_ble_eq_true rfl) ?_
  intro p e s m below meth c ls hC hr hlocks hl hw
  obtain ⟨hx, hb, hml, hown, hts⟩ := id hC
  have hA : ∀ q, s.heap.size ≤ q → xA ad 89 s.heap.size q := fun q h => Or.inr h
  have hl : lv_has ls 2 [(0, .ref (ad 0)), (1, .int (nI x))] := hl
  refine lv_iload_n hx hb dX4_needExponent_0 rfl (lv_at hl 1 rfl) ?_
  refine x_callS (As := [.int (nI x)]) (rest := []) hC sf_X4_224 (k_isExponent l x hx0) ⟨rfl, rfl, Nat.le_of_ble_eq_true rfl, Nat.le_of_ble_eq_true rfl⟩ hl.1 (Nat.le_of_ble_eq_true rfl) dX4_needExponent_1 ⟨Nat.zero_le _, Nat.zero_le _⟩ rfl ?_
  refine lv_if_ne (tgt := 17) hx hb dX4_needExponent_4 (by decide) (fun hc => ?_) (fun hc => absurd hc (by decide))
  exact x_wretV hx hb hr hlocks hw rfl dX4_needExponent_17
set_option maxHeartbeats 4000000 in
set_option maxRecDepth 100000 in
theorem k_needExponentT (l : Launch) (hl0 : l.stackTraces = false) {D : va_G} {cI cJ cZ cD : ClassId} {ad : Nat → Nat} {sa : Nat → Nat} {w : Nat → va_E} {sz : Nat} (n t cl qu : Nat) (wh : Int32) (x : Int32) (hx0 : ¬ isEx x) (h0 : w 0 = .inr (3, [.ref (ad 1), .ref (ad 70), .ref (ad 71), .ref (ad 72), .ref (ad 76), .int (nI n), .int (nI t), .int (nI cl), .int (nI qu), .int wh])) : MT l yX4_needExponent (.code yX4_needExponent cX4_needExponent 2 none) ({ frames := 6, cells := 1, slots := 6, locals := 82 }) [.ref (ad 0), .int x] D (tyL cI cJ cZ cD) ad 89 w sz sa "java/lang/IllegalArgumentException" := by
  refine MT.of (by decide) (Nat.le_of_ble_eq_true rfl) ?_
  intro p e s m below meth c ls hC hlocks htab hl hw hT
  obtain ⟨hx, hb, hml, hown, hts⟩ := id hC
  have hA : ∀ q, s.heap.size ≤ q → xA ad 89 s.heap.size q := fun q h => Or.inr h
  have hl : lv_has ls 2 [(0, .ref (ad 0)), (1, .int x)] := hl
  refine lv_iload_n hx hb dX4_needExponent_0 rfl (lv_at hl 1 rfl) ?_
  refine x_callS (As := [.int x]) (rest := []) hC sf_X4_224 (k_isExponentN l x (isEx_no hx0)) ⟨rfl, rfl, Nat.le_of_ble_eq_true rfl, Nat.le_of_ble_eq_true rfl⟩ hl.1 (Nat.le_of_ble_eq_true rfl) dX4_needExponent_1 ⟨Nat.zero_le _, Nat.zero_le _⟩ rfl ?_
  refine lv_if_ne (tgt := 17) hx hb dX4_needExponent_4 (by decide) (fun hc => absurd (by decide) hc) (fun hc => ?_)
  exact x_throwIAE (is := 227) (text := "the number is not 0 .. q - 1") hl0 hC hlocks htab hw hT (by decide +kernel) hl.1 dX4_needExponent_7 dX4_needExponent_10 dX4_needExponent_11 dX4_needExponent_13 dX4_needExponent_16 (Nat.le_of_ble_eq_true rfl) (Nat.le_of_ble_eq_true rfl) ⟨Nat.le_of_ble_eq_true rfl, Nat.le_of_ble_eq_true rfl⟩
set_option maxHeartbeats 4000000 in
set_option maxRecDepth 100000 in
theorem k_needWhat (l : Launch) {D : va_G} {cI cJ cZ cD : ClassId} {ad : Nat → Nat} {w : Nat → va_E} {sz : Nat} (n t cl qu : Nat) (wh : Int32) (x b : Nat) (hb0 : b < 2 ^ 31) (hx0 : x ≤ b) (h0 : w 0 = .inr (3, [.ref (ad 1), .ref (ad 70), .ref (ad 71), .ref (ad 72), .ref (ad 76), .int (nI n), .int (nI t), .int (nI cl), .int (nI qu), .int wh])) : MW l yX4_needWhat (.code yX4_needWhat cX4_needWhat 3 none) ({ frames := 0, cells := 0, slots := 0, locals := 0 }) [.ref (ad 0), .int (nI x), .int (nI b)] D (tyL cI cJ cZ cD) ad 89 w sz none (fun u => u = w) := by
  refine MW.of (by decide) (Nat.le_of_ble_eq_true rfl) ?_
  intro p e s m below meth c ls hC hr hlocks hl hw
  obtain ⟨hx, hb, hml, hown, hts⟩ := id hC
  have hA : ∀ q, s.heap.size ≤ q → xA ad 89 s.heap.size q := fun q h => Or.inr h
  have hl : lv_has ls 3 [(0, .ref (ad 0)), (1, .int (nI x)), (2, .int (nI b))] := hl
  refine lv_iload_n hx hb dX4_needWhat_0 rfl (lv_at hl 1 rfl) ?_
  refine lv_if_lt (tgt := 9) hx hb dX4_needWhat_1 (by decide) (fun hc => absurd hc (nI_pos (by omega))) (fun hc => ?_)
  refine lv_iload_n hx hb dX4_needWhat_4 rfl (lv_at hl 1 rfl) ?_
  refine lv_iload_n hx hb dX4_needWhat_5 rfl (lv_at hl 2 rfl) ?_
  refine lv_icmp_le (tgt := 19) hx hb dX4_needWhat_6 (by decide) (fun hc2 => ?_) (fun hc2 => absurd (nI_le (by omega) (by omega)) hc2)
  exact x_wretV hx hb hr hlocks hw rfl dX4_needWhat_19
set_option maxHeartbeats 4000000 in
set_option maxRecDepth 100000 in
theorem k_needWhatT (l : Launch) (hl0 : l.stackTraces = false) {D : va_G} {cI cJ cZ cD : ClassId} {ad : Nat → Nat} {sa : Nat → Nat} {w : Nat → va_E} {sz : Nat} (n t cl qu : Nat) (wh : Int32) (x : Int32) (b : Nat) (hx0 : x < 0 ∨ ¬ x ≤ nI b) (h0 : w 0 = .inr (3, [.ref (ad 1), .ref (ad 70), .ref (ad 71), .ref (ad 72), .ref (ad 76), .int (nI n), .int (nI t), .int (nI cl), .int (nI qu), .int wh])) : MT l yX4_needWhat (.code yX4_needWhat cX4_needWhat 3 none) ({ frames := 6, cells := 1, slots := 6, locals := 82 }) [.ref (ad 0), .int x, .int (nI b)] D (tyL cI cJ cZ cD) ad 89 w sz sa "java/lang/IllegalArgumentException" := by
  refine MT.of (by decide) (Nat.le_of_ble_eq_true rfl) ?_
  intro p e s m below meth c ls hC hlocks htab hl hw hT
  obtain ⟨hx, hb, hml, hown, hts⟩ := id hC
  have hA : ∀ q, s.heap.size ≤ q → xA ad 89 s.heap.size q := fun q h => Or.inr h
  have hl : lv_has ls 3 [(0, .ref (ad 0)), (1, .int x), (2, .int (nI b))] := hl
  refine lv_iload_n hx hb dX4_needWhat_0 rfl (lv_at hl 1 rfl) ?_
  refine lv_if_lt (tgt := 9) hx hb dX4_needWhat_1 (by decide) (fun hc => ?_) (fun hc => ?_)
  · skip
    exact x_throwIAE (is := 229) (text := "what is none of those told") hl0 hC hlocks htab hw hT (by decide +kernel) hl.1 dX4_needWhat_9 dX4_needWhat_12 dX4_needWhat_13 dX4_needWhat_15 dX4_needWhat_18 (Nat.le_of_ble_eq_true rfl) (Nat.le_of_ble_eq_true rfl) ⟨Nat.le_of_ble_eq_true rfl, Nat.le_of_ble_eq_true rfl⟩
  · skip
    refine lv_iload_n hx hb dX4_needWhat_4 rfl (lv_at hl 1 rfl) ?_
    refine lv_iload_n hx hb dX4_needWhat_5 rfl (lv_at hl 2 rfl) ?_
    refine lv_icmp_le (tgt := 19) hx hb dX4_needWhat_6 (by decide) (fun hc2 => absurd hc2 (hx0.resolve_left hc)) (fun hc2 => ?_)
    exact x_throwIAE (is := 229) (text := "what is none of those told") hl0 hC hlocks htab hw hT (by decide +kernel) hl.1 dX4_needWhat_9 dX4_needWhat_12 dX4_needWhat_13 dX4_needWhat_15 dX4_needWhat_18 (Nat.le_of_ble_eq_true rfl) (Nat.le_of_ble_eq_true rfl) ⟨Nat.le_of_ble_eq_true rfl, Nat.le_of_ble_eq_true rfl⟩
set_option maxHeartbeats 4000000 in
set_option maxRecDepth 100000 in
theorem k_needDealt (l : Launch) {D : va_G} {cI cJ cZ cD : ClassId} {ad : Nat → Nat} {w : Nat → va_E} {sz : Nat} (n t cl qu : Nat) (wh : Int32) (i : Nat) (hi : i < 17) (df : Nat → Option Nat) (hdf : ∀ i, i < 17 → df i = some (ad (2 + 4 * i))) (cp ou : Int32) (h0 : w 0 = .inr (3, [.ref (ad 1), .ref (ad 70), .ref (ad 71), .ref (ad 72), .ref (ad 76), .int (nI n), .int (nI t), .int (nI cl), .int (nI qu), .int wh])) (hDa : w 1 = .inl (cD, 17, .inr (.inr (.inr (.inr df))))) (hD : w (2 + 4 * i) = .inr (0, [.ref (ad (3 + 4 * i)), .ref (ad (4 + 4 * i)), .ref (ad (5 + 4 * i)), .int cp, .int (nI 1), .int ou])) : MW l yX4_needDealt (.code yX4_needDealt cX4_needDealt 2 none) ({ frames := 0, cells := 0, slots := 0, locals := 0 }) [.ref (ad 0), .int (nI i)] D (tyL cI cJ cZ cD) ad 89 w sz none (fun u => u = w) := by
  refine MW.of (by decide) (Nat.le_of_ble_eq_true rfl) ?_
  intro p e s m below meth c ls hC hr hlocks hl hw
  obtain ⟨hx, hb, hml, hown, hts⟩ := id hC
  have hA : ∀ q, s.heap.size ≤ q → xA ad 89 s.heap.size q := fun q h => Or.inr h
  have hl : lv_has ls 2 [(0, .ref (ad 0)), (1, .int (nI i))] := hl
  refine lv_aload_n hx hb dX4_needDealt_0 rfl (lv_at hl 0 rfl) ?_
  refine gf_X4_11 hx hb hts hown hw (by decide) h0 rfl dX4_needDealt_1 ?_
  refine lv_iload_n hx hb dX4_needDealt_4 rfl (lv_at hl 1 rfl) ?_
  refine x_aald hx hb hw (by decide) 3 hDa rfl (j := i) (by omega) (by decide) (hdf _ (by omega)) dX4_needDealt_5 ?_
  refine gf_X4_69 hx hb hts hown hw (by omega) hD rfl dX4_needDealt_6 ?_
  refine lv_if_ne (tgt := 22) hx hb dX4_needDealt_9 (by decide) (fun hc => ?_) (fun hc => absurd hc (by decide))
  exact x_wretV hx hb hr hlocks hw rfl dX4_needDealt_22
set_option maxHeartbeats 4000000 in
set_option maxRecDepth 100000 in
theorem k_needDealtT (l : Launch) (hl0 : l.stackTraces = false) {D : va_G} {cI cJ cZ cD : ClassId} {ad : Nat → Nat} {sa : Nat → Nat} {w : Nat → va_E} {sz : Nat} (n t cl qu : Nat) (wh : Int32) (i : Nat) (hi : i < 17) (df : Nat → Option Nat) (hdf : ∀ i, i < 17 → df i = some (ad (2 + 4 * i))) (cp ou : Int32) (h0 : w 0 = .inr (3, [.ref (ad 1), .ref (ad 70), .ref (ad 71), .ref (ad 72), .ref (ad 76), .int (nI n), .int (nI t), .int (nI cl), .int (nI qu), .int wh])) (hDa : w 1 = .inl (cD, 17, .inr (.inr (.inr (.inr df))))) (hD : w (2 + 4 * i) = .inr (0, [.ref (ad (3 + 4 * i)), .ref (ad (4 + 4 * i)), .ref (ad (5 + 4 * i)), .int cp, .int (nI 0), .int ou])) : MT l yX4_needDealt (.code yX4_needDealt cX4_needDealt 2 none) ({ frames := 6, cells := 1, slots := 6, locals := 82 }) [.ref (ad 0), .int (nI i)] D (tyL cI cJ cZ cD) ad 89 w sz sa "java/lang/IllegalStateException" := by
  refine MT.of (by decide) (Nat.le_of_ble_eq_true rfl) ?_
  intro p e s m below meth c ls hC hlocks htab hl hw hT
  obtain ⟨hx, hb, hml, hown, hts⟩ := id hC
  have hA : ∀ q, s.heap.size ≤ q → xA ad 89 s.heap.size q := fun q h => Or.inr h
  have hl : lv_has ls 2 [(0, .ref (ad 0)), (1, .int (nI i))] := hl
  refine lv_aload_n hx hb dX4_needDealt_0 rfl (lv_at hl 0 rfl) ?_
  refine gf_X4_11 hx hb hts hown hw (by decide) h0 rfl dX4_needDealt_1 ?_
  refine lv_iload_n hx hb dX4_needDealt_4 rfl (lv_at hl 1 rfl) ?_
  refine x_aald hx hb hw (by decide) 3 hDa rfl (j := i) (by omega) (by decide) (hdf _ (by omega)) dX4_needDealt_5 ?_
  refine gf_X4_69 hx hb hts hown hw (by omega) hD rfl dX4_needDealt_6 ?_
  refine lv_if_ne (tgt := 22) hx hb dX4_needDealt_9 (by decide) (fun hc => absurd (by decide) hc) (fun hc => ?_)
  exact x_throwISE (is := 231) (text := "the dealer has not dealt") hl0 hC hlocks htab hw hT (by decide +kernel) hl.1 dX4_needDealt_12 dX4_needDealt_15 dX4_needDealt_16 dX4_needDealt_18 dX4_needDealt_21 (Nat.le_of_ble_eq_true rfl) (Nat.le_of_ble_eq_true rfl) ⟨Nat.le_of_ble_eq_true rfl, Nat.le_of_ble_eq_true rfl⟩
set_option maxHeartbeats 4000000 in
set_option maxRecDepth 100000 in
theorem k_needOpen (l : Launch) {D : va_G} {cI cJ cZ cD : ClassId} {ad : Nat → Nat} {w : Nat → va_E} {sz : Nat} (n t qu : Nat) (wh : Int32) (h0 : w 0 = .inr (3, [.ref (ad 1), .ref (ad 70), .ref (ad 71), .ref (ad 72), .ref (ad 76), .int (nI n), .int (nI t), .int (nI 0), .int (nI qu), .int wh])) : MW l yX4_needOpen (.code yX4_needOpen cX4_needOpen 1 none) ({ frames := 0, cells := 0, slots := 0, locals := 0 }) [.ref (ad 0)] D (tyL cI cJ cZ cD) ad 89 w sz none (fun u => u = w) := by
  refine MW.of (by decide) (Nat.le_of_ble_eq_true rfl) ?_
  intro p e s m below meth c ls hC hr hlocks hl hw
  obtain ⟨hx, hb, hml, hown, hts⟩ := id hC
  have hA : ∀ q, s.heap.size ≤ q → xA ad 89 s.heap.size q := fun q h => Or.inr h
  have hl : lv_has ls 1 [(0, .ref (ad 0))] := hl
  refine lv_aload_n hx hb dX4_needOpen_0 rfl (lv_at hl 0 rfl) ?_
  refine gf_X4_51 hx hb hts hown hw (by decide) h0 rfl dX4_needOpen_1 ?_
  refine lv_if_eq (tgt := 17) hx hb dX4_needOpen_4 (by decide) (fun hc => ?_) (fun hc => absurd (by decide) hc)
  exact x_wretV hx hb hr hlocks hw rfl dX4_needOpen_17
set_option maxHeartbeats 4000000 in
set_option maxRecDepth 100000 in
theorem k_needOpenT (l : Launch) (hl0 : l.stackTraces = false) {D : va_G} {cI cJ cZ cD : ClassId} {ad : Nat → Nat} {sa : Nat → Nat} {w : Nat → va_E} {sz : Nat} (n t qu : Nat) (wh : Int32) (h0 : w 0 = .inr (3, [.ref (ad 1), .ref (ad 70), .ref (ad 71), .ref (ad 72), .ref (ad 76), .int (nI n), .int (nI t), .int (nI 1), .int (nI qu), .int wh])) : MT l yX4_needOpen (.code yX4_needOpen cX4_needOpen 1 none) ({ frames := 6, cells := 1, slots := 6, locals := 82 }) [.ref (ad 0)] D (tyL cI cJ cZ cD) ad 89 w sz sa "java/lang/IllegalStateException" := by
  refine MT.of (by decide) (Nat.le_of_ble_eq_true rfl) ?_
  intro p e s m below meth c ls hC hlocks htab hl hw hT
  obtain ⟨hx, hb, hml, hown, hts⟩ := id hC
  have hA : ∀ q, s.heap.size ≤ q → xA ad 89 s.heap.size q := fun q h => Or.inr h
  have hl : lv_has ls 1 [(0, .ref (ad 0))] := hl
  refine lv_aload_n hx hb dX4_needOpen_0 rfl (lv_at hl 0 rfl) ?_
  refine gf_X4_51 hx hb hts hown hw (by decide) h0 rfl dX4_needOpen_1 ?_
  refine lv_if_eq (tgt := 17) hx hb dX4_needOpen_4 (by decide) (fun hc => absurd hc (by decide)) (fun hc => ?_)
  exact x_throwISE (is := 233) (text := "all is closed") hl0 hC hlocks htab hw hT (by decide +kernel) hl.1 dX4_needOpen_7 dX4_needOpen_10 dX4_needOpen_11 dX4_needOpen_13 dX4_needOpen_16 (Nat.le_of_ble_eq_true rfl) (Nat.le_of_ble_eq_true rfl) ⟨Nat.le_of_ble_eq_true rfl, Nat.le_of_ble_eq_true rfl⟩
set_option maxHeartbeats 4000000 in
set_option maxRecDepth 100000 in
theorem k_needClosed (l : Launch) {D : va_G} {cI cJ cZ cD : ClassId} {ad : Nat → Nat} {w : Nat → va_E} {sz : Nat} (n t qu : Nat) (wh : Int32) (h0 : w 0 = .inr (3, [.ref (ad 1), .ref (ad 70), .ref (ad 71), .ref (ad 72), .ref (ad 76), .int (nI n), .int (nI t), .int (nI 1), .int (nI qu), .int wh])) : MW l yX4_needClosed (.code yX4_needClosed cX4_needClosed 1 none) ({ frames := 0, cells := 0, slots := 0, locals := 0 }) [.ref (ad 0)] D (tyL cI cJ cZ cD) ad 89 w sz none (fun u => u = w) := by
  refine MW.of (by decide) (Nat.le_of_ble_eq_true rfl) ?_
  intro p e s m below meth c ls hC hr hlocks hl hw
  obtain ⟨hx, hb, hml, hown, hts⟩ := id hC
  have hA : ∀ q, s.heap.size ≤ q → xA ad 89 s.heap.size q := fun q h => Or.inr h
  have hl : lv_has ls 1 [(0, .ref (ad 0))] := hl
  refine lv_aload_n hx hb dX4_needClosed_0 rfl (lv_at hl 0 rfl) ?_
  refine gf_X4_51 hx hb hts hown hw (by decide) h0 rfl dX4_needClosed_1 ?_
  refine lv_if_ne (tgt := 17) hx hb dX4_needClosed_4 (by decide) (fun hc => ?_) (fun hc => absurd hc (by decide))
  exact x_wretV hx hb hr hlocks hw rfl dX4_needClosed_17
set_option maxHeartbeats 4000000 in
set_option maxRecDepth 100000 in
theorem k_needClosedT (l : Launch) (hl0 : l.stackTraces = false) {D : va_G} {cI cJ cZ cD : ClassId} {ad : Nat → Nat} {sa : Nat → Nat} {w : Nat → va_E} {sz : Nat} (n t qu : Nat) (wh : Int32) (h0 : w 0 = .inr (3, [.ref (ad 1), .ref (ad 70), .ref (ad 71), .ref (ad 72), .ref (ad 76), .int (nI n), .int (nI t), .int (nI 0), .int (nI qu), .int wh])) : MT l yX4_needClosed (.code yX4_needClosed cX4_needClosed 1 none) ({ frames := 6, cells := 1, slots := 6, locals := 82 }) [.ref (ad 0)] D (tyL cI cJ cZ cD) ad 89 w sz sa "java/lang/IllegalStateException" := by
  refine MT.of (by decide) (Nat.le_of_ble_eq_true rfl) ?_
  intro p e s m below meth c ls hC hlocks htab hl hw hT
  obtain ⟨hx, hb, hml, hown, hts⟩ := id hC
  have hA : ∀ q, s.heap.size ≤ q → xA ad 89 s.heap.size q := fun q h => Or.inr h
  have hl : lv_has ls 1 [(0, .ref (ad 0))] := hl
  refine lv_aload_n hx hb dX4_needClosed_0 rfl (lv_at hl 0 rfl) ?_
  refine gf_X4_51 hx hb hts hown hw (by decide) h0 rfl dX4_needClosed_1 ?_
  refine lv_if_ne (tgt := 17) hx hb dX4_needClosed_4 (by decide) (fun hc => absurd (by decide) hc) (fun hc => ?_)
  exact x_throwISE (is := 235) (text := "it is not closed") hl0 hC hlocks htab hw hT (by decide +kernel) hl.1 dX4_needClosed_7 dX4_needClosed_10 dX4_needClosed_11 dX4_needClosed_13 dX4_needClosed_16 (Nat.le_of_ble_eq_true rfl) (Nat.le_of_ble_eq_true rfl) ⟨Nat.le_of_ble_eq_true rfl, Nat.le_of_ble_eq_true rfl⟩
set_option maxHeartbeats 4000000 in
set_option maxRecDepth 100000 in
theorem k_needEnded (l : Launch) {D : va_G} {cI cJ cZ cD : ClassId} {ad : Nat → Nat} {w : Nat → va_E} {sz : Nat} (n t qu : Nat) (wh : Int32) (en : Nat) (hen : en ≤ 300) (kp bas : Int32) (msg : Int64) (r : Nat) (hr0 : r ≤ en) (h0 : w 0 = .inr (3, [.ref (ad 1), .ref (ad 70), .ref (ad 71), .ref (ad 72), .ref (ad 76), .int (nI n), .int (nI t), .int (nI 1), .int (nI qu), .int wh])) (hR : w 72 = .inr (1, [.ref (ad 73), .ref (ad 74), .ref (ad 75), .int (nI en), .int kp, .long msg, .int bas])) : MW l yX4_needEnded (.code yX4_needEnded cX4_needEnded 2 none) ({ frames := 1, cells := 0, slots := 0, locals := 28 }) [.ref (ad 0), .int (nI r)] D (tyL cI cJ cZ cD) ad 89 w sz none (fun u => u = w) := by
  refine MW.of (by decide) (Nat.le_of_ble_eq_true rfl) ?_
  intro p e s m below meth c ls hC hr hlocks hl hw
  obtain ⟨hx, hb, hml, hown, hts⟩ := id hC
  have hA : ∀ q, s.heap.size ≤ q → xA ad 89 s.heap.size q := fun q h => Or.inr h
  have hl : lv_has ls 2 [(0, .ref (ad 0)), (1, .int (nI r))] := hl
  refine lv_iload_n hx hb dX4_needEnded_0 rfl (lv_at hl 1 rfl) ?_
  refine lv_if_ge (tgt := 14) hx hb dX4_needEnded_1 (by decide) (fun hc => ?_) (fun hc => absurd (nI_pos' (by omega)) hc)
  refine lv_aload_n hx hb dX4_needEnded_14 rfl (lv_at hl 0 rfl) ?_
  refine x_callW0 (As := []) (rest := []) hC vf_X4_141 hw hA (by decide) h0 rfl rfl (k_needClosed l n t qu wh h0) ⟨rfl, rfl, Nat.le_of_ble_eq_true rfl, Nat.le_of_ble_eq_true rfl⟩ hl.1 (Nat.le_of_ble_eq_true rfl) dX4_needEnded_15 ⟨Nat.zero_le _, Nat.zero_le _⟩ rfl (fun w_1 H locs hu hw => ?_)
  rw [hu] at hw
  refine lv_iload_n hx hb dX4_needEnded_18 rfl (lv_at hl 1 rfl) ?_
  refine lv_aload_n hx hb dX4_needEnded_19 rfl (lv_at hl 0 rfl) ?_
  refine gf_X4_26 hx hb hts hown hw (by decide) h0 rfl dX4_needEnded_20 ?_
  refine gf_X4_147 hx hb hts hown hw (by decide) hR rfl dX4_needEnded_23 ?_
  refine lv_icmp_le (tgt := 39) hx hb dX4_needEnded_26 (by decide) (fun hc2 => ?_) (fun hc2 => absurd (nI_le (by omega) (by omega)) hc2)
  exact x_wretV hx hb hr hlocks hw rfl dX4_needEnded_39
set_option maxHeartbeats 4000000 in
set_option maxRecDepth 100000 in
theorem k_needEndedN (l : Launch) (hl0 : l.stackTraces = false) {D : va_G} {cI cJ cZ cD : ClassId} {ad : Nat → Nat} {sa : Nat → Nat} {w : Nat → va_E} {sz : Nat} (n t cl qu : Nat) (wh : Int32) (r : Int32) (hr0 : r < 0) (h0 : w 0 = .inr (3, [.ref (ad 1), .ref (ad 70), .ref (ad 71), .ref (ad 72), .ref (ad 76), .int (nI n), .int (nI t), .int (nI cl), .int (nI qu), .int wh])) : MT l yX4_needEnded (.code yX4_needEnded cX4_needEnded 2 none) ({ frames := 6, cells := 1, slots := 6, locals := 82 }) [.ref (ad 0), .int r] D (tyL cI cJ cZ cD) ad 89 w sz sa "java/lang/IllegalArgumentException" := by
  refine MT.of (by decide) (Nat.le_of_ble_eq_true rfl) ?_
  intro p e s m below meth c ls hC hlocks htab hl hw hT
  obtain ⟨hx, hb, hml, hown, hts⟩ := id hC
  have hA : ∀ q, s.heap.size ≤ q → xA ad 89 s.heap.size q := fun q h => Or.inr h
  have hl : lv_has ls 2 [(0, .ref (ad 0)), (1, .int r)] := hl
  refine lv_iload_n hx hb dX4_needEnded_0 rfl (lv_at hl 1 rfl) ?_
  refine lv_if_ge (tgt := 14) hx hb dX4_needEnded_1 (by decide) (fun hc => absurd hc (Int32.not_le.mpr hr0)) (fun hc => ?_)
  exact x_throwIAE (is := 237) (text := "a round is not below 0") hl0 hC hlocks htab hw hT (by decide +kernel) hl.1 dX4_needEnded_4 dX4_needEnded_7 dX4_needEnded_8 dX4_needEnded_10 dX4_needEnded_13 (Nat.le_of_ble_eq_true rfl) (Nat.le_of_ble_eq_true rfl) ⟨Nat.le_of_ble_eq_true rfl, Nat.le_of_ble_eq_true rfl⟩
set_option maxHeartbeats 4000000 in
set_option maxRecDepth 100000 in
theorem k_needEndedC (l : Launch) (hl0 : l.stackTraces = false) {D : va_G} {cI cJ cZ cD : ClassId} {ad : Nat → Nat} {sa : Nat → Nat} {w : Nat → va_E} {sz : Nat} (n t qu : Nat) (wh : Int32) (r : Int32) (hr0 : ¬ r < 0) (h0 : w 0 = .inr (3, [.ref (ad 1), .ref (ad 70), .ref (ad 71), .ref (ad 72), .ref (ad 76), .int (nI n), .int (nI t), .int (nI 0), .int (nI qu), .int wh])) : MT l yX4_needEnded (.code yX4_needEnded cX4_needEnded 2 none) ({ frames := 7, cells := 1, slots := 6, locals := 110 }) [.ref (ad 0), .int r] D (tyL cI cJ cZ cD) ad 89 w sz sa "java/lang/IllegalStateException" := by
  refine MT.of (by decide) (Nat.le_of_ble_eq_true rfl) ?_
  intro p e s m below meth c ls hC hlocks htab hl hw hT
  obtain ⟨hx, hb, hml, hown, hts⟩ := id hC
  have hA : ∀ q, s.heap.size ≤ q → xA ad 89 s.heap.size q := fun q h => Or.inr h
  have hl : lv_has ls 2 [(0, .ref (ad 0)), (1, .int r)] := hl
  refine lv_iload_n hx hb dX4_needEnded_0 rfl (lv_at hl 1 rfl) ?_
  refine lv_if_ge (tgt := 14) hx hb dX4_needEnded_1 (by decide) (fun hc => ?_) (fun hc => absurd (nlt_le hr0) hc)
  refine lv_aload_n hx hb dX4_needEnded_14 rfl (lv_at hl 0 rfl) ?_
  exact x_prop (As := []) (rest := []) hC vf_X4_141 hlocks htab hw hT (by decide) h0 rfl rfl (k_needClosedT l hl0 n t qu wh h0) ⟨rfl, rfl, Nat.le_of_ble_eq_true rfl, Nat.le_of_ble_eq_true rfl⟩ hl.1 (Nat.le_of_ble_eq_true rfl) dX4_needEnded_15 ⟨Nat.le_of_ble_eq_true rfl, Nat.le_of_ble_eq_true rfl⟩ rfl
set_option maxHeartbeats 4000000 in
set_option maxRecDepth 100000 in
theorem k_needEndedA (l : Launch) (hl0 : l.stackTraces = false) {D : va_G} {cI cJ cZ cD : ClassId} {ad : Nat → Nat} {sa : Nat → Nat} {w : Nat → va_E} {sz : Nat} (n t qu : Nat) (wh : Int32) (en : Nat) (hen : en ≤ 300) (kp bas : Int32) (msg : Int64) (r : Int32) (hr0 : ¬ r < 0) (hr1 : ¬ r ≤ nI en) (h0 : w 0 = .inr (3, [.ref (ad 1), .ref (ad 70), .ref (ad 71), .ref (ad 72), .ref (ad 76), .int (nI n), .int (nI t), .int (nI 1), .int (nI qu), .int wh])) (hR : w 72 = .inr (1, [.ref (ad 73), .ref (ad 74), .ref (ad 75), .int (nI en), .int kp, .long msg, .int bas])) : MT l yX4_needEnded (.code yX4_needEnded cX4_needEnded 2 none) ({ frames := 6, cells := 1, slots := 6, locals := 82 }) [.ref (ad 0), .int r] D (tyL cI cJ cZ cD) ad 89 w sz sa "java/lang/IllegalArgumentException" := by
  refine MT.of (by decide) (Nat.le_of_ble_eq_true rfl) ?_
  intro p e s m below meth c ls hC hlocks htab hl hw hT
  obtain ⟨hx, hb, hml, hown, hts⟩ := id hC
  have hA : ∀ q, s.heap.size ≤ q → xA ad 89 s.heap.size q := fun q h => Or.inr h
  have hl : lv_has ls 2 [(0, .ref (ad 0)), (1, .int r)] := hl
  refine lv_iload_n hx hb dX4_needEnded_0 rfl (lv_at hl 1 rfl) ?_
  refine lv_if_ge (tgt := 14) hx hb dX4_needEnded_1 (by decide) (fun hc => ?_) (fun hc => absurd (nlt_le hr0) hc)
  refine lv_aload_n hx hb dX4_needEnded_14 rfl (lv_at hl 0 rfl) ?_
  refine x_callW0 (As := []) (rest := []) hC vf_X4_141 hw hA (by decide) h0 rfl rfl (k_needClosed l n t qu wh h0) ⟨rfl, rfl, Nat.le_of_ble_eq_true rfl, Nat.le_of_ble_eq_true rfl⟩ hl.1 (Nat.le_of_ble_eq_true rfl) dX4_needEnded_15 ⟨Nat.zero_le _, Nat.zero_le _⟩ rfl (fun w_1 H locs hu hw => ?_)
  rw [hu] at hw
  refine lv_iload_n hx hb dX4_needEnded_18 rfl (lv_at hl 1 rfl) ?_
  refine lv_aload_n hx hb dX4_needEnded_19 rfl (lv_at hl 0 rfl) ?_
  refine gf_X4_26 hx hb hts hown hw (by decide) h0 rfl dX4_needEnded_20 ?_
  refine gf_X4_147 hx hb hts hown hw (by decide) hR rfl dX4_needEnded_23 ?_
  refine lv_icmp_le (tgt := 39) hx hb dX4_needEnded_26 (by decide) (fun hc2 => absurd hc2 hr1) (fun hc2 => ?_)
  exact x_throwIAE (is := 239) (text := "the round has not ended") hl0 hC hlocks htab hw hT (by decide +kernel) hl.1 dX4_needEnded_29 dX4_needEnded_32 dX4_needEnded_33 dX4_needEnded_35 dX4_needEnded_38 (Nat.le_of_ble_eq_true rfl) (Nat.le_of_ble_eq_true rfl) ⟨Nat.le_of_ble_eq_true rfl, Nat.le_of_ble_eq_true rfl⟩
