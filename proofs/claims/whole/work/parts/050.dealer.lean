/-! a dealer's methods (but dealBySeed) -/
abbrev tyL (cI cJ cZ cD : ClassId) : List (ClassId × FieldType) := [(cI, .int), (cJ, .long), (cZ, .boolean), (cD, .object "BeaconRing$Dealer")]
theorem or_bit {a k : Nat} (hk : k < 31) : nI a ||| (nI 1 <<< (nI k &&& 31)) = nI (a ||| 2 ^ k) := by
  rw [pk_shlN _ k (sh_k k (by omega)) (by have := Nat.pow_lt_pow_right (a := 2) (by decide) hk; omega), Nat.one_mul]
  apply Int32.toBitVec_inj.mp
  rw [Int32.toBitVec_or]
  show BitVec.ofNat 32 a ||| BitVec.ofNat 32 (2 ^ k) = BitVec.ofNat 32 (a ||| 2 ^ k)
  rw [BitVec.ofNat_or]

set_option maxHeartbeats 4000000 in
set_option maxRecDepth 100000 in
theorem k_forget (l : Launch) {D : va_G} {cI cJ cZ cD : ClassId} {ad : Nat → Nat} {w : Nat → va_E} {sz : Nat} (i : Nat) (hi : i < 17) (cp hd ou : Int32) (hD : w (2 + 4 * i) = .inr (0, [.ref (ad (3 + 4 * i)), .ref (ad (4 + 4 * i)), .ref (ad (5 + 4 * i)), .int cp, .int hd, .int ou])) : MW l yX0_forget (.code yX0_forget cX0_forget 1 none) ({ frames := 0, cells := 0, slots := 0, locals := 0 }) [.ref (ad (2 + 4 * i))] D (tyL cI cJ cZ cD) ad 89 w sz none (fun u => u = va_up w (2 + 4 * i) (.inr (0, [.ref (ad (3 + 4 * i)), .ref (ad (4 + 4 * i)), .ref (ad (5 + 4 * i)), .int (nI 0), .int (nI 0), .int (nI 0)]))) := by
  refine MW.of (by decide) (Nat.le_of_ble_eq_true rfl) ?_
  intro p e s m below meth c ls hC hr hlocks hl hw
  obtain ⟨hx, hb, hml, hown, hts⟩ := id hC
  have hA : ∀ q, s.heap.size ≤ q → xA ad 89 s.heap.size q := fun q h => Or.inr h
  have hl : lv_has ls 1 [(0, .ref (ad (2 + 4 * i)))] := hl
  refine lv_aload_n hx hb dX0_forget_0 rfl (lv_at hl 0 rfl) ?_
  refine lv_iconst (v := nI 0) hx hb dX0_forget_1 (by decide) ?_
  refine pf_X0_21 (v := .int (nI 0)) hx hb hts hown hw (by omega) hD rfl rfl (Nat.le_of_ble_eq_true rfl) dX0_forget_2 (fun w_1 H locs ew_2 hw => ?_)
  have hc_3 : w_1 (2 + 4 * i) = .inr (0, [.ref (ad (3 + 4 * i)), .ref (ad (4 + 4 * i)), .ref (ad (5 + 4 * i)), .int (nI 0), .int hd, .int ou]) := by rw [ew_2]; exact va_up_self _ _ _
  refine lv_aload_n hx hb dX0_forget_5 rfl (lv_at hl 0 rfl) ?_
  refine lv_iconst (v := nI 0) hx hb dX0_forget_6 (by decide) ?_
  refine pf_X0_25 (v := .int (nI 0)) hx hb hts hown hw (by omega) hc_3 rfl (by decide) (Nat.le_of_ble_eq_true rfl) dX0_forget_7 (fun w_4 H locs ew_5 hw => ?_)
  have hc_6 : w_4 (2 + 4 * i) = .inr (0, [.ref (ad (3 + 4 * i)), .ref (ad (4 + 4 * i)), .ref (ad (5 + 4 * i)), .int (nI 0), .int (nI 0), .int ou]) := by rw [ew_5]; exact va_up_self _ _ _
  refine lv_aload_n hx hb dX0_forget_10 rfl (lv_at hl 0 rfl) ?_
  refine lv_iconst (v := nI 0) hx hb dX0_forget_11 (by decide) ?_
  refine pf_X0_29 (v := .int (nI 0)) hx hb hts hown hw (by omega) hc_6 rfl (by decide) (Nat.le_of_ble_eq_true rfl) dX0_forget_12 (fun w_7 H locs ew_8 hw => ?_)
  have hc_9 : w_7 (2 + 4 * i) = .inr (0, [.ref (ad (3 + 4 * i)), .ref (ad (4 + 4 * i)), .ref (ad (5 + 4 * i)), .int (nI 0), .int (nI 0), .int (nI 0)]) := by rw [ew_8]; exact va_up_self _ _ _
  exact x_wretV hx hb hr hlocks hw (by rw [ew_8, ew_5, ew_2, bx_uu, bx_uu] <;> rfl) dX0_forget_15
set_option maxHeartbeats 4000000 in
set_option maxRecDepth 100000 in
theorem k_isRightShare (l : Launch) {D : va_G} {cI cJ cZ cD : ClassId} {ad : Nat → Nat} {w : Nat → va_E} {sz : Nat} (i : Nat) (hi : i < 17) (cp hd ou : Int32) (rt : Nat → Int32) (k x r : Nat) (hk : k < 17) (hx0 : x < 2 ^ 31) (hr0 : r < 2 ^ 31) (hrt : rt k = nI r) (hD : w (2 + 4 * i) = .inr (0, [.ref (ad (3 + 4 * i)), .ref (ad (4 + 4 * i)), .ref (ad (5 + 4 * i)), .int cp, .int hd, .int ou])) (hRt : w (4 + 4 * i) = .inl (cI, 17, .inl rt)) : MW l yX0_isRightShare (.code yX0_isRightShare cX0_isRightShare 3 (some .boolean)) ({ frames := 0, cells := 0, slots := 0, locals := 0 }) [.ref (ad (2 + 4 * i)), .int (nI k), .int (nI x)] D (tyL cI cJ cZ cD) ad 89 w sz (some (.int (if x = r then nI 1 else nI 0))) (fun u => u = w) := by
  refine MW.of (by decide) (Nat.le_of_ble_eq_true rfl) ?_
  intro p e s m below meth c ls hC hr hlocks hl hw
  obtain ⟨hx, hb, hml, hown, hts⟩ := id hC
  have hA : ∀ q, s.heap.size ≤ q → xA ad 89 s.heap.size q := fun q h => Or.inr h
  have hl : lv_has ls 3 [(0, .ref (ad (2 + 4 * i))), (1, .int (nI k)), (2, .int (nI x))] := hl
  refine lv_iload_n hx hb dX0_isRightShare_0 rfl (lv_at hl 2 rfl) ?_
  refine lv_aload_n hx hb dX0_isRightShare_1 rfl (lv_at hl 0 rfl) ?_
  refine gf_X0_15 hx hb hts hown hw (by omega) hD rfl dX0_isRightShare_2 ?_
  refine lv_iload_n hx hb dX0_isRightShare_5 rfl (lv_at hl 1 rfl) ?_
  refine x_iald hx hb hw (by omega) 0 hRt rfl (j := k) (by omega) (by decide) hrt dX0_isRightShare_6 ?_
  refine lv_icmp_ne (tgt := 14) hx hb dX0_isRightShare_7 (by decide) (fun hc => ?_) (fun hc => ?_)
  · rw [nI_eq (by omega) (by omega)] at hc
    rw [if_neg hc]
    refine lv_iconst (v := nI 0) hx hb dX0_isRightShare_14 (by decide) ?_
    exact x_wretZ hx hb hr hlocks (by decide) hw rfl dX0_isRightShare_15
  · rw [nI_eq (by omega) (by omega)] at hc
    rw [if_pos hc]
    refine lv_iconst (v := nI 1) hx hb dX0_isRightShare_10 (by decide) ?_
    refine lv_goto (tgt := 15) hx hb dX0_isRightShare_11 (by decide) ?_
    exact x_wretZ hx hb hr hlocks (by decide) hw rfl dX0_isRightShare_15
set_option maxHeartbeats 4000000 in
set_option maxRecDepth 100000 in
theorem k_hasComplaintOf (l : Launch) {D : va_G} {cI cJ cZ cD : ClassId} {ad : Nat → Nat} {w : Nat → va_E} {sz : Nat} (i : Nat) (hi : i < 17) (cp : Nat) (hcp : cp < 2 ^ 31) (hd ou : Int32) (k : Nat) (hk : k < 32) (hD : w (2 + 4 * i) = .inr (0, [.ref (ad (3 + 4 * i)), .ref (ad (4 + 4 * i)), .ref (ad (5 + 4 * i)), .int (nI cp), .int hd, .int ou])) : MW l yX0_hasComplaintOf (.code yX0_hasComplaintOf cX0_hasComplaintOf 2 (some .boolean)) ({ frames := 1, cells := 0, slots := 0, locals := 29 }) [.ref (ad (2 + 4 * i)), .int (nI k)] D (tyL cI cJ cZ cD) ad 89 w sz (some (.int (nI (tb cp k)))) (fun u => u = w) := by
  refine MW.of (by decide) (Nat.le_of_ble_eq_true rfl) ?_
  intro p e s m below meth c ls hC hr hlocks hl hw
  obtain ⟨hx, hb, hml, hown, hts⟩ := id hC
  have hA : ∀ q, s.heap.size ≤ q → xA ad 89 s.heap.size q := fun q h => Or.inr h
  have hl : lv_has ls 2 [(0, .ref (ad (2 + 4 * i))), (1, .int (nI k))] := hl
  have htb := tb_lt cp k
  refine lv_aload_n hx hb dX0_hasComplaintOf_0 rfl (lv_at hl 0 rfl) ?_
  refine gf_X0_21 hx hb hts hown hw (by omega) hD rfl dX0_hasComplaintOf_1 ?_
  refine lv_iload_n hx hb dX0_hasComplaintOf_4 rfl (lv_at hl 1 rfl) ?_
  refine x_callS (As := [.int (nI cp), .int (nI k)]) (rest := []) hC sf_X0_53 (k_hasBit l cp k hcp hk) ⟨rfl, rfl, Nat.le_of_ble_eq_true rfl, Nat.le_of_ble_eq_true rfl⟩ hl.1 (Nat.le_of_ble_eq_true rfl) dX0_hasComplaintOf_5 ⟨Nat.zero_le _, Nat.zero_le _⟩ rfl ?_
  have hn : narrow .boolean (.int (nI (tb cp k))) = .int (nI (tb cp k)) := by rcases (show tb cp k = 0 ∨ tb cp k = 1 by omega) with q | q <;> rw [q] <;> rfl
  exact x_wretZ hx hb hr hlocks hn hw rfl dX0_hasComplaintOf_8
set_option maxHeartbeats 4000000 in
set_option maxRecDepth 100000 in
theorem k_mayQualify (l : Launch) {D : va_G} {cI cJ cZ cD : ClassId} {ad : Nat → Nat} {w : Nat → va_E} {sz : Nat} (i : Nat) (hi : i < 17) (cp hd ou : Nat) (hcp : cp < 2 ^ 31) (hhd : hd < 2) (hou : ou < 2) (hD : w (2 + 4 * i) = .inr (0, [.ref (ad (3 + 4 * i)), .ref (ad (4 + 4 * i)), .ref (ad (5 + 4 * i)), .int (nI cp), .int (nI hd), .int (nI ou)])) : MW l yX0_mayQualify (.code yX0_mayQualify cX0_mayQualify 1 (some .boolean)) ({ frames := 0, cells := 0, slots := 0, locals := 0 }) [.ref (ad (2 + 4 * i))] D (tyL cI cJ cZ cD) ad 89 w sz (some (.int (if hd = 1 ∧ ou = 0 ∧ cp = 0 then nI 1 else nI 0))) (fun u => u = w) := by
  refine MW.of (by decide) (Nat.le_of_ble_eq_true rfl) ?_
  intro p e s m below meth c ls hC hr hlocks hl hw
  obtain ⟨hx, hb, hml, hown, hts⟩ := id hC
  have hA : ∀ q, s.heap.size ≤ q → xA ad 89 s.heap.size q := fun q h => Or.inr h
  have hl : lv_has ls 1 [(0, .ref (ad (2 + 4 * i)))] := hl
  refine lv_aload_n hx hb dX0_mayQualify_0 rfl (lv_at hl 0 rfl) ?_
  refine gf_X0_25 hx hb hts hown hw (by omega) hD rfl dX0_mayQualify_1 ?_
  refine lv_if_eq (tgt := 25) hx hb dX0_mayQualify_4 (by decide) (fun hc => ?_) (fun hc => ?_)
  · rw [nI_z (by omega)] at hc
    rw [if_neg (by omega)]
    refine lv_iconst (v := nI 0) hx hb dX0_mayQualify_25 (by decide) ?_
    exact x_wretZ hx hb hr hlocks (by decide) hw rfl dX0_mayQualify_26
  · rw [nI_z (by omega)] at hc
    refine lv_aload_n hx hb dX0_mayQualify_7 rfl (lv_at hl 0 rfl) ?_
    refine gf_X0_29 hx hb hts hown hw (by omega) hD rfl dX0_mayQualify_8 ?_
    refine lv_if_ne (tgt := 25) hx hb dX0_mayQualify_11 (by decide) (fun hc2 => ?_) (fun hc2 => ?_)
    · rw [nI_z (by omega)] at hc2
      rw [if_neg (by omega)]
      refine lv_iconst (v := nI 0) hx hb dX0_mayQualify_25 (by decide) ?_
      exact x_wretZ hx hb hr hlocks (by decide) hw rfl dX0_mayQualify_26
    · rw [nI_z (by omega)] at hc2
      refine lv_aload_n hx hb dX0_mayQualify_14 rfl (lv_at hl 0 rfl) ?_
      refine gf_X0_21 hx hb hts hown hw (by omega) hD rfl dX0_mayQualify_15 ?_
      refine lv_if_ne (tgt := 25) hx hb dX0_mayQualify_18 (by decide) (fun hc3 => ?_) (fun hc3 => ?_)
      · rw [nI_z (by omega)] at hc3
        rw [if_neg (by omega)]
        refine lv_iconst (v := nI 0) hx hb dX0_mayQualify_25 (by decide) ?_
        exact x_wretZ hx hb hr hlocks (by decide) hw rfl dX0_mayQualify_26
      · rw [nI_z (by omega)] at hc3
        rw [if_pos (by omega)]
        refine lv_iconst (v := nI 1) hx hb dX0_mayQualify_21 (by decide) ?_
        refine lv_goto (tgt := 26) hx hb dX0_mayQualify_22 (by decide) ?_
        exact x_wretZ hx hb hr hlocks (by decide) hw rfl dX0_mayQualify_26
set_option maxHeartbeats 4000000 in
set_option maxRecDepth 100000 in
theorem k_addToGiven (l : Launch) {D : va_G} {cI cJ cZ cD : ClassId} {ad : Nat → Nat} {w : Nat → va_E} {sz : Nat} (i : Nat) (hi : i < 17) (cp hd ou : Int32) (gv : Nat → Int32) (k x g : Nat) (hk : k < 17) (hx0 : x < 1073741789) (hg : g < 1073741789) (hgv : gv k = nI g) (hD : w (2 + 4 * i) = .inr (0, [.ref (ad (3 + 4 * i)), .ref (ad (4 + 4 * i)), .ref (ad (5 + 4 * i)), .int cp, .int hd, .int ou])) (hGv : w (5 + 4 * i) = .inl (cI, 17, .inl gv)) : MW l yX0_addToGiven (.code yX0_addToGiven cX0_addToGiven 4 (some .int)) ({ frames := 2, cells := 0, slots := 0, locals := 62 }) [.ref (ad (2 + 4 * i)), .int (nI k), .int (nI x)] D (tyL cI cJ cZ cD) ad 89 w sz (some (.int (nI g))) (fun u => u = va_up w (5 + 4 * i) (.inl (cI, 17, .inl (upd gv k (nI ((g + x) % 1073741789)))))) := by
  refine MW.of (by decide) (Nat.le_of_ble_eq_true rfl) ?_
  intro p e s m below meth c ls hC hr hlocks hl hw
  obtain ⟨hx, hb, hml, hown, hts⟩ := id hC
  have hA : ∀ q, s.heap.size ≤ q → xA ad 89 s.heap.size q := fun q h => Or.inr h
  have hl : lv_has ls 4 [(0, .ref (ad (2 + 4 * i))), (1, .int (nI k)), (2, .int (nI x))] := hl
  refine lv_aload_n hx hb dX0_addToGiven_0 rfl (lv_at hl 0 rfl) ?_
  refine gf_X0_18 hx hb hts hown hw (by omega) hD rfl dX0_addToGiven_1 ?_
  refine lv_iload_n hx hb dX0_addToGiven_4 rfl (lv_at hl 1 rfl) ?_
  refine x_iald hx hb hw (by omega) 0 hGv rfl (j := k) (by omega) (by decide) hgv dX0_addToGiven_5 ?_
  refine lv_istore_n (lv' := [(3, .int (nI g)), (0, .ref (ad (2 + 4 * i))), (1, .int (nI k)), (2, .int (nI x))]) hx hb dX0_addToGiven_6 rfl hl (by decide) rfl (fun ls hl => ?_)
  refine lv_aload_n hx hb dX0_addToGiven_7 rfl (lv_at hl 1 rfl) ?_
  refine gf_X0_18 hx hb hts hown hw (by omega) hD rfl dX0_addToGiven_8 ?_
  refine lv_iload_n hx hb dX0_addToGiven_11 rfl (lv_at hl 2 rfl) ?_
  refine lv_iload_n hx hb dX0_addToGiven_12 rfl (lv_at hl 0 rfl) ?_
  refine lv_i2l hx hb dX0_addToGiven_13 (nI_l (by omega)) ?_
  refine lv_iload_n hx hb dX0_addToGiven_14 rfl (lv_at hl 3 rfl) ?_
  refine lv_i2l hx hb dX0_addToGiven_15 (nI_l (by omega)) ?_
  refine t_ladd hx hb dX0_addToGiven_16 (v := lN (g + x)) (lN_add _ _) ?_
  refine x_callS (As := [.long (lN (g + x))]) (rest := [.int (nI k), .ref (ad (5 + 4 * i))]) hC sf_X0_41 (k_toExponent l (lN (g + x))) ⟨rfl, rfl, Nat.le_of_ble_eq_true rfl, Nat.le_of_ble_eq_true rfl⟩ hl.1 (Nat.le_of_ble_eq_true rfl) dX0_addToGiven_17 ⟨Nat.zero_le _, Nat.zero_le _⟩ rfl ?_
  rw [md_nat (by omega)]
  refine x_iast hx hb hw (by omega) 0 hGv rfl (j := k) (by omega) (by decide) dX0_addToGiven_20 (fun w_1 H locs ew_2 hw => ?_)
  have hc_3 : w_1 (2 + 4 * i) = .inr (0, [.ref (ad (3 + 4 * i)), .ref (ad (4 + 4 * i)), .ref (ad (5 + 4 * i)), .int cp, .int hd, .int ou]) := by rw [ew_2]; exact (va_up_ne _ _ (by omega)).trans hD
  have hc_4 : w_1 (5 + 4 * i) = .inl (cI, 17, .inl (upd gv k (nI ((g + x) % 1073741789)))) := by rw [ew_2]; exact va_up_self _ _ _
  refine lv_iload_n hx hb dX0_addToGiven_21 rfl (lv_at hl 0 rfl) ?_
  exact x_wretI hx hb hr hlocks hw (by rw [ew_2] <;> rfl) dX0_addToGiven_22
theorem and_bit {a k : Nat} (ha : a < 2 ^ 31) (hk : k < 31) : nI a &&& ((nI 1 <<< (nI k &&& 31)) ^^^ (-1)) = nI (a &&& (2 ^ 32 - 1 - 2 ^ k)) := by
  have hp := Nat.pow_lt_pow_right (a := 2) (by decide) hk
  rw [pk_shlN _ k (sh_k k (by omega)) (by omega), Nat.one_mul]
  apply Int32.toBitVec_inj.mp
  rw [Int32.toBitVec_and, Int32.toBitVec_xor]
  show BitVec.ofNat 32 a &&& (BitVec.ofNat 32 (2 ^ k) ^^^ BitVec.allOnes 32) = BitVec.ofNat 32 (a &&& (2 ^ 32 - 1 - 2 ^ k))
  rw [BitVec.ofNat_and, BitVec.xor_allOnes]
  congr 1
  apply BitVec.eq_of_toNat_eq
  rw [BitVec.toNat_not, BitVec.toNat_ofNat, BitVec.toNat_ofNat]
  generalize 2 ^ k = t at hp
  rw [Nat.mod_eq_of_lt (a := t) (by omega), Nat.mod_eq_of_lt (by omega)]
def clr (a k : Nat) : Nat := a &&& (2 ^ 32 - 1 - 2 ^ k)

set_option maxHeartbeats 4000000 in
set_option maxRecDepth 100000 in
theorem k_answer_no (l : Launch) {D : va_G} {cI cJ cZ cD : ClassId} {ad : Nat → Nat} {w : Nat → va_E} {sz : Nat} (i : Nat) (hi : i < 17) (cp : Nat) (hcp : cp < 2 ^ 17) (hd ou : Int32) (rt gv : Nat → Int32) (k r x : Nat) (hk : k < 17) (hr0 : r < 1073741789) (hx0 : x < 1073741789) (hrt : rt k = nI r) (hxp : 0 < x) (hD : w (2 + 4 * i) = .inr (0, [.ref (ad (3 + 4 * i)), .ref (ad (4 + 4 * i)), .ref (ad (5 + 4 * i)), .int (nI cp), .int hd, .int ou])) (hRt : w (4 + 4 * i) = .inl (cI, 17, .inl rt)) (hGv : w (5 + 4 * i) = .inl (cI, 17, .inl gv)) : MW l yX0_answerComplaint (.code yX0_answerComplaint cX0_answerComplaint 4 (some .boolean)) ({ frames := 2, cells := 0, slots := 0, locals := 62 }) [.ref (ad (2 + 4 * i)), .int (nI k), .int (nI x)] D (tyL cI cJ cZ cD) ad 89 w sz (some (.int (nI 0))) (fun u => u = va_up w (2 + 4 * i) (.inr (0, [.ref (ad (3 + 4 * i)), .ref (ad (4 + 4 * i)), .ref (ad (5 + 4 * i)), .int (nI cp), .int hd, .int (nI 1)]))) := by
  refine MW.of (by decide) (Nat.le_of_ble_eq_true rfl) ?_
  intro p e s m below meth c ls hC hr hlocks hl hw
  obtain ⟨hx, hb, hml, hown, hts⟩ := id hC
  have hA : ∀ q, s.heap.size ≤ q → xA ad 89 s.heap.size q := fun q h => Or.inr h
  have hl : lv_has ls 4 [(0, .ref (ad (2 + 4 * i))), (1, .int (nI k)), (2, .int (nI x))] := hl
  refine lv_aload_n hx hb dX0_answerComplaint_0 rfl (lv_at hl 0 rfl) ?_
  refine gf_X0_15 hx hb hts hown hw (by omega) hD rfl dX0_answerComplaint_1 ?_
  refine lv_iload_n hx hb dX0_answerComplaint_4 rfl (lv_at hl 1 rfl) ?_
  refine x_iald hx hb hw (by omega) 0 hRt rfl (j := k) (by omega) (by decide) hrt dX0_answerComplaint_5 ?_
  refine lv_i2l hx hb dX0_answerComplaint_6 (nI_l (by omega)) ?_
  refine lv_iload_n hx hb dX0_answerComplaint_7 rfl (lv_at hl 2 rfl) ?_
  refine lv_i2l hx hb dX0_answerComplaint_8 (nI_l (by omega)) ?_
  refine t_ladd hx hb dX0_answerComplaint_9 (v := lN (r + x)) (lN_add _ _) ?_
  refine x_callS (As := [.long (lN (r + x))]) (rest := []) hC sf_X0_41 (k_toExponent l (lN (r + x))) ⟨rfl, rfl, Nat.le_of_ble_eq_true rfl, Nat.le_of_ble_eq_true rfl⟩ hl.1 (Nat.le_of_ble_eq_true rfl) dX0_answerComplaint_10 ⟨Nat.zero_le _, Nat.zero_le _⟩ rfl ?_
  rw [md_nat (by omega)]
  have hlt : (r + x) % 1073741789 < 1073741789 := Nat.mod_lt _ (by decide)
  have hne : ¬ (r + x) % 1073741789 = r := by omega
  refine lv_istore_n (lv' := [(3, .int (nI ((r + x) % 1073741789))), (0, .ref (ad (2 + 4 * i))), (1, .int (nI k)), (2, .int (nI x))]) hx hb dX0_answerComplaint_13 rfl hl (by decide) rfl (fun ls hl => ?_)
  refine lv_aload_n hx hb dX0_answerComplaint_14 rfl (lv_at hl 1 rfl) ?_
  refine lv_iload_n hx hb dX0_answerComplaint_15 rfl (lv_at hl 2 rfl) ?_
  refine lv_iload_n hx hb dX0_answerComplaint_16 rfl (lv_at hl 0 rfl) ?_
  refine x_callW1 (As := [.int (nI k), .int (nI ((r + x) % 1073741789))]) (rest := []) hC vf_X0_49 hw hA (by omega) hD rfl rfl (k_isRightShare l i hi _ _ _ rt k ((r + x) % 1073741789) r hk (by omega) (by omega) hrt hD hRt) ⟨rfl, rfl, Nat.le_of_ble_eq_true rfl, Nat.le_of_ble_eq_true rfl⟩ hl.1 (Nat.le_of_ble_eq_true rfl) dX0_answerComplaint_17 ⟨Nat.zero_le _, Nat.zero_le _⟩ rfl (fun w_1 H locs hu hw => ?_)
  rw [hu] at hw
  rw [if_neg hne]
  refine lv_if_ne (tgt := 30) hx hb dX0_answerComplaint_20 (by decide) (fun hcq => absurd (by decide) hcq) (fun hcq => ?_)
  refine lv_aload_n hx hb dX0_answerComplaint_23 rfl (lv_at hl 1 rfl) ?_
  refine lv_iconst (v := nI 1) hx hb dX0_answerComplaint_24 (by decide) ?_
  refine pf_X0_29 (v := .int (nI 1)) hx hb hts hown hw (by omega) hD rfl (by decide) (Nat.le_of_ble_eq_true rfl) dX0_answerComplaint_25 (fun w_2 H locs ew_3 hw => ?_)
  have hc_4 : w_2 (2 + 4 * i) = .inr (0, [.ref (ad (3 + 4 * i)), .ref (ad (4 + 4 * i)), .ref (ad (5 + 4 * i)), .int (nI cp), .int hd, .int (nI 1)]) := by rw [ew_3]; exact va_up_self _ _ _
  have hc_5 : w_2 (4 + 4 * i) = .inl (cI, 17, .inl rt) := by rw [ew_3]; exact (va_up_ne _ _ (by omega)).trans hRt
  have hc_6 : w_2 (5 + 4 * i) = .inl (cI, 17, .inl gv) := by rw [ew_3]; exact (va_up_ne _ _ (by omega)).trans hGv
  refine lv_iconst (v := nI 0) hx hb dX0_answerComplaint_28 (by decide) ?_
  exact x_wretZ hx hb hr hlocks (by decide) hw (by rw [ew_3] <;> rfl) dX0_answerComplaint_29
set_option maxHeartbeats 4000000 in
set_option maxRecDepth 100000 in
theorem k_answer_yes (l : Launch) {D : va_G} {cI cJ cZ cD : ClassId} {ad : Nat → Nat} {w : Nat → va_E} {sz : Nat} (i : Nat) (hi : i < 17) (cp : Nat) (hcp : cp < 2 ^ 17) (hd ou : Int32) (rt gv : Nat → Int32) (k r x : Nat) (hk : k < 17) (hr0 : r < 1073741789) (hx0 : x < 1073741789) (hrt : rt k = nI r) (hxp : x = 0) (hD : w (2 + 4 * i) = .inr (0, [.ref (ad (3 + 4 * i)), .ref (ad (4 + 4 * i)), .ref (ad (5 + 4 * i)), .int (nI cp), .int hd, .int ou])) (hRt : w (4 + 4 * i) = .inl (cI, 17, .inl rt)) (hGv : w (5 + 4 * i) = .inl (cI, 17, .inl gv)) : MW l yX0_answerComplaint (.code yX0_answerComplaint cX0_answerComplaint 4 (some .boolean)) ({ frames := 2, cells := 0, slots := 0, locals := 62 }) [.ref (ad (2 + 4 * i)), .int (nI k), .int (nI x)] D (tyL cI cJ cZ cD) ad 89 w sz (some (.int (nI 1))) (fun u => u = va_up (va_up w (5 + 4 * i) (.inl (cI, 17, .inl (upd gv k (nI r))))) (2 + 4 * i) (.inr (0, [.ref (ad (3 + 4 * i)), .ref (ad (4 + 4 * i)), .ref (ad (5 + 4 * i)), .int (nI (clr cp k)), .int hd, .int ou]))) := by
  refine MW.of (by decide) (Nat.le_of_ble_eq_true rfl) ?_
  intro p e s m below meth c ls hC hr hlocks hl hw
  obtain ⟨hx, hb, hml, hown, hts⟩ := id hC
  have hA : ∀ q, s.heap.size ≤ q → xA ad 89 s.heap.size q := fun q h => Or.inr h
  have hl : lv_has ls 4 [(0, .ref (ad (2 + 4 * i))), (1, .int (nI k)), (2, .int (nI x))] := hl
  refine lv_aload_n hx hb dX0_answerComplaint_0 rfl (lv_at hl 0 rfl) ?_
  refine gf_X0_15 hx hb hts hown hw (by omega) hD rfl dX0_answerComplaint_1 ?_
  refine lv_iload_n hx hb dX0_answerComplaint_4 rfl (lv_at hl 1 rfl) ?_
  refine x_iald hx hb hw (by omega) 0 hRt rfl (j := k) (by omega) (by decide) hrt dX0_answerComplaint_5 ?_
  refine lv_i2l hx hb dX0_answerComplaint_6 (nI_l (by omega)) ?_
  refine lv_iload_n hx hb dX0_answerComplaint_7 rfl (lv_at hl 2 rfl) ?_
  refine lv_i2l hx hb dX0_answerComplaint_8 (nI_l (by omega)) ?_
  refine t_ladd hx hb dX0_answerComplaint_9 (v := lN (r + x)) (lN_add _ _) ?_
  refine x_callS (As := [.long (lN (r + x))]) (rest := []) hC sf_X0_41 (k_toExponent l (lN (r + x))) ⟨rfl, rfl, Nat.le_of_ble_eq_true rfl, Nat.le_of_ble_eq_true rfl⟩ hl.1 (Nat.le_of_ble_eq_true rfl) dX0_answerComplaint_10 ⟨Nat.zero_le _, Nat.zero_le _⟩ rfl ?_
  rw [md_nat (by omega)]
  have hlt : (r + x) % 1073741789 < 1073741789 := Nat.mod_lt _ (by decide)
  have hne : (r + x) % 1073741789 = r := by omega
  refine lv_istore_n (lv' := [(3, .int (nI ((r + x) % 1073741789))), (0, .ref (ad (2 + 4 * i))), (1, .int (nI k)), (2, .int (nI x))]) hx hb dX0_answerComplaint_13 rfl hl (by decide) rfl (fun ls hl => ?_)
  refine lv_aload_n hx hb dX0_answerComplaint_14 rfl (lv_at hl 1 rfl) ?_
  refine lv_iload_n hx hb dX0_answerComplaint_15 rfl (lv_at hl 2 rfl) ?_
  refine lv_iload_n hx hb dX0_answerComplaint_16 rfl (lv_at hl 0 rfl) ?_
  refine x_callW1 (As := [.int (nI k), .int (nI ((r + x) % 1073741789))]) (rest := []) hC vf_X0_49 hw hA (by omega) hD rfl rfl (k_isRightShare l i hi _ _ _ rt k ((r + x) % 1073741789) r hk (by omega) (by omega) hrt hD hRt) ⟨rfl, rfl, Nat.le_of_ble_eq_true rfl, Nat.le_of_ble_eq_true rfl⟩ hl.1 (Nat.le_of_ble_eq_true rfl) dX0_answerComplaint_17 ⟨Nat.zero_le _, Nat.zero_le _⟩ rfl (fun w_1 H locs hu hw => ?_)
  rw [hu] at hw
  rw [if_pos hne]
  refine lv_if_ne (tgt := 30) hx hb dX0_answerComplaint_20 (by decide) (fun hcq => ?_) (fun hcq => absurd hcq (by decide))
  refine lv_aload_n hx hb dX0_answerComplaint_30 rfl (lv_at hl 1 rfl) ?_
  refine gf_X0_18 hx hb hts hown hw (by omega) hD rfl dX0_answerComplaint_31 ?_
  refine lv_iload_n hx hb dX0_answerComplaint_34 rfl (lv_at hl 2 rfl) ?_
  refine lv_iload_n hx hb dX0_answerComplaint_35 rfl (lv_at hl 0 rfl) ?_
  rw [hne]
  refine x_iast hx hb hw (by omega) 0 hGv rfl (j := k) (by omega) (by decide) dX0_answerComplaint_36 (fun w_2 H locs ew_3 hw => ?_)
  have hc_4 : w_2 (2 + 4 * i) = .inr (0, [.ref (ad (3 + 4 * i)), .ref (ad (4 + 4 * i)), .ref (ad (5 + 4 * i)), .int (nI cp), .int hd, .int ou]) := by rw [ew_3]; exact (va_up_ne _ _ (by omega)).trans hD
  have hc_5 : w_2 (4 + 4 * i) = .inl (cI, 17, .inl rt) := by rw [ew_3]; exact (va_up_ne _ _ (by omega)).trans hRt
  have hc_6 : w_2 (5 + 4 * i) = .inl (cI, 17, .inl (upd gv k (nI r))) := by rw [ew_3]; exact va_up_self _ _ _
  refine lv_aload_n hx hb dX0_answerComplaint_37 rfl (lv_at hl 1 rfl) ?_
  refine lv_dup hx hb dX0_answerComplaint_38 rfl ?_
  refine gf_X0_21 hx hb hts hown hw (by omega) hc_4 rfl dX0_answerComplaint_39 ?_
  refine lv_iconst (v := nI 1) hx hb dX0_answerComplaint_42 (by decide) ?_
  refine lv_iload_n hx hb dX0_answerComplaint_43 rfl (lv_at hl 2 rfl) ?_
  refine lv_ishl hx hb dX0_answerComplaint_44 ?_
  refine lv_iconst (v := (-1)) hx hb dX0_answerComplaint_45 (by decide) ?_
  refine lv_ixor hx hb dX0_answerComplaint_46 ?_
  refine lv_iand hx hb dX0_answerComplaint_47 ?_
  rw [(show _ = nI (clr cp k) from and_bit (by omega) (by omega))]
  refine pf_X0_21 (v := .int (nI (clr cp k))) hx hb hts hown hw (by omega) hc_4 rfl rfl (Nat.le_of_ble_eq_true rfl) dX0_answerComplaint_48 (fun w_7 H locs ew_8 hw => ?_)
  have hc_9 : w_7 (2 + 4 * i) = .inr (0, [.ref (ad (3 + 4 * i)), .ref (ad (4 + 4 * i)), .ref (ad (5 + 4 * i)), .int (nI (clr cp k)), .int hd, .int ou]) := by rw [ew_8]; exact va_up_self _ _ _
  have hc_10 : w_7 (4 + 4 * i) = .inl (cI, 17, .inl rt) := by rw [ew_8]; exact (va_up_ne _ _ (by omega)).trans hc_5
  have hc_11 : w_7 (5 + 4 * i) = .inl (cI, 17, .inl (upd gv k (nI r))) := by rw [ew_8]; exact (va_up_ne _ _ (by omega)).trans hc_6
  refine lv_iconst (v := nI 1) hx hb dX0_answerComplaint_51 (by decide) ?_
  exact x_wretZ hx hb hr hlocks (by decide) hw (by rw [ew_8, ew_3] <;> rfl) dX0_answerComplaint_52
def gath (cp : Nat) (sh rg : Nat → Nat) : Nat → Nat
  | 0 => cp
  | q + 1 => if sh (q + 1) = rg (q + 1) then gath cp sh rg q else gath cp sh rg q ||| 2 ^ (q + 1)
theorem gath_lt {cp : Nat} {sh rg : Nat → Nat} (h : cp < 2 ^ 17) : ∀ q, q ≤ 16 → gath cp sh rg q < 2 ^ 17 := by
  intro q
  induction q with
  | zero => intro _; exact h
  | succ q ih =>
    intro hq
    show (if _ then _ else _) < _
    by_cases hc : sh (q + 1) = rg (q + 1)
    · rw [if_pos hc]; exact ih (by omega)
    · rw [if_neg hc]; exact or_lt (ih (by omega)) (by omega)

set_option maxHeartbeats 4000000 in
set_option maxRecDepth 100000 in
theorem k_gather_loop {l : Launch} {p : Program} {e : Env} {s : State} {m : MethodId} {args : Array Value} {below : List Frame} {meth : Method} {c : Code} {Q : State → Prop} {D : va_G} {cI cJ cZ cD : ClassId} {ad : Nat → Nat} {A : Nat → Prop} {H0 : Heap} {w0 : Nat → va_E} (hC : CallFix p m c cX0_gatherComplaints 3 s args wsL_law RX0) (hA : ∀ q, H0.size ≤ q → A q) (i : Nat) (hi : i < 17) (cp n : Nat) (hcp : cp < 2 ^ 17) (hn : n ≤ 16) (ou : Int32) (rt gv : Nat → Int32) (sh rg : Nat → Nat) (hrt : ∀ k, 1 ≤ k → k ≤ n → rt k = nI (rg k) ∧ rg k < 1073741789) (hgv : ∀ k, 1 ≤ k → k ≤ n → gv k = nI (sh k) ∧ sh k < 1073741789) (hRt : w0 (4 + 4 * i) = .inl (cI, 17, .inl rt)) (hGv : w0 (5 + 4 * i) = .inl (cI, 17, .inl gv))
    (kx : ∀ (w : Nat → va_E) (ls : Array Slot) (H : Heap) (locs : List Loc), w = va_up w0 (2 + 4 * i) (.inr (0, [.ref (ad (3 + 4 * i)), .ref (ad (4 + 4 * i)), .ref (ad (5 + 4 * i)), .int (nI (gath cp sh rg n)), .int (nI 1), .int ou])) → WW D vwCl (tyL cI cJ cZ cD) A H0 ad 89 w s H locs → W p l e ({ frames := 1, cells := 0, slots := 0, locals := 30 }) s m args below meth c H locs 0 0 Q (F0 m 47 ls [])) :
    ∀ (j q : Nat) (w : Nat → va_E) (ls : Array Slot) (H : Heap) (locs : List Loc), q + j = n → w = va_up w0 (2 + 4 * i) (.inr (0, [.ref (ad (3 + 4 * i)), .ref (ad (4 + 4 * i)), .ref (ad (5 + 4 * i)), .int (nI (gath cp sh rg q)), .int (nI 1), .int ou])) → WW D vwCl (tyL cI cJ cZ cD) A H0 ad 89 w s H locs → lv_has ls 3 [(0, .ref (ad (2 + 4 * i))), (1, .int (nI n)), (2, .int (nI (q + 1)))] → W p l e ({ frames := 1, cells := 0, slots := 0, locals := 30 }) s m args below meth c H locs 0 0 Q (F0 m 10 ls []) := by
  obtain ⟨hx, hb, hml, hown, hts⟩ := id hC
  intro j
  induction j with
  | zero =>
    intro q w ls H locs hq ew hw hl
    obtain rfl : q = n := by omega
    refine lv_iload_n hx hb dX0_gatherComplaints_10 rfl (lv_at hl 2 rfl) ?_
    refine lv_iload_n hx hb dX0_gatherComplaints_11 rfl (lv_at hl 1 rfl) ?_
    refine lv_icmp_gt (tgt := 47) hx hb dX0_gatherComplaints_12 (by decide) (fun hc => ?_) (fun hc => absurd (nI_lt (by omega) (by omega)) hc)
    exact kx w ls H locs ew hw
  | succ j ih =>
    intro q w ls H locs hq ew hw hl
    have hg := gath_lt (sh := sh) (rg := rg) hcp q (by omega)
    have hD : w (2 + 4 * i) = .inr (0, [.ref (ad (3 + 4 * i)), .ref (ad (4 + 4 * i)), .ref (ad (5 + 4 * i)), .int (nI (gath cp sh rg q)), .int (nI 1), .int ou]) := by rw [ew]; exact va_up_self _ _ _
    have hRt : w (4 + 4 * i) = .inl (cI, 17, .inl rt) := by rw [ew]; exact (va_up_ne _ _ (by omega)).trans hRt
    have hGv : w (5 + 4 * i) = .inl (cI, 17, .inl gv) := by rw [ew]; exact (va_up_ne _ _ (by omega)).trans hGv
    obtain ⟨hrt1, hrt2⟩ := hrt (q + 1) (by omega) (by omega)
    obtain ⟨hgv1, hgv2⟩ := hgv (q + 1) (by omega) (by omega)
    refine lv_iload_n hx hb dX0_gatherComplaints_10 rfl (lv_at hl 2 rfl) ?_
    refine lv_iload_n hx hb dX0_gatherComplaints_11 rfl (lv_at hl 1 rfl) ?_
    refine lv_icmp_gt (tgt := 47) hx hb dX0_gatherComplaints_12 (by decide) (fun hc => absurd hc (nI_nlt (by omega) (by omega))) (fun hc => ?_)
    refine lv_aload_n hx hb dX0_gatherComplaints_15 rfl (lv_at hl 0 rfl) ?_
    refine lv_iload_n hx hb dX0_gatherComplaints_16 rfl (lv_at hl 2 rfl) ?_
    refine lv_aload_n hx hb dX0_gatherComplaints_17 rfl (lv_at hl 0 rfl) ?_
    refine gf_X0_18 hx hb hts hown hw (by omega) hD rfl dX0_gatherComplaints_18 ?_
    refine lv_iload_n hx hb dX0_gatherComplaints_21 rfl (lv_at hl 2 rfl) ?_
    refine x_iald hx hb hw (by omega) 0 hGv rfl (j := q + 1) (by omega) (by decide) hgv1 dX0_gatherComplaints_22 ?_
    refine x_callW1 (As := [.int (nI (q + 1)), .int (nI (sh (q + 1)))]) (rest := []) hC vf_X0_49 hw hA (by omega) hD rfl rfl (k_isRightShare l i hi _ _ _ rt (q + 1) (sh (q + 1)) (rg (q + 1)) (by omega) (by omega) (by omega) hrt1 hD hRt) ⟨rfl, rfl, Nat.le_of_ble_eq_true rfl, Nat.le_of_ble_eq_true rfl⟩ hl.1 (Nat.le_of_ble_eq_true rfl) dX0_gatherComplaints_23 ⟨Nat.zero_le _, Nat.zero_le _⟩ rfl (fun w_1 H locs hu hw => ?_)
    rw [hu] at hw
    by_cases hs : sh (q + 1) = rg (q + 1)
    · skip
      rw [if_pos hs]
      refine lv_if_ne (tgt := 41) hx hb dX0_gatherComplaints_26 (by decide) (fun hc2 => ?_) (fun hc2 => absurd hc2 (by decide))
      refine lv_iinc (v := nI (q + 1 + 1)) (lv' := [(2, .int (nI (q + 1 + 1))), (0, .ref (ad (2 + 4 * i))), (1, .int (nI n))]) hx hb dX0_gatherComplaints_41 hl (k := 2) rfl (nI_1 (q + 1)) (by decide) rfl (fun ls hl => ?_)
      refine lv_goto (tgt := 10) hx hb dX0_gatherComplaints_44 (by decide) ?_
      exact ih (q + 1) _ ls H locs (by omega) (by rw [ew, show gath cp sh rg (q + 1) = gath cp sh rg q from if_pos hs]) hw (lv_sub hl [1, 2, 0] rfl)
    · skip
      rw [if_neg hs]
      refine lv_if_ne (tgt := 41) hx hb dX0_gatherComplaints_26 (by decide) (fun hc2 => absurd (by decide) hc2) (fun hc2 => ?_)
      refine lv_aload_n hx hb dX0_gatherComplaints_29 rfl (lv_at hl 0 rfl) ?_
      refine lv_dup hx hb dX0_gatherComplaints_30 rfl ?_
      refine gf_X0_21 hx hb hts hown hw (by omega) hD rfl dX0_gatherComplaints_31 ?_
      refine lv_iconst (v := nI 1) hx hb dX0_gatherComplaints_34 (by decide) ?_
      refine lv_iload_n hx hb dX0_gatherComplaints_35 rfl (lv_at hl 2 rfl) ?_
      refine lv_ishl hx hb dX0_gatherComplaints_36 ?_
      refine lv_ior hx hb dX0_gatherComplaints_37 ?_
      rw [or_bit (by omega)]
      refine pf_X0_21 (v := .int (nI (gath cp sh rg q ||| 2 ^ (q + 1)))) hx hb hts hown hw (by omega) hD rfl rfl (Nat.le_of_ble_eq_true rfl) dX0_gatherComplaints_38 (fun w_2 H locs ew_3 hw => ?_)
      have hc_4 : w_2 (2 + 4 * i) = .inr (0, [.ref (ad (3 + 4 * i)), .ref (ad (4 + 4 * i)), .ref (ad (5 + 4 * i)), .int (nI (gath cp sh rg q ||| 2 ^ (q + 1))), .int (nI 1), .int ou]) := by rw [ew_3]; exact va_up_self _ _ _
      have hc_5 : w_2 (4 + 4 * i) = .inl (cI, 17, .inl rt) := by rw [ew_3]; exact (va_up_ne _ _ (by omega)).trans hRt
      have hc_6 : w_2 (5 + 4 * i) = .inl (cI, 17, .inl gv) := by rw [ew_3]; exact (va_up_ne _ _ (by omega)).trans hGv
      refine lv_iinc (v := nI (q + 1 + 1)) (lv' := [(2, .int (nI (q + 1 + 1))), (0, .ref (ad (2 + 4 * i))), (1, .int (nI n))]) hx hb dX0_gatherComplaints_41 hl (k := 2) rfl (nI_1 (q + 1)) (by decide) rfl (fun ls hl => ?_)
      refine lv_goto (tgt := 10) hx hb dX0_gatherComplaints_44 (by decide) ?_
      exact ih (q + 1) _ ls H locs (by omega) (by rw [ew_3, ew, bx_uu, show gath cp sh rg (q + 1) = _ from if_neg hs] <;> rfl) hw (lv_sub hl [1, 2, 0] rfl)
set_option maxHeartbeats 4000000 in
set_option maxRecDepth 100000 in
theorem k_gather (l : Launch) {D : va_G} {cI cJ cZ cD : ClassId} {ad : Nat → Nat} {w : Nat → va_E} {sz : Nat} (i : Nat) (hi : i < 17) (cp n : Nat) (hcp : cp < 2 ^ 17) (hn : n ≤ 16) (ou : Int32) (rt gv : Nat → Int32) (sh rg : Nat → Nat) (hrt : ∀ k, 1 ≤ k → k ≤ n → rt k = nI (rg k) ∧ rg k < 1073741789) (hgv : ∀ k, 1 ≤ k → k ≤ n → gv k = nI (sh k) ∧ sh k < 1073741789) (hD : w (2 + 4 * i) = .inr (0, [.ref (ad (3 + 4 * i)), .ref (ad (4 + 4 * i)), .ref (ad (5 + 4 * i)), .int (nI cp), .int (nI 1), .int ou])) (hRt : w (4 + 4 * i) = .inl (cI, 17, .inl rt)) (hGv : w (5 + 4 * i) = .inl (cI, 17, .inl gv)) : MW l yX0_gatherComplaints (.code yX0_gatherComplaints cX0_gatherComplaints 3 none) ({ frames := 1, cells := 0, slots := 0, locals := 30 }) [.ref (ad (2 + 4 * i)), .int (nI n)] D (tyL cI cJ cZ cD) ad 89 w sz none (fun u => u = va_up w (2 + 4 * i) (.inr (0, [.ref (ad (3 + 4 * i)), .ref (ad (4 + 4 * i)), .ref (ad (5 + 4 * i)), .int (nI (gath cp sh rg n)), .int (nI 1), .int ou]))) := by
  refine MW.of (by decide) (Nat.le_of_ble_eq_true rfl) ?_
  intro p e s m below meth c ls hC hr hlocks hl hw
  obtain ⟨hx, hb, hml, hown, hts⟩ := id hC
  have hA : ∀ q, s.heap.size ≤ q → xA ad 89 s.heap.size q := fun q h => Or.inr h
  have hl : lv_has ls 3 [(0, .ref (ad (2 + 4 * i))), (1, .int (nI n))] := hl
  refine lv_aload_n hx hb dX0_gatherComplaints_0 rfl (lv_at hl 0 rfl) ?_
  refine gf_X0_25 hx hb hts hown hw (by omega) hD rfl dX0_gatherComplaints_1 ?_
  refine lv_if_ne (tgt := 8) hx hb dX0_gatherComplaints_4 (by decide) (fun hc => ?_) (fun hc => absurd hc (by decide))
  refine lv_iconst (v := nI 1) hx hb dX0_gatherComplaints_8 (by decide) ?_
  refine lv_istore_n (lv' := [(2, .int (nI 1)), (0, .ref (ad (2 + 4 * i))), (1, .int (nI n))]) hx hb dX0_gatherComplaints_9 rfl hl (by decide) rfl (fun ls hl => ?_)
  refine k_gather_loop (w0 := w) hC hA i hi cp n hcp hn ou rt gv sh rg hrt hgv hRt hGv (fun w1 ls H locs ew hw => ?_) n 0 w ls s.heap [] (by omega) ?_ hw (lv_sub hl [1, 2, 0] rfl)
  · skip
    exact x_wretV hx hb hr hlocks hw ew dX0_gatherComplaints_47
  · funext z
    by_cases hz : z = 2 + 4 * i
    · subst hz; rw [va_up_self]; exact hD
    · rw [va_up_ne _ _ hz]
set_option maxHeartbeats 4000000 in
set_option maxRecDepth 100000 in
theorem k_gather_not (l : Launch) {D : va_G} {cI cJ cZ cD : ClassId} {ad : Nat → Nat} {w : Nat → va_E} {sz : Nat} (i : Nat) (hi : i < 17) (cp ou : Int32) (n : Nat) (hD : w (2 + 4 * i) = .inr (0, [.ref (ad (3 + 4 * i)), .ref (ad (4 + 4 * i)), .ref (ad (5 + 4 * i)), .int cp, .int (nI 0), .int ou])) : MW l yX0_gatherComplaints (.code yX0_gatherComplaints cX0_gatherComplaints 3 none) ({ frames := 0, cells := 0, slots := 0, locals := 0 }) [.ref (ad (2 + 4 * i)), .int (nI n)] D (tyL cI cJ cZ cD) ad 89 w sz none (fun u => u = w) := by
  refine MW.of (by decide) (Nat.le_of_ble_eq_true rfl) ?_
  intro p e s m below meth c ls hC hr hlocks hl hw
  obtain ⟨hx, hb, hml, hown, hts⟩ := id hC
  have hA : ∀ q, s.heap.size ≤ q → xA ad 89 s.heap.size q := fun q h => Or.inr h
  have hl : lv_has ls 3 [(0, .ref (ad (2 + 4 * i))), (1, .int (nI n))] := hl
  refine lv_aload_n hx hb dX0_gatherComplaints_0 rfl (lv_at hl 0 rfl) ?_
  refine gf_X0_25 hx hb hts hown hw (by omega) hD rfl dX0_gatherComplaints_1 ?_
  refine lv_if_ne (tgt := 8) hx hb dX0_gatherComplaints_4 (by decide) (fun hc => absurd (by decide) hc) (fun hc => ?_)
  exact x_wretV hx hb hr hlocks hw rfl dX0_gatherComplaints_7
