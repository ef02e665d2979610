/-! the reference: its small methods -/
theorem pol_snoc (co : Nat → Nat) (k : Nat) : ∀ m j, pol co k j (m + 1) = pol co k j m + co (j + m) * k ^ m := by
  intro m
  induction m with
  | zero => intro j; show co j + k * 0 = 0 + co j * k ^ 0; rw [Nat.mul_zero, Nat.pow_zero, Nat.mul_one]; omega
  | succ m ih =>
    intro j
    show co j + k * pol co k (j + 1) (m + 1) = (co j + k * pol co k (j + 1) m) + co (j + (m + 1)) * k ^ (m + 1)
    rw [ih (j + 1), Nat.mul_add, Nat.pow_succ, show j + 1 + m = j + (m + 1) by omega, Nat.mul_left_comm k, Nat.mul_comm k (k ^ m), Nat.add_assoc]
theorem pm_step (co : Nat → Nat) (k q : Nat) : (pol co k 0 q % 1073741789 + co q * (k ^ q % 1073741789)) % 1073741789 = pol co k 0 (q + 1) % 1073741789 := by
  rw [pol_snoc, Nat.zero_add, Nat.add_mod, Nat.mod_mod, Nat.mul_mod, Nat.mod_mod, ← Nat.mul_mod, ← Nat.add_mod]
theorem pu_step (k q : Nat) : k ^ q % 1073741789 * k % 1073741789 = k ^ (q + 1) % 1073741789 := by
  rw [Nat.pow_succ, Nat.mul_mod, Nat.mod_mod, ← Nat.mul_mod]

set_option maxHeartbeats 4000000 in
set_option maxRecDepth 100000 in
theorem k5_thrown (l : Launch) {D : va_G} {cI cJ cZ cD : ClassId} {ad : Nat → Nat} {w : Nat → va_E} {sz : Nat} (cd : Int32) (n t cl qu en kp : Nat) (hs : Int64) (hM : w 77 = .inr (4, [.int cd, .int (nI n), .int (nI t), .int (nI cl), .ref (ad 78), .ref (ad 79), .ref (ad 80), .ref (ad 81), .ref (ad 82), .ref (ad 83), .int (nI qu), .ref (ad 84), .ref (ad 85), .ref (ad 86), .int (nI en), .int (nI kp), .ref (ad 87), .long hs])) : MW l yX5_thrown (.code yX5_thrown cX5_thrown 1 (some .int)) ({ frames := 0, cells := 0, slots := 0, locals := 0 }) [.ref (ad 77)] D (tyL cI cJ cZ cD) ad 89 w sz (some (.int cd)) (fun u => u = w) := by
  refine MW.of (by decide) (Nat.le_of_ble_eq_true rfl) ?_
  intro p e s m below meth c ls hC hr hlocks hl hw
  obtain ⟨hx, hb, hml, hown, hts⟩ := id hC
  have hA : ∀ q, s.heap.size ≤ q → xA ad 89 s.heap.size q := fun q h => Or.inr h
  have hl : lv_has ls 1 [(0, .ref (ad 77))] := hl
  refine lv_aload_n hx hb dX5_thrown_0 rfl (lv_at hl 0 rfl) ?_
  refine gf_X5_41 hx hb hts hown hw (by decide) hM rfl dX5_thrown_1 ?_
  exact x_wretI hx hb hr hlocks hw rfl dX5_thrown_4
set_option maxHeartbeats 4000000 in
set_option maxRecDepth 100000 in
theorem k5_refuses0 (l : Launch) {D : va_G} {cI cJ cZ cD : ClassId} {ad : Nat → Nat} {w : Nat → va_E} {sz : Nat} (cd : Int32) (n t cl qu en kp : Nat) (hs : Int64) (hM : w 77 = .inr (4, [.int cd, .int (nI n), .int (nI t), .int (nI cl), .ref (ad 78), .ref (ad 79), .ref (ad 80), .ref (ad 81), .ref (ad 82), .ref (ad 83), .int (nI qu), .ref (ad 84), .ref (ad 85), .ref (ad 86), .int (nI en), .int (nI kp), .ref (ad 87), .long hs])) : MW l yX5_refuses (.code yX5_refuses cX5_refuses 2 (some .boolean)) ({ frames := 0, cells := 0, slots := 0, locals := 0 }) [.ref (ad 77), .int (nI 0)] D (tyL cI cJ cZ cD) ad 89 w sz (some (.int (nI 0))) (fun u => u = va_up w 77 (.inr (4, [.int (nI 0), .int (nI n), .int (nI t), .int (nI cl), .ref (ad 78), .ref (ad 79), .ref (ad 80), .ref (ad 81), .ref (ad 82), .ref (ad 83), .int (nI qu), .ref (ad 84), .ref (ad 85), .ref (ad 86), .int (nI en), .int (nI kp), .ref (ad 87), .long hs]))) := by
  refine MW.of (by decide) (Nat.le_of_ble_eq_true rfl) ?_
  intro p e s m below meth c ls hC hr hlocks hl hw
  obtain ⟨hx, hb, hml, hown, hts⟩ := id hC
  have hA : ∀ q, s.heap.size ≤ q → xA ad 89 s.heap.size q := fun q h => Or.inr h
  have hl : lv_has ls 2 [(0, .ref (ad 77)), (1, .int (nI 0))] := hl
  refine lv_aload_n hx hb dX5_refuses_0 rfl (lv_at hl 0 rfl) ?_
  refine lv_iload_n hx hb dX5_refuses_1 rfl (lv_at hl 1 rfl) ?_
  refine pf_X5_41 (v := .int (nI 0)) hx hb hts hown hw (by decide) hM rfl rfl (Nat.le_of_ble_eq_true rfl) dX5_refuses_2 (fun w_1 H locs ew_2 hw => ?_)
  have hc_3 : w_1 77 = .inr (4, [.int (nI 0), .int (nI n), .int (nI t), .int (nI cl), .ref (ad 78), .ref (ad 79), .ref (ad 80), .ref (ad 81), .ref (ad 82), .ref (ad 83), .int (nI qu), .ref (ad 84), .ref (ad 85), .ref (ad 86), .int (nI en), .int (nI kp), .ref (ad 87), .long hs]) := by rw [ew_2]; exact va_up_self _ _ _
  refine lv_iload_n hx hb dX5_refuses_5 rfl (lv_at hl 1 rfl) ?_
  refine lv_if_le (tgt := 13) hx hb dX5_refuses_6 (by decide) (fun q1 => ?_) (fun q1 => absurd (by decide) q1)
  refine lv_iconst (v := nI 0) hx hb dX5_refuses_13 (by decide) ?_
  exact x_wretZ hx hb hr hlocks (by decide) hw (by rw [ew_2]; first | done | (simp only [bx_uu]; done) | (simp only [bx_uu]; rfl) | rfl) dX5_refuses_14
set_option maxHeartbeats 4000000 in
set_option maxRecDepth 100000 in
theorem k5_refuses1 (l : Launch) {D : va_G} {cI cJ cZ cD : ClassId} {ad : Nat → Nat} {w : Nat → va_E} {sz : Nat} (cd : Int32) (n t cl qu en kp : Nat) (hs : Int64) (hM : w 77 = .inr (4, [.int cd, .int (nI n), .int (nI t), .int (nI cl), .ref (ad 78), .ref (ad 79), .ref (ad 80), .ref (ad 81), .ref (ad 82), .ref (ad 83), .int (nI qu), .ref (ad 84), .ref (ad 85), .ref (ad 86), .int (nI en), .int (nI kp), .ref (ad 87), .long hs])) : MW l yX5_refuses (.code yX5_refuses cX5_refuses 2 (some .boolean)) ({ frames := 0, cells := 0, slots := 0, locals := 0 }) [.ref (ad 77), .int (nI 1)] D (tyL cI cJ cZ cD) ad 89 w sz (some (.int (nI 1))) (fun u => u = va_up w 77 (.inr (4, [.int (nI 1), .int (nI n), .int (nI t), .int (nI cl), .ref (ad 78), .ref (ad 79), .ref (ad 80), .ref (ad 81), .ref (ad 82), .ref (ad 83), .int (nI qu), .ref (ad 84), .ref (ad 85), .ref (ad 86), .int (nI en), .int (nI kp), .ref (ad 87), .long hs]))) := by
  refine MW.of (by decide) (Nat.le_of_ble_eq_true rfl) ?_
  intro p e s m below meth c ls hC hr hlocks hl hw
  obtain ⟨hx, hb, hml, hown, hts⟩ := id hC
  have hA : ∀ q, s.heap.size ≤ q → xA ad 89 s.heap.size q := fun q h => Or.inr h
  have hl : lv_has ls 2 [(0, .ref (ad 77)), (1, .int (nI 1))] := hl
  refine lv_aload_n hx hb dX5_refuses_0 rfl (lv_at hl 0 rfl) ?_
  refine lv_iload_n hx hb dX5_refuses_1 rfl (lv_at hl 1 rfl) ?_
  refine pf_X5_41 (v := .int (nI 1)) hx hb hts hown hw (by decide) hM rfl rfl (Nat.le_of_ble_eq_true rfl) dX5_refuses_2 (fun w_1 H locs ew_2 hw => ?_)
  have hc_3 : w_1 77 = .inr (4, [.int (nI 1), .int (nI n), .int (nI t), .int (nI cl), .ref (ad 78), .ref (ad 79), .ref (ad 80), .ref (ad 81), .ref (ad 82), .ref (ad 83), .int (nI qu), .ref (ad 84), .ref (ad 85), .ref (ad 86), .int (nI en), .int (nI kp), .ref (ad 87), .long hs]) := by rw [ew_2]; exact va_up_self _ _ _
  refine lv_iload_n hx hb dX5_refuses_5 rfl (lv_at hl 1 rfl) ?_
  refine lv_if_le (tgt := 13) hx hb dX5_refuses_6 (by decide) (fun q1 => absurd q1 (by decide)) (fun q1 => ?_)
  refine lv_iconst (v := nI 1) hx hb dX5_refuses_9 (by decide) ?_
  refine lv_goto (tgt := 14) hx hb dX5_refuses_10 (by decide) ?_
  exact x_wretZ hx hb hr hlocks (by decide) hw (by rw [ew_2]; first | done | (simp only [bx_uu]; done) | (simp only [bx_uu]; rfl) | rfl) dX5_refuses_14
set_option maxHeartbeats 4000000 in
set_option maxRecDepth 100000 in
theorem k5_refuses2 (l : Launch) {D : va_G} {cI cJ cZ cD : ClassId} {ad : Nat → Nat} {w : Nat → va_E} {sz : Nat} (cd : Int32) (n t cl qu en kp : Nat) (hs : Int64) (hM : w 77 = .inr (4, [.int cd, .int (nI n), .int (nI t), .int (nI cl), .ref (ad 78), .ref (ad 79), .ref (ad 80), .ref (ad 81), .ref (ad 82), .ref (ad 83), .int (nI qu), .ref (ad 84), .ref (ad 85), .ref (ad 86), .int (nI en), .int (nI kp), .ref (ad 87), .long hs])) : MW l yX5_refuses (.code yX5_refuses cX5_refuses 2 (some .boolean)) ({ frames := 0, cells := 0, slots := 0, locals := 0 }) [.ref (ad 77), .int (nI 2)] D (tyL cI cJ cZ cD) ad 89 w sz (some (.int (nI 1))) (fun u => u = va_up w 77 (.inr (4, [.int (nI 2), .int (nI n), .int (nI t), .int (nI cl), .ref (ad 78), .ref (ad 79), .ref (ad 80), .ref (ad 81), .ref (ad 82), .ref (ad 83), .int (nI qu), .ref (ad 84), .ref (ad 85), .ref (ad 86), .int (nI en), .int (nI kp), .ref (ad 87), .long hs]))) := by
  refine MW.of (by decide) (Nat.le_of_ble_eq_true rfl) ?_
  intro p e s m below meth c ls hC hr hlocks hl hw
  obtain ⟨hx, hb, hml, hown, hts⟩ := id hC
  have hA : ∀ q, s.heap.size ≤ q → xA ad 89 s.heap.size q := fun q h => Or.inr h
  have hl : lv_has ls 2 [(0, .ref (ad 77)), (1, .int (nI 2))] := hl
  refine lv_aload_n hx hb dX5_refuses_0 rfl (lv_at hl 0 rfl) ?_
  refine lv_iload_n hx hb dX5_refuses_1 rfl (lv_at hl 1 rfl) ?_
  refine pf_X5_41 (v := .int (nI 2)) hx hb hts hown hw (by decide) hM rfl rfl (Nat.le_of_ble_eq_true rfl) dX5_refuses_2 (fun w_1 H locs ew_2 hw => ?_)
  have hc_3 : w_1 77 = .inr (4, [.int (nI 2), .int (nI n), .int (nI t), .int (nI cl), .ref (ad 78), .ref (ad 79), .ref (ad 80), .ref (ad 81), .ref (ad 82), .ref (ad 83), .int (nI qu), .ref (ad 84), .ref (ad 85), .ref (ad 86), .int (nI en), .int (nI kp), .ref (ad 87), .long hs]) := by rw [ew_2]; exact va_up_self _ _ _
  refine lv_iload_n hx hb dX5_refuses_5 rfl (lv_at hl 1 rfl) ?_
  refine lv_if_le (tgt := 13) hx hb dX5_refuses_6 (by decide) (fun q1 => absurd q1 (by decide)) (fun q1 => ?_)
  refine lv_iconst (v := nI 1) hx hb dX5_refuses_9 (by decide) ?_
  refine lv_goto (tgt := 14) hx hb dX5_refuses_10 (by decide) ?_
  exact x_wretZ hx hb hr hlocks (by decide) hw (by rw [ew_2]; first | done | (simp only [bx_uu]; done) | (simp only [bx_uu]; rfl) | rfl) dX5_refuses_14
set_option maxHeartbeats 4000000 in
set_option maxRecDepth 100000 in
theorem k5_hashes (l : Launch) {D : va_G} {cI cJ cZ cD : ClassId} {ad : Nat → Nat} {w : Nat → va_E} {sz : Nat} (cd : Int32) (n t cl qu en kp : Nat) (hs : Int64) (x : Int64) (hM : w 77 = .inr (4, [.int cd, .int (nI n), .int (nI t), .int (nI cl), .ref (ad 78), .ref (ad 79), .ref (ad 80), .ref (ad 81), .ref (ad 82), .ref (ad 83), .int (nI qu), .ref (ad 84), .ref (ad 85), .ref (ad 86), .int (nI en), .int (nI kp), .ref (ad 87), .long hs])) : MW l yX5_hashes (.code yX5_hashes cX5_hashes 3 none) ({ frames := 0, cells := 0, slots := 0, locals := 0 }) [.ref (ad 77), .long x] D (tyL cI cJ cZ cD) ad 89 w sz none (fun u => u = va_up w 77 (.inr (4, [.int cd, .int (nI n), .int (nI t), .int (nI cl), .ref (ad 78), .ref (ad 79), .ref (ad 80), .ref (ad 81), .ref (ad 82), .ref (ad 83), .int (nI qu), .ref (ad 84), .ref (ad 85), .ref (ad 86), .int (nI en), .int (nI kp), .ref (ad 87), .long (stirF hs x)]))) := by
  refine MW.of (by decide) (Nat.le_of_ble_eq_true rfl) ?_
  intro p e s m below meth c ls hC hr hlocks hl hw
  obtain ⟨hx, hb, hml, hown, hts⟩ := id hC
  have hA : ∀ q, s.heap.size ≤ q → xA ad 89 s.heap.size q := fun q h => Or.inr h
  have hl : lv_has ls 3 [(0, .ref (ad 77)), (1, .long x)] := hl
  refine lv_aload_n hx hb dX5_hashes_0 rfl (lv_at hl 0 rfl) ?_
  refine lv_aload_n hx hb dX5_hashes_1 rfl (lv_at hl 0 rfl) ?_
  refine gf_X5_45 hx hb hts hown hw (by decide) hM rfl dX5_hashes_2 ?_
  refine lv_lload_n hx hb dX5_hashes_5 rfl (lv_at hl 1 rfl) ?_
  refine lv_ladd hx hb dX5_hashes_6 ?_
  refine lv_ldc2 hx hb hown (hts _ ct_X5_49) dX5_hashes_7 ?_
  refine lv_lmul hx hb dX5_hashes_10 ?_
  refine lv_ldc2 hx hb hown (hts _ ct_X5_51) dX5_hashes_11 ?_
  refine lv_ladd hx hb dX5_hashes_14 ?_
  refine pf_X5_45 (v := .long (((hs + x) * ((6364136223846793005))) + ((1442695040888963407)))) hx hb hts hown hw (by decide) hM rfl rfl (Nat.le_of_ble_eq_true rfl) dX5_hashes_15 (fun w_1 H locs ew_2 hw => ?_)
  have hc_3 : w_1 77 = .inr (4, [.int cd, .int (nI n), .int (nI t), .int (nI cl), .ref (ad 78), .ref (ad 79), .ref (ad 80), .ref (ad 81), .ref (ad 82), .ref (ad 83), .int (nI qu), .ref (ad 84), .ref (ad 85), .ref (ad 86), .int (nI en), .int (nI kp), .ref (ad 87), .long (((hs + x) * ((6364136223846793005))) + ((1442695040888963407)))]) := by rw [ew_2]; exact va_up_self _ _ _
  refine lv_aload_n hx hb dX5_hashes_18 rfl (lv_at hl 0 rfl) ?_
  refine lv_aload_n hx hb dX5_hashes_19 rfl (lv_at hl 0 rfl) ?_
  refine gf_X5_45 hx hb hts hown hw (by decide) hc_3 rfl dX5_hashes_20 ?_
  refine lv_aload_n hx hb dX5_hashes_23 rfl (lv_at hl 0 rfl) ?_
  refine gf_X5_45 hx hb hts hown hw (by decide) hc_3 rfl dX5_hashes_24 ?_
  refine lv_bipush (v := nI 29) hx hb dX5_hashes_27 (by decide) ?_
  refine lv_lushr hx hb dX5_hashes_29 rfl ?_
  refine lv_lxor hx hb dX5_hashes_30 ?_
  refine pf_X5_45 (v := .long ((((hs + x) * ((6364136223846793005))) + ((1442695040888963407))) ^^^ (((((hs + x) * ((6364136223846793005))) + ((1442695040888963407))).toUInt64 >>> ((nI 29).toInt64.toUInt64 &&& Int64.toUInt64 63)).toInt64))) hx hb hts hown hw (by decide) hc_3 rfl rfl (Nat.le_of_ble_eq_true rfl) dX5_hashes_31 (fun w_4 H locs ew_5 hw => ?_)
  have hc_6 : w_4 77 = .inr (4, [.int cd, .int (nI n), .int (nI t), .int (nI cl), .ref (ad 78), .ref (ad 79), .ref (ad 80), .ref (ad 81), .ref (ad 82), .ref (ad 83), .int (nI qu), .ref (ad 84), .ref (ad 85), .ref (ad 86), .int (nI en), .int (nI kp), .ref (ad 87), .long ((((hs + x) * ((6364136223846793005))) + ((1442695040888963407))) ^^^ (((((hs + x) * ((6364136223846793005))) + ((1442695040888963407))).toUInt64 >>> ((nI 29).toInt64.toUInt64 &&& Int64.toUInt64 63)).toInt64))]) := by rw [ew_5]; exact va_up_self _ _ _
  refine lv_aload_n hx hb dX5_hashes_34 rfl (lv_at hl 0 rfl) ?_
  refine lv_aload_n hx hb dX5_hashes_35 rfl (lv_at hl 0 rfl) ?_
  refine gf_X5_45 hx hb hts hown hw (by decide) hc_6 rfl dX5_hashes_36 ?_
  refine lv_ldc2 hx hb hown (hts _ ct_X5_53) dX5_hashes_39 ?_
  refine lv_lmul hx hb dX5_hashes_42 ?_
  refine pf_X5_45 (v := .long (((((hs + x) * ((6364136223846793005))) + ((1442695040888963407))) ^^^ (((((hs + x) * ((6364136223846793005))) + ((1442695040888963407))).toUInt64 >>> ((nI 29).toInt64.toUInt64 &&& Int64.toUInt64 63)).toInt64)) * ((2862933555777941757)))) hx hb hts hown hw (by decide) hc_6 rfl rfl (Nat.le_of_ble_eq_true rfl) dX5_hashes_43 (fun w_7 H locs ew_8 hw => ?_)
  have hc_9 : w_7 77 = .inr (4, [.int cd, .int (nI n), .int (nI t), .int (nI cl), .ref (ad 78), .ref (ad 79), .ref (ad 80), .ref (ad 81), .ref (ad 82), .ref (ad 83), .int (nI qu), .ref (ad 84), .ref (ad 85), .ref (ad 86), .int (nI en), .int (nI kp), .ref (ad 87), .long (((((hs + x) * ((6364136223846793005))) + ((1442695040888963407))) ^^^ (((((hs + x) * ((6364136223846793005))) + ((1442695040888963407))).toUInt64 >>> ((nI 29).toInt64.toUInt64 &&& Int64.toUInt64 63)).toInt64)) * ((2862933555777941757)))]) := by rw [ew_8]; exact va_up_self _ _ _
  refine lv_aload_n hx hb dX5_hashes_46 rfl (lv_at hl 0 rfl) ?_
  refine lv_aload_n hx hb dX5_hashes_47 rfl (lv_at hl 0 rfl) ?_
  refine gf_X5_45 hx hb hts hown hw (by decide) hc_9 rfl dX5_hashes_48 ?_
  refine lv_aload_n hx hb dX5_hashes_51 rfl (lv_at hl 0 rfl) ?_
  refine gf_X5_45 hx hb hts hown hw (by decide) hc_9 rfl dX5_hashes_52 ?_
  refine lv_bipush (v := nI 32) hx hb dX5_hashes_55 (by decide) ?_
  refine lv_lushr hx hb dX5_hashes_57 rfl ?_
  refine lv_lxor hx hb dX5_hashes_58 ?_
  refine pf_X5_45 (v := .long ((((((hs + x) * ((6364136223846793005))) + ((1442695040888963407))) ^^^ (((((hs + x) * ((6364136223846793005))) + ((1442695040888963407))).toUInt64 >>> ((nI 29).toInt64.toUInt64 &&& Int64.toUInt64 63)).toInt64)) * ((2862933555777941757))) ^^^ (((((((hs + x) * ((6364136223846793005))) + ((1442695040888963407))) ^^^ (((((hs + x) * ((6364136223846793005))) + ((1442695040888963407))).toUInt64 >>> ((nI 29).toInt64.toUInt64 &&& Int64.toUInt64 63)).toInt64)) * ((2862933555777941757))).toUInt64 >>> ((nI 32).toInt64.toUInt64 &&& Int64.toUInt64 63)).toInt64))) hx hb hts hown hw (by decide) hc_9 rfl rfl (Nat.le_of_ble_eq_true rfl) dX5_hashes_59 (fun w_10 H locs ew_11 hw => ?_)
  have hc_12 : w_10 77 = .inr (4, [.int cd, .int (nI n), .int (nI t), .int (nI cl), .ref (ad 78), .ref (ad 79), .ref (ad 80), .ref (ad 81), .ref (ad 82), .ref (ad 83), .int (nI qu), .ref (ad 84), .ref (ad 85), .ref (ad 86), .int (nI en), .int (nI kp), .ref (ad 87), .long ((((((hs + x) * ((6364136223846793005))) + ((1442695040888963407))) ^^^ (((((hs + x) * ((6364136223846793005))) + ((1442695040888963407))).toUInt64 >>> ((nI 29).toInt64.toUInt64 &&& Int64.toUInt64 63)).toInt64)) * ((2862933555777941757))) ^^^ (((((((hs + x) * ((6364136223846793005))) + ((1442695040888963407))) ^^^ (((((hs + x) * ((6364136223846793005))) + ((1442695040888963407))).toUInt64 >>> ((nI 29).toInt64.toUInt64 &&& Int64.toUInt64 63)).toInt64)) * ((2862933555777941757))).toUInt64 >>> ((nI 32).toInt64.toUInt64 &&& Int64.toUInt64 63)).toInt64))]) := by rw [ew_11]; exact va_up_self _ _ _
  exact x_wretV hx hb hr hlocks hw (by rw [ew_11, ew_8, ew_5, ew_2, bx_uu, bx_uu, bx_uu] <;> rfl) dX5_hashes_62
set_option maxHeartbeats 4000000 in
set_option maxRecDepth 100000 in
theorem k5_isNode (l : Launch) {D : va_G} {cI cJ cZ cD : ClassId} {ad : Nat → Nat} {w : Nat → va_E} {sz : Nat} (cd : Int32) (n t cl qu en kp : Nat) (hs : Int64) (hn : n ≤ 16) (k : Nat) (h1 : 1 ≤ k) (h2 : k ≤ n) (hM : w 77 = .inr (4, [.int cd, .int (nI n), .int (nI t), .int (nI cl), .ref (ad 78), .ref (ad 79), .ref (ad 80), .ref (ad 81), .ref (ad 82), .ref (ad 83), .int (nI qu), .ref (ad 84), .ref (ad 85), .ref (ad 86), .int (nI en), .int (nI kp), .ref (ad 87), .long hs])) : MW l yX5_isNode (.code yX5_isNode cX5_isNode 2 (some .boolean)) ({ frames := 0, cells := 0, slots := 0, locals := 0 }) [.ref (ad 77), .int (nI k)] D (tyL cI cJ cZ cD) ad 89 w sz (some (.int (nI 1))) (fun u => u = w) := by
  refine MW.of (by decide) (Nat.le_of_ble_eq_true rfl) ?_
  intro p e s m below meth c ls hC hr hlocks hl hw
  obtain ⟨hx, hb, hml, hown, hts⟩ := id hC
  have hA : ∀ q, s.heap.size ≤ q → xA ad 89 s.heap.size q := fun q h => Or.inr h
  have hl : lv_has ls 2 [(0, .ref (ad 77)), (1, .int (nI k))] := hl
  refine lv_iload_n hx hb dX5_isNode_0 rfl (lv_at hl 1 rfl) ?_
  refine lv_iconst (v := nI 1) hx hb dX5_isNode_1 (by decide) ?_
  refine lv_icmp_lt (tgt := 17) hx hb dX5_isNode_2 (by decide) (fun q1 => absurd q1 (nI_nlt (by omega) (by omega))) (fun q1 => ?_)
  refine lv_iload_n hx hb dX5_isNode_5 rfl (lv_at hl 1 rfl) ?_
  refine lv_aload_n hx hb dX5_isNode_6 rfl (lv_at hl 0 rfl) ?_
  refine gf_X5_59 hx hb hts hown hw (by decide) hM rfl dX5_isNode_7 ?_
  refine lv_icmp_gt (tgt := 17) hx hb dX5_isNode_10 (by decide) (fun q2 => absurd q2 (nI_nlt (by omega) (by omega))) (fun q2 => ?_)
  refine lv_iconst (v := nI 1) hx hb dX5_isNode_13 (by decide) ?_
  refine lv_goto (tgt := 18) hx hb dX5_isNode_14 (by decide) ?_
  exact x_wretZ hx hb hr hlocks (by decide) hw rfl dX5_isNode_18
set_option maxHeartbeats 4000000 in
set_option maxRecDepth 100000 in
theorem k5_isNodeN (l : Launch) {D : va_G} {cI cJ cZ cD : ClassId} {ad : Nat → Nat} {w : Nat → va_E} {sz : Nat} (cd : Int32) (n t cl qu en kp : Nat) (hs : Int64) (x : Int32) (hx0 : ¬ isNd n x) (hM : w 77 = .inr (4, [.int cd, .int (nI n), .int (nI t), .int (nI cl), .ref (ad 78), .ref (ad 79), .ref (ad 80), .ref (ad 81), .ref (ad 82), .ref (ad 83), .int (nI qu), .ref (ad 84), .ref (ad 85), .ref (ad 86), .int (nI en), .int (nI kp), .ref (ad 87), .long hs])) : MW l yX5_isNode (.code yX5_isNode cX5_isNode 2 (some .boolean)) ({ frames := 0, cells := 0, slots := 0, locals := 0 }) [.ref (ad 77), .int x] D (tyL cI cJ cZ cD) ad 89 w sz (some (.int (nI 0))) (fun u => u = w) := by
  refine MW.of (by decide) (Nat.le_of_ble_eq_true rfl) ?_
  intro p e s m below meth c ls hC hr hlocks hl hw
  obtain ⟨hx, hb, hml, hown, hts⟩ := id hC
  have hA : ∀ q, s.heap.size ≤ q → xA ad 89 s.heap.size q := fun q h => Or.inr h
  have hl : lv_has ls 2 [(0, .ref (ad 77)), (1, .int x)] := hl
  refine lv_iload_n hx hb dX5_isNode_0 rfl (lv_at hl 1 rfl) ?_
  refine lv_iconst (v := nI 1) hx hb dX5_isNode_1 (by decide) ?_
  refine lv_icmp_lt (tgt := 17) hx hb dX5_isNode_2 (by decide) (fun q1 => ?_) (fun q1 => ?_)
  · skip
    refine lv_iconst (v := nI 0) hx hb dX5_isNode_17 (by decide) ?_
    exact x_wretZ hx hb hr hlocks (by decide) hw rfl dX5_isNode_18
  · skip
    refine lv_iload_n hx hb dX5_isNode_5 rfl (lv_at hl 1 rfl) ?_
    refine lv_aload_n hx hb dX5_isNode_6 rfl (lv_at hl 0 rfl) ?_
    refine gf_X5_59 hx hb hts hown hw (by decide) hM rfl dX5_isNode_7 ?_
    refine lv_icmp_gt (tgt := 17) hx hb dX5_isNode_10 (by decide) (fun q2 => ?_) (fun q2 => absurd (nlt_of (fun q => hx0 ⟨nle_of q1, q⟩)) q2)
    refine lv_iconst (v := nI 0) hx hb dX5_isNode_17 (by decide) ?_
    exact x_wretZ hx hb hr hlocks (by decide) hw rfl dX5_isNode_18
set_option maxHeartbeats 4000000 in
set_option maxRecDepth 100000 in
theorem k5_right_loop {l : Launch} {p : Program} {e : Env} {s : State} {m : MethodId} {args : Array Value} {below : List Frame} {meth : Method} {c : Code} {Q : State → Prop} {D : va_G} {cI cJ cZ cD : ClassId} {ad : Nat → Nat} {A : Nat → Prop} {H0 : Heap} {w : Nat → va_E} (hC : CallFix p m c cX5_right 8 s args wsL_law RX5) (hA : ∀ q, H0.size ≤ q → A q) (cd : Int32) (n t cl qu en kp : Nat) (hs : Int64) (cf : Nat → Int64) (i k : Nat) (hi : i ≤ 16) (hk : k ≤ 16) (ht : t ≤ 16) (co : Nat → Nat) (hco : ∀ j, j < t → cf (17 * i + j) = lN (co j) ∧ co j < 1073741789) (hM : w 77 = .inr (4, [.int cd, .int (nI n), .int (nI t), .int (nI cl), .ref (ad 78), .ref (ad 79), .ref (ad 80), .ref (ad 81), .ref (ad 82), .ref (ad 83), .int (nI qu), .ref (ad 84), .ref (ad 85), .ref (ad 86), .int (nI en), .int (nI kp), .ref (ad 87), .long hs])) (hCf : w 80 = .inl (cJ, 289, .inr (.inl cf)))
    (kx : ∀  (ls : Array Slot) (H : Heap) (locs : List Loc),  WW D vwCl (tyL cI cJ cZ cD) A H0 ad 89 w s H locs → lv_has ls 8 [(3, .long (lN (pol co k 0 t % 1073741789)))] → W p l e ({ frames := 0, cells := 0, slots := 0, locals := 0 }) s m args below meth c H locs 0 0 Q (F0 m 56 ls [])) :
    ∀ (j q : Nat)  (ls : Array Slot) (H : Heap) (locs : List Loc), q + j = t →  WW D vwCl (tyL cI cJ cZ cD) A H0 ad 89 w s H locs → lv_has ls 8 [(0, .ref (ad 77)), (1, .int (nI i)), (2, .int (nI k)), (3, .long (lN (pol co k 0 q % 1073741789))), (5, .long (lN (k ^ q % 1073741789))), (7, .int (nI q))] → W p l e ({ frames := 0, cells := 0, slots := 0, locals := 0 }) s m args below meth c H locs 0 0 Q (F0 m 8 ls []) := by
  obtain ⟨hx, hb, hml, hown, hts⟩ := id hC
  intro j
  induction j with
  | zero =>
    intro q  ls H locs hq  hw hl
    obtain rfl : t = q := by omega
    have hl : lv_has ls 8 [(0, .ref (ad 77)), (1, .int (nI i)), (2, .int (nI k)), (3, .long (lN (pol co k 0 t % 1073741789))), (5, .long (lN (k ^ t % 1073741789))), (7, .int (nI t))] := hl
    refine lv_iload hx hb dX5_right_8 (lv_at hl 5 rfl) ?_
    refine lv_aload_n hx hb dX5_right_10 rfl (lv_at hl 0 rfl) ?_
    refine gf_X5_68 hx hb hts hown hw (by decide) hM rfl dX5_right_11 ?_
    refine lv_icmp_ge (tgt := 56) hx hb dX5_right_14 (by decide) (fun hc => ?_) (fun hc => absurd (nI_le (by omega) (by omega)) hc)
    exact kx  ls H locs  hw (lv_sub hl [3] rfl)
  | succ j ih =>
    intro q  ls H locs hq  hw hl
    refine lv_iload hx hb dX5_right_8 (lv_at hl 5 rfl) ?_
    refine lv_aload_n hx hb dX5_right_10 rfl (lv_at hl 0 rfl) ?_
    refine gf_X5_68 hx hb hts hown hw (by decide) hM rfl dX5_right_11 ?_
    refine lv_icmp_ge (tgt := 56) hx hb dX5_right_14 (by decide) (fun hc => absurd hc (fun q => by rw [nI_leI (by omega) (by omega)] at q; omega)) (fun hc => ?_)
    obtain ⟨hc1, hc2⟩ := hco q (by omega)
    have hp1 : pol co k 0 q % 1073741789 < 1073741789 := Nat.mod_lt _ (by decide)
    have hp2 : k ^ q % 1073741789 < 1073741789 := Nat.mod_lt _ (by decide)
    have hp3 := mul_lt60 hc2 hp2
    have hp4 : k ^ q % 1073741789 * k ≤ 1073741789 * 16 := Nat.mul_le_mul (by omega) hk
    refine lv_lload_n hx hb dX5_right_17 rfl (lv_at hl 3 rfl) ?_
    refine lv_aload_n hx hb dX5_right_18 rfl (lv_at hl 0 rfl) ?_
    refine gf_X5_16 hx hb hts hown hw (by decide) hM rfl dX5_right_19 ?_
    refine lv_bipush (v := nI 17) hx hb dX5_right_22 (by decide) ?_
    refine lv_iload_n hx hb dX5_right_24 rfl (lv_at hl 1 rfl) ?_
    refine t_imul hx hb dX5_right_25 (v := nI (17 * i)) (pk_mul _ _) ?_
    refine lv_iload hx hb dX5_right_26 (lv_at hl 5 rfl) ?_
    refine t_iadd hx hb dX5_right_28 (v := nI (17 * i + q)) (nI_add _ _) ?_
    refine x_lald hx hb hw (by decide) 1 hCf rfl (j := 17 * i + q) (by omega) (by decide) hc1 dX5_right_29 ?_
    refine lv_lload hx hb dX5_right_30 (lv_at hl 4 rfl) ?_
    refine lv_lmul hx hb dX5_right_32 ?_
    rw [lN_mul]
    refine t_ladd hx hb dX5_right_33 (v := lN (pol co k 0 q % 1073741789 + ((co q) * (k ^ q % 1073741789)))) (lN_add _ _) ?_
    refine lv_ldc2 hx hb hown (hts _ ct_X5_62) dX5_right_34 ?_
    refine lv_lrem hx hb dX5_right_37 (by decide) ?_
    rw [pk_lRem (by omega) (by decide) (by decide)]
    rw [pm_step]
    refine lv_lstore_n (lv' := [(3, .long (lN (pol co k 0 (q + 1) % 1073741789))), (0, .ref (ad 77)), (1, .int (nI i)), (2, .int (nI k)), (5, .long (lN (k ^ q % 1073741789))), (7, .int (nI q))]) hx hb dX5_right_38 rfl hl (by decide) rfl (fun ls hl => ?_)
    refine lv_lload hx hb dX5_right_39 (lv_at hl 4 rfl) ?_
    refine lv_iload_n hx hb dX5_right_41 rfl (lv_at hl 3 rfl) ?_
    refine lv_i2l hx hb dX5_right_42 (nI_l (by omega)) ?_
    refine lv_lmul hx hb dX5_right_43 ?_
    rw [lN_mul]
    refine lv_ldc2 hx hb hown (hts _ ct_X5_62) dX5_right_44 ?_
    refine lv_lrem hx hb dX5_right_47 (by decide) ?_
    rw [pk_lRem (by omega) (by decide) (by decide)]
    rw [pu_step]
    refine lv_lstore (lv' := [(5, .long (lN (k ^ (q + 1) % 1073741789))), (3, .long (lN (pol co k 0 (q + 1) % 1073741789))), (0, .ref (ad 77)), (1, .int (nI i)), (2, .int (nI k)), (7, .int (nI q))]) hx hb dX5_right_48 hl (by decide) rfl (fun ls hl => ?_)
    refine lv_iinc (v := nI (q + 1)) (lv' := [(7, .int (nI (q + 1))), (5, .long (lN (k ^ (q + 1) % 1073741789))), (3, .long (lN (pol co k 0 (q + 1) % 1073741789))), (0, .ref (ad 77)), (1, .int (nI i)), (2, .int (nI k))]) hx hb dX5_right_50 hl (k := 5) rfl (nI_1 q) (by decide) rfl (fun ls hl => ?_)
    refine lv_goto (tgt := 8) hx hb dX5_right_53 (by decide) ?_
    refine ih (q + 1)  ls H locs (by omega)  hw (lv_sub hl [3, 4, 5, 2, 1, 0] rfl)
set_option maxHeartbeats 4000000 in
set_option maxRecDepth 100000 in
theorem k5_right (l : Launch) {D : va_G} {cI cJ cZ cD : ClassId} {ad : Nat → Nat} {w : Nat → va_E} {sz : Nat} (cd : Int32) (n t cl qu en kp : Nat) (hs : Int64) (cf : Nat → Int64) (i k : Nat) (hi : i ≤ 16) (hk : k ≤ 16) (ht : t ≤ 16) (co : Nat → Nat) (hco : ∀ j, j < t → cf (17 * i + j) = lN (co j) ∧ co j < 1073741789) (hM : w 77 = .inr (4, [.int cd, .int (nI n), .int (nI t), .int (nI cl), .ref (ad 78), .ref (ad 79), .ref (ad 80), .ref (ad 81), .ref (ad 82), .ref (ad 83), .int (nI qu), .ref (ad 84), .ref (ad 85), .ref (ad 86), .int (nI en), .int (nI kp), .ref (ad 87), .long hs])) (hCf : w 80 = .inl (cJ, 289, .inr (.inl cf))) : MW l yX5_right (.code yX5_right cX5_right 8 (some .long)) ({ frames := 0, cells := 0, slots := 0, locals := 0 }) [.ref (ad 77), .int (nI i), .int (nI k)] D (tyL cI cJ cZ cD) ad 89 w sz (some (.long (lN (rgt co t k)))) (fun u => u = w) := by
  refine MW.of (by decide) (Nat.le_of_ble_eq_true rfl) ?_
  intro p e s m below meth c ls hC hr hlocks hl hw
  obtain ⟨hx, hb, hml, hown, hts⟩ := id hC
  have hA : ∀ q, s.heap.size ≤ q → xA ad 89 s.heap.size q := fun q h => Or.inr h
  have hl : lv_has ls 8 [(0, .ref (ad 77)), (1, .int (nI i)), (2, .int (nI k))] := hl
  refine lv_lconst (v := lN 0) hx hb dX5_right_0 (by decide) ?_
  refine lv_lstore_n (lv' := [(3, .long (lN 0)), (0, .ref (ad 77)), (1, .int (nI i)), (2, .int (nI k))]) hx hb dX5_right_1 rfl hl (by decide) rfl (fun ls hl => ?_)
  refine lv_lconst (v := lN 1) hx hb dX5_right_2 (by decide) ?_
  refine lv_lstore (lv' := [(5, .long (lN 1)), (3, .long (lN 0)), (0, .ref (ad 77)), (1, .int (nI i)), (2, .int (nI k))]) hx hb dX5_right_3 hl (by decide) rfl (fun ls hl => ?_)
  refine lv_iconst (v := nI 0) hx hb dX5_right_5 (by decide) ?_
  refine lv_istore (lv' := [(7, .int (nI 0)), (5, .long (lN 1)), (3, .long (lN 0)), (0, .ref (ad 77)), (1, .int (nI i)), (2, .int (nI k))]) hx hb dX5_right_6 hl (by decide) rfl (fun ls hl => ?_)
  refine k5_right_loop hC hA cd n t cl qu en kp hs cf i k hi hk ht co hco hM hCf (fun ls H locs hw hl => ?_) t 0 ls s.heap [] (by omega) hw (lv_sub hl [3, 4, 5, 2, 1, 0] (by rw [Nat.pow_zero]; rfl))
  have hl : lv_has ls 8 [(3, .long (lN (rgt co t k)))] := hl
  refine lv_lload_n hx hb dX5_right_56 rfl (lv_at hl 0 rfl) ?_
  exact x_wretL hx hb hr hlocks hw rfl dX5_right_57
set_option maxHeartbeats 4000000 in
set_option maxRecDepth 100000 in
theorem k5_message (l : Launch) {D : va_G} {cI cJ cZ cD : ClassId} {ad : Nat → Nat} {w : Nat → va_E} {sz : Nat} (cd : Int32) (n t cl qu en kp : Nat) (hs : Int64) (vlf : Nat → Int64) (v : Int64) (hen : en ≤ 300) (hv : vlf en = v) (hM : w 77 = .inr (4, [.int cd, .int (nI n), .int (nI t), .int (nI cl), .ref (ad 78), .ref (ad 79), .ref (ad 80), .ref (ad 81), .ref (ad 82), .ref (ad 83), .int (nI qu), .ref (ad 84), .ref (ad 85), .ref (ad 86), .int (nI en), .int (nI kp), .ref (ad 87), .long hs])) (hVl : w 86 = .inl (cJ, 301, .inr (.inl vlf))) : MW l yX5_message (.code yX5_message cX5_message 1 (some .long)) ({ frames := 1, cells := 0, slots := 0, locals := 30 }) [.ref (ad 77)] D (tyL cI cJ cZ cD) ad 89 w sz (some (.long (msgF v en))) (fun u => u = va_up w 77 (.inr (4, [.int cd, .int (nI n), .int (nI t), .int (nI cl), .ref (ad 78), .ref (ad 79), .ref (ad 80), .ref (ad 81), .ref (ad 82), .ref (ad 83), .int (nI qu), .ref (ad 84), .ref (ad 85), .ref (ad 86), .int (nI en), .int (nI kp), .ref (ad 87), .long (msgF v en)]))) := by
  refine MW.of (by decide) (Nat.le_of_ble_eq_true rfl) ?_
  intro p e s m below meth c ls hC hr hlocks hl hw
  obtain ⟨hx, hb, hml, hown, hts⟩ := id hC
  have hA : ∀ q, s.heap.size ≤ q → xA ad 89 s.heap.size q := fun q h => Or.inr h
  have hl : lv_has ls 1 [(0, .ref (ad 77))] := hl
  refine lv_aload_n hx hb dX5_message_0 rfl (lv_at hl 0 rfl) ?_
  refine lv_lconst (v := lN 0) hx hb dX5_message_1 (by decide) ?_
  refine pf_X5_45 (v := .long (lN 0)) hx hb hts hown hw (by decide) hM rfl rfl (Nat.le_of_ble_eq_true rfl) dX5_message_2 (fun w_1 H locs ew_2 hw => ?_)
  have hc_3 : w_1 77 = .inr (4, [.int cd, .int (nI n), .int (nI t), .int (nI cl), .ref (ad 78), .ref (ad 79), .ref (ad 80), .ref (ad 81), .ref (ad 82), .ref (ad 83), .int (nI qu), .ref (ad 84), .ref (ad 85), .ref (ad 86), .int (nI en), .int (nI kp), .ref (ad 87), .long (lN 0)]) := by rw [ew_2]; exact va_up_self _ _ _
  have hc_4 : w_1 86 = .inl (cJ, 301, .inr (.inl vlf)) := by rw [ew_2]; exact (va_up_ne _ _ (by omega)).trans hVl
  refine lv_aload_n hx hb dX5_message_5 rfl (lv_at hl 0 rfl) ?_
  refine lv_aload_n hx hb dX5_message_6 rfl (lv_at hl 0 rfl) ?_
  refine gf_X5_35 hx hb hts hown hw (by decide) hc_3 rfl dX5_message_7 ?_
  refine lv_aload_n hx hb dX5_message_10 rfl (lv_at hl 0 rfl) ?_
  refine gf_X5_78 hx hb hts hown hw (by decide) hc_3 rfl dX5_message_11 ?_
  refine x_lald hx hb hw (by decide) 1 hc_4 rfl (j := en) (by omega) (by decide) hv dX5_message_14 ?_
  refine x_callW0 (As := [.long v]) (rest := []) hC vf_X5_87 hw hA (by decide) hc_3 rfl rfl (k5_hashes l _ _ _ _ _ _ _ _ (v) hc_3) ⟨rfl, rfl, Nat.le_of_ble_eq_true rfl, Nat.le_of_ble_eq_true rfl⟩ hl.1 (Nat.le_of_ble_eq_true rfl) dX5_message_15 ⟨Nat.zero_le _, Nat.zero_le _⟩ rfl (fun w_6 H locs hu_5 hw => ?_)
  have hc_7 : w_6 77 = .inr (4, [.int cd, .int (nI n), .int (nI t), .int (nI cl), .ref (ad 78), .ref (ad 79), .ref (ad 80), .ref (ad 81), .ref (ad 82), .ref (ad 83), .int (nI qu), .ref (ad 84), .ref (ad 85), .ref (ad 86), .int (nI en), .int (nI kp), .ref (ad 87), .long (stirF (lN 0) (v))]) := by rw [hu_5]; exact va_up_self _ _ _
  have hc_8 : w_6 86 = .inl (cJ, 301, .inr (.inl vlf)) := by rw [hu_5, va_up_ne _ _ (by decide)]; exact hc_4
  refine lv_aload_n hx hb dX5_message_18 rfl (lv_at hl 0 rfl) ?_
  refine lv_aload_n hx hb dX5_message_19 rfl (lv_at hl 0 rfl) ?_
  refine gf_X5_78 hx hb hts hown hw (by decide) hc_7 rfl dX5_message_20 ?_
  refine lv_i2l hx hb dX5_message_23 (nI_l (by omega)) ?_
  refine lv_lconst (v := lN 1) hx hb dX5_message_24 (by decide) ?_
  refine t_ladd hx hb dX5_message_25 (v := lN (en + 1)) (lN_add _ _) ?_
  refine x_callW0 (As := [.long (lN (en + 1))]) (rest := []) hC vf_X5_87 hw hA (by decide) hc_7 rfl rfl (k5_hashes l _ _ _ _ _ _ _ _ (lN (en + 1)) hc_7) ⟨rfl, rfl, Nat.le_of_ble_eq_true rfl, Nat.le_of_ble_eq_true rfl⟩ hl.1 (Nat.le_of_ble_eq_true rfl) dX5_message_26 ⟨Nat.zero_le _, Nat.zero_le _⟩ rfl (fun w_10 H locs hu_9 hw => ?_)
  have hc_11 : w_10 77 = .inr (4, [.int cd, .int (nI n), .int (nI t), .int (nI cl), .ref (ad 78), .ref (ad 79), .ref (ad 80), .ref (ad 81), .ref (ad 82), .ref (ad 83), .int (nI qu), .ref (ad 84), .ref (ad 85), .ref (ad 86), .int (nI en), .int (nI kp), .ref (ad 87), .long (stirF (stirF (lN 0) v) (lN (en + 1)))]) := by rw [hu_9]; exact va_up_self _ _ _
  have hc_12 : w_10 86 = .inl (cJ, 301, .inr (.inl vlf)) := by rw [hu_9, va_up_ne _ _ (by decide)]; exact hc_8
  refine lv_aload_n hx hb dX5_message_29 rfl (lv_at hl 0 rfl) ?_
  refine gf_X5_45 hx hb hts hown hw (by decide) hc_11 rfl dX5_message_30 ?_
  exact x_wretL hx hb hr hlocks hw (by rw [hu_9, hu_5, ew_2]; first | done | (simp only [bx_uu]; done) | (simp only [bx_uu]; rfl) | rfl) dX5_message_33
set_option maxHeartbeats 4000000 in
set_option maxRecDepth 100000 in
theorem k5_base (l : Launch) {D : va_G} {cI cJ cZ cD : ClassId} {ad : Nat → Nat} {w : Nat → va_E} {sz : Nat} (cd : Int32) (n t cl qu en kp : Nat) (hs : Int64) (vlf : Nat → Int64) (v : Int64) (hen : en ≤ 300) (hv : vlf en = v) (hM : w 77 = .inr (4, [.int cd, .int (nI n), .int (nI t), .int (nI cl), .ref (ad 78), .ref (ad 79), .ref (ad 80), .ref (ad 81), .ref (ad 82), .ref (ad 83), .int (nI qu), .ref (ad 84), .ref (ad 85), .ref (ad 86), .int (nI en), .int (nI kp), .ref (ad 87), .long hs])) (hVl : w 86 = .inl (cJ, 301, .inr (.inl vlf))) : MW l yX5_base (.code yX5_base cX5_base 3 (some .long)) ({ frames := 2, cells := 0, slots := 0, locals := 58 }) [.ref (ad 77)] D (tyL cI cJ cZ cD) ad 89 w sz (some (.long (lN (basF (msgF v en))))) (fun u => u = va_up w 77 (.inr (4, [.int cd, .int (nI n), .int (nI t), .int (nI cl), .ref (ad 78), .ref (ad 79), .ref (ad 80), .ref (ad 81), .ref (ad 82), .ref (ad 83), .int (nI qu), .ref (ad 84), .ref (ad 85), .ref (ad 86), .int (nI en), .int (nI kp), .ref (ad 87), .long (msgF v en)]))) := by
  refine MW.of (by decide) (Nat.le_of_ble_eq_true rfl) ?_
  intro p e s m below meth c ls hC hr hlocks hl hw
  obtain ⟨hx, hb, hml, hown, hts⟩ := id hC
  have hA : ∀ q, s.heap.size ≤ q → xA ad 89 s.heap.size q := fun q h => Or.inr h
  have hl : lv_has ls 3 [(0, .ref (ad 77))] := hl
  refine lv_aload_n hx hb dX5_base_0 rfl (lv_at hl 0 rfl) ?_
  refine x_callW1 (As := []) (rest := []) hC vf_X5_113 hw hA (by decide) hM rfl rfl (k5_message l _ _ _ _ _ _ _ _ vlf v hen hv hM hVl) ⟨rfl, rfl, Nat.le_of_ble_eq_true rfl, Nat.le_of_ble_eq_true rfl⟩ hl.1 (Nat.le_of_ble_eq_true rfl) dX5_base_1 ⟨Nat.zero_le _, Nat.zero_le _⟩ rfl (fun w_2 H locs hu_1 hw => ?_)
  have hc_3 : w_2 77 = .inr (4, [.int cd, .int (nI n), .int (nI t), .int (nI cl), .ref (ad 78), .ref (ad 79), .ref (ad 80), .ref (ad 81), .ref (ad 82), .ref (ad 83), .int (nI qu), .ref (ad 84), .ref (ad 85), .ref (ad 86), .int (nI en), .int (nI kp), .ref (ad 87), .long (msgF v en)]) := by rw [hu_1]; exact va_up_self _ _ _
  have hc_4 : w_2 86 = .inl (cJ, 301, .inr (.inl vlf)) := by rw [hu_1, va_up_ne _ _ (by decide)]; exact hVl
  have hmd := md_lt (msgF v en) (show 0 < 2147483578 by decide)
  have hmm := mul_lt62 (show md (msgF v en) 2147483578 + 1 < 2 ^ 31 by omega) (show md (msgF v en) 2147483578 + 1 < 2 ^ 31 by omega)
  refine lv_ldc2 hx hb hown (hts _ ct_X5_117) dX5_base_4 ?_
  refine x_callS (As := [.long (msgF v en), .long (lN 2147483578)]) (rest := []) hC sf_X5_55 (k5_rest l (msgF v en) 2147483578 (by decide) (by decide)) ⟨rfl, rfl, Nat.le_of_ble_eq_true rfl, Nat.le_of_ble_eq_true rfl⟩ hl.1 (Nat.le_of_ble_eq_true rfl) dX5_base_7 ⟨Nat.zero_le _, Nat.zero_le _⟩ rfl ?_
  refine lv_lconst (v := lN 1) hx hb dX5_base_10 (by decide) ?_
  refine t_ladd hx hb dX5_base_11 (v := lN (md (msgF v en) 2147483578 + 1)) (lN_add _ _) ?_
  refine lv_lstore_n (lv' := [(1, .long (lN (md (msgF v en) 2147483578 + 1))), (0, .ref (ad 77))]) hx hb dX5_base_12 rfl hl (by decide) rfl (fun ls hl => ?_)
  refine lv_lload_n hx hb dX5_base_13 rfl (lv_at hl 0 rfl) ?_
  refine lv_lload_n hx hb dX5_base_14 rfl (lv_at hl 0 rfl) ?_
  refine lv_lmul hx hb dX5_base_15 ?_
  rw [lN_mul]
  refine lv_ldc2 hx hb hown (hts _ ct_X5_93) dX5_base_16 ?_
  refine lv_lrem hx hb dX5_base_19 (by decide) ?_
  rw [pk_lRem (by omega) (by decide) (by decide)]
  exact x_wretL hx hb hr hlocks hw (by rw [hu_1]; first | done | (simp only [bx_uu]; done) | (simp only [bx_uu]; rfl) | rfl) dX5_base_20
set_option maxHeartbeats 4000000 in
set_option maxRecDepth 100000 in
theorem k5_challenge (l : Launch) {D : va_G} {cI cJ cZ cD : ClassId} {ad : Nat → Nat} {w : Nat → va_E} {sz : Nat} (cd : Int32) (n t cl qu en kp : Nat) (hs : Int64) (b o a f s2 : Nat) (hM : w 77 = .inr (4, [.int cd, .int (nI n), .int (nI t), .int (nI cl), .ref (ad 78), .ref (ad 79), .ref (ad 80), .ref (ad 81), .ref (ad 82), .ref (ad 83), .int (nI qu), .ref (ad 84), .ref (ad 85), .ref (ad 86), .int (nI en), .int (nI kp), .ref (ad 87), .long hs])) : MW l yX5_challenge (.code yX5_challenge cX5_challenge 11 (some .long)) ({ frames := 1, cells := 0, slots := 0, locals := 33 }) [.ref (ad 77), .long (lN b), .long (lN o), .long (lN a), .long (lN f), .long (lN s2)] D (tyL cI cJ cZ cD) ad 89 w sz (some (.long (lN (chF b o a f s2)))) (fun u => ∃ hs2, u = va_up w 77 (.inr (4, [.int cd, .int (nI n), .int (nI t), .int (nI cl), .ref (ad 78), .ref (ad 79), .ref (ad 80), .ref (ad 81), .ref (ad 82), .ref (ad 83), .int (nI qu), .ref (ad 84), .ref (ad 85), .ref (ad 86), .int (nI en), .int (nI kp), .ref (ad 87), .long hs2]))) := by
  refine MW.of (by decide) (Nat.le_of_ble_eq_true rfl) ?_
  intro p e s m below meth c ls hC hr hlocks hl hw
  obtain ⟨hx, hb, hml, hown, hts⟩ := id hC
  have hA : ∀ q, s.heap.size ≤ q → xA ad 89 s.heap.size q := fun q h => Or.inr h
  have hl : lv_has ls 11 [(0, .ref (ad 77)), (1, .long (lN b)), (3, .long (lN o)), (5, .long (lN a)), (7, .long (lN f)), (9, .long (lN s2))] := hl
  refine lv_aload_n hx hb dX5_challenge_0 rfl (lv_at hl 0 rfl) ?_
  refine lv_lconst (v := lN 0) hx hb dX5_challenge_1 (by decide) ?_
  refine pf_X5_45 (v := .long (lN 0)) hx hb hts hown hw (by decide) hM rfl rfl (Nat.le_of_ble_eq_true rfl) dX5_challenge_2 (fun w_1 H locs ew_2 hw => ?_)
  have hc_3 : w_1 77 = .inr (4, [.int cd, .int (nI n), .int (nI t), .int (nI cl), .ref (ad 78), .ref (ad 79), .ref (ad 80), .ref (ad 81), .ref (ad 82), .ref (ad 83), .int (nI qu), .ref (ad 84), .ref (ad 85), .ref (ad 86), .int (nI en), .int (nI kp), .ref (ad 87), .long (lN 0)]) := by rw [ew_2]; exact va_up_self _ _ _
  refine lv_aload_n hx hb dX5_challenge_5 rfl (lv_at hl 0 rfl) ?_
  refine lv_lload_n hx hb dX5_challenge_6 rfl (lv_at hl 1 rfl) ?_
  refine x_callW0 (As := [.long (lN b)]) (rest := []) hC vf_X5_87 hw hA (by decide) hc_3 rfl rfl (k5_hashes l _ _ _ _ _ _ _ _ (lN b) hc_3) ⟨rfl, rfl, Nat.le_of_ble_eq_true rfl, Nat.le_of_ble_eq_true rfl⟩ hl.1 (Nat.le_of_ble_eq_true rfl) dX5_challenge_7 ⟨Nat.zero_le _, Nat.zero_le _⟩ rfl (fun w_5 H locs hu_4 hw => ?_)
  have hc_6 : w_5 77 = .inr (4, [.int cd, .int (nI n), .int (nI t), .int (nI cl), .ref (ad 78), .ref (ad 79), .ref (ad 80), .ref (ad 81), .ref (ad 82), .ref (ad 83), .int (nI qu), .ref (ad 84), .ref (ad 85), .ref (ad 86), .int (nI en), .int (nI kp), .ref (ad 87), .long (stirF (lN 0) (lN b))]) := by rw [hu_4]; exact va_up_self _ _ _
  refine lv_aload_n hx hb dX5_challenge_10 rfl (lv_at hl 0 rfl) ?_
  refine lv_lload_n hx hb dX5_challenge_11 rfl (lv_at hl 2 rfl) ?_
  refine x_callW0 (As := [.long (lN o)]) (rest := []) hC vf_X5_87 hw hA (by decide) hc_6 rfl rfl (k5_hashes l _ _ _ _ _ _ _ _ (lN o) hc_6) ⟨rfl, rfl, Nat.le_of_ble_eq_true rfl, Nat.le_of_ble_eq_true rfl⟩ hl.1 (Nat.le_of_ble_eq_true rfl) dX5_challenge_12 ⟨Nat.zero_le _, Nat.zero_le _⟩ rfl (fun w_8 H locs hu_7 hw => ?_)
  have hc_9 : w_8 77 = .inr (4, [.int cd, .int (nI n), .int (nI t), .int (nI cl), .ref (ad 78), .ref (ad 79), .ref (ad 80), .ref (ad 81), .ref (ad 82), .ref (ad 83), .int (nI qu), .ref (ad 84), .ref (ad 85), .ref (ad 86), .int (nI en), .int (nI kp), .ref (ad 87), .long (stirF (stirF (lN 0) (lN b)) (lN o))]) := by rw [hu_7]; exact va_up_self _ _ _
  refine lv_aload_n hx hb dX5_challenge_15 rfl (lv_at hl 0 rfl) ?_
  refine lv_lload hx hb dX5_challenge_16 (lv_at hl 3 rfl) ?_
  refine x_callW0 (As := [.long (lN a)]) (rest := []) hC vf_X5_87 hw hA (by decide) hc_9 rfl rfl (k5_hashes l _ _ _ _ _ _ _ _ (lN a) hc_9) ⟨rfl, rfl, Nat.le_of_ble_eq_true rfl, Nat.le_of_ble_eq_true rfl⟩ hl.1 (Nat.le_of_ble_eq_true rfl) dX5_challenge_18 ⟨Nat.zero_le _, Nat.zero_le _⟩ rfl (fun w_11 H locs hu_10 hw => ?_)
  have hc_12 : w_11 77 = .inr (4, [.int cd, .int (nI n), .int (nI t), .int (nI cl), .ref (ad 78), .ref (ad 79), .ref (ad 80), .ref (ad 81), .ref (ad 82), .ref (ad 83), .int (nI qu), .ref (ad 84), .ref (ad 85), .ref (ad 86), .int (nI en), .int (nI kp), .ref (ad 87), .long (stirF (stirF (stirF (lN 0) (lN b)) (lN o)) (lN a))]) := by rw [hu_10]; exact va_up_self _ _ _
  refine lv_aload_n hx hb dX5_challenge_21 rfl (lv_at hl 0 rfl) ?_
  refine lv_lload hx hb dX5_challenge_22 (lv_at hl 4 rfl) ?_
  refine x_callW0 (As := [.long (lN f)]) (rest := []) hC vf_X5_87 hw hA (by decide) hc_12 rfl rfl (k5_hashes l _ _ _ _ _ _ _ _ (lN f) hc_12) ⟨rfl, rfl, Nat.le_of_ble_eq_true rfl, Nat.le_of_ble_eq_true rfl⟩ hl.1 (Nat.le_of_ble_eq_true rfl) dX5_challenge_24 ⟨Nat.zero_le _, Nat.zero_le _⟩ rfl (fun w_14 H locs hu_13 hw => ?_)
  have hc_15 : w_14 77 = .inr (4, [.int cd, .int (nI n), .int (nI t), .int (nI cl), .ref (ad 78), .ref (ad 79), .ref (ad 80), .ref (ad 81), .ref (ad 82), .ref (ad 83), .int (nI qu), .ref (ad 84), .ref (ad 85), .ref (ad 86), .int (nI en), .int (nI kp), .ref (ad 87), .long (stirF (stirF (stirF (stirF (lN 0) (lN b)) (lN o)) (lN a)) (lN f))]) := by rw [hu_13]; exact va_up_self _ _ _
  refine lv_aload_n hx hb dX5_challenge_27 rfl (lv_at hl 0 rfl) ?_
  refine lv_lload hx hb dX5_challenge_28 (lv_at hl 5 rfl) ?_
  refine x_callW0 (As := [.long (lN s2)]) (rest := []) hC vf_X5_87 hw hA (by decide) hc_15 rfl rfl (k5_hashes l _ _ _ _ _ _ _ _ (lN s2) hc_15) ⟨rfl, rfl, Nat.le_of_ble_eq_true rfl, Nat.le_of_ble_eq_true rfl⟩ hl.1 (Nat.le_of_ble_eq_true rfl) dX5_challenge_30 ⟨Nat.zero_le _, Nat.zero_le _⟩ rfl (fun w_17 H locs hu_16 hw => ?_)
  have hc_18 : w_17 77 = .inr (4, [.int cd, .int (nI n), .int (nI t), .int (nI cl), .ref (ad 78), .ref (ad 79), .ref (ad 80), .ref (ad 81), .ref (ad 82), .ref (ad 83), .int (nI qu), .ref (ad 84), .ref (ad 85), .ref (ad 86), .int (nI en), .int (nI kp), .ref (ad 87), .long (stirF (stirF (stirF (stirF (stirF (lN 0) (lN b)) (lN o)) (lN a)) (lN f)) (lN s2))]) := by rw [hu_16]; exact va_up_self _ _ _
  refine lv_aload_n hx hb dX5_challenge_33 rfl (lv_at hl 0 rfl) ?_
  refine gf_X5_45 hx hb hts hown hw (by decide) hc_18 rfl dX5_challenge_34 ?_
  refine lv_ldc2 hx hb hown (hts _ ct_X5_62) dX5_challenge_37 ?_
  refine x_callS (As := [.long (stirF (stirF (stirF (stirF (stirF (lN 0) (lN b)) (lN o)) (lN a)) (lN f)) (lN s2)), .long (lN 1073741789)]) (rest := []) hC sf_X5_55 (k5_rest l (stirF (stirF (stirF (stirF (stirF (lN 0) (lN b)) (lN o)) (lN a)) (lN f)) (lN s2)) 1073741789 (by decide) (by decide)) ⟨rfl, rfl, Nat.le_of_ble_eq_true rfl, Nat.le_of_ble_eq_true rfl⟩ hl.1 (Nat.le_of_ble_eq_true rfl) dX5_challenge_40 ⟨Nat.zero_le _, Nat.zero_le _⟩ rfl ?_
  exact x_wretL hx hb hr hlocks hw ⟨_, (by rw [hu_16, hu_13, hu_10, hu_7, hu_4, ew_2]; first | done | (simp only [bx_uu]; done) | (simp only [bx_uu]; rfl) | rfl)⟩ dX5_challenge_43
set_option maxHeartbeats 4000000 in
set_option maxRecDepth 100000 in
theorem k5_said0 (l : Launch) {D : va_G} {cI cJ cZ cD : ClassId} {ad : Nat → Nat} {w : Nat → va_E} {sz : Nat} (cd : Int32) (n t cl qu en kp : Nat) (hs : Int64) (kyf : Nat → Int64) (swf : Nat → Int64) (vlf : Nat → Int64) (v : Int64) (hen : en ≤ 300) (hv : vlf en = v) (k key pub : Nat) (hk : k < 17) (hkey : kyf k = lN key) (hpub : swf k = lN pub) (g1 : key < 1073741789) (g2 : pub < 2 ^ 31) (hM : w 77 = .inr (4, [.int cd, .int (nI n), .int (nI t), .int (nI cl), .ref (ad 78), .ref (ad 79), .ref (ad 80), .ref (ad 81), .ref (ad 82), .ref (ad 83), .int (nI qu), .ref (ad 84), .ref (ad 85), .ref (ad 86), .int (nI en), .int (nI kp), .ref (ad 87), .long hs])) (hKy : w 84 = .inl (cJ, 17, .inr (.inl kyf))) (hSw : w 85 = .inl (cJ, 17, .inr (.inl swf))) (hVl : w 86 = .inl (cJ, 301, .inr (.inl vlf))) : MW l yX5_said (.code yX5_said cX5_said 13 (some .long)) ({ frames := 3, cells := 0, slots := 0, locals := 88 }) [.ref (ad 77), .int (nI k), .int (nI 0)] D (tyL cI cJ cZ cD) ad 89 w sz (some (.long (lN (basF (msgF v en) ^ key % 2147483579)))) (fun u => ∃ hs2, u = va_up w 77 (.inr (4, [.int cd, .int (nI n), .int (nI t), .int (nI cl), .ref (ad 78), .ref (ad 79), .ref (ad 80), .ref (ad 81), .ref (ad 82), .ref (ad 83), .int (nI qu), .ref (ad 84), .ref (ad 85), .ref (ad 86), .int (nI en), .int (nI kp), .ref (ad 87), .long hs2]))) := by
  refine MW.of (by decide) (Nat.le_of_ble_eq_true rfl) ?_
  intro p e s m below meth c ls hC hr hlocks hl hw
  obtain ⟨hx, hb, hml, hown, hts⟩ := id hC
  have hA : ∀ q, s.heap.size ≤ q → xA ad 89 s.heap.size q := fun q h => Or.inr h
  have hl : lv_has ls 13 [(0, .ref (ad 77)), (1, .int (nI k)), (2, .int (nI 0))] := hl
  have hbl := basF_lt (msgF v en)
  refine lv_aload_n hx hb dX5_said_0 rfl (lv_at hl 0 rfl) ?_
  refine x_callW1 (As := []) (rest := []) hC vf_X5_119 hw hA (by decide) hM rfl rfl (k5_base l _ _ _ _ _ _ _ _ vlf v hen hv hM hVl) ⟨rfl, rfl, Nat.le_of_ble_eq_true rfl, Nat.le_of_ble_eq_true rfl⟩ hl.1 (Nat.le_of_ble_eq_true rfl) dX5_said_1 ⟨Nat.zero_le _, Nat.zero_le _⟩ rfl (fun w_2 H locs hu_1 hw => ?_)
  have hc_3 : w_2 77 = .inr (4, [.int cd, .int (nI n), .int (nI t), .int (nI cl), .ref (ad 78), .ref (ad 79), .ref (ad 80), .ref (ad 81), .ref (ad 82), .ref (ad 83), .int (nI qu), .ref (ad 84), .ref (ad 85), .ref (ad 86), .int (nI en), .int (nI kp), .ref (ad 87), .long (msgF v en)]) := by rw [hu_1]; exact va_up_self _ _ _
  have hc_4 : w_2 84 = .inl (cJ, 17, .inr (.inl kyf)) := by rw [hu_1, va_up_ne _ _ (by decide)]; exact hKy
  have hc_5 : w_2 85 = .inl (cJ, 17, .inr (.inl swf)) := by rw [hu_1, va_up_ne _ _ (by decide)]; exact hSw
  have hc_6 : w_2 86 = .inl (cJ, 301, .inr (.inl vlf)) := by rw [hu_1, va_up_ne _ _ (by decide)]; exact hVl
  refine lv_lstore_n (lv' := [(3, .long (lN (basF (msgF v en)))), (0, .ref (ad 77)), (1, .int (nI k)), (2, .int (nI 0))]) hx hb dX5_said_4 rfl hl (by decide) rfl (fun ls hl => ?_)
  refine lv_lload_n hx hb dX5_said_5 rfl (lv_at hl 0 rfl) ?_
  refine lv_aload_n hx hb dX5_said_6 rfl (lv_at hl 1 rfl) ?_
  refine gf_X5_29 hx hb hts hown hw (by decide) hc_3 rfl dX5_said_7 ?_
  refine lv_iload_n hx hb dX5_said_10 rfl (lv_at hl 2 rfl) ?_
  refine x_lald hx hb hw (by decide) 1 hc_4 rfl (j := k) (by omega) (by decide) hkey dX5_said_11 ?_
  refine lv_ldc2 hx hb hown (hts _ ct_X5_93) dX5_said_12 ?_
  refine x_callS (As := [.long (lN (basF (msgF v en))), .long (lN key), .long (lN 2147483579)]) (rest := []) hC sf_X5_95 (k5_power l (basF (msgF v en)) key 2147483579 hbl (by omega) (by decide) (by decide)) ⟨rfl, rfl, Nat.le_of_ble_eq_true rfl, Nat.le_of_ble_eq_true rfl⟩ hl.1 (Nat.le_of_ble_eq_true rfl) dX5_said_15 ⟨Nat.zero_le _, Nat.zero_le _⟩ rfl ?_
  refine lv_lstore (lv' := [(5, .long (lN (basF (msgF v en) ^ key % 2147483579))), (3, .long (lN (basF (msgF v en)))), (0, .ref (ad 77)), (1, .int (nI k)), (2, .int (nI 0))]) hx hb dX5_said_18 hl (by decide) rfl (fun ls hl => ?_)
  refine lv_iload_n hx hb dX5_said_20 rfl (lv_at hl 4 rfl) ?_
  refine lv_if_ne (tgt := 27) hx hb dX5_said_21 (by decide) (fun q1 => absurd (by decide) q1) (fun q1 => ?_)
  refine lv_lload hx hb dX5_said_24 (lv_at hl 0 rfl) ?_
  exact x_wretL hx hb hr hlocks hw ⟨_, (by rw [hu_1]; first | done | (simp only [bx_uu]; done) | (simp only [bx_uu]; rfl) | rfl)⟩ dX5_said_26
set_option maxHeartbeats 4000000 in
set_option maxRecDepth 100000 in
theorem k5_said1 (l : Launch) {D : va_G} {cI cJ cZ cD : ClassId} {ad : Nat → Nat} {w : Nat → va_E} {sz : Nat} (cd : Int32) (n t cl qu en kp : Nat) (hs : Int64) (kyf : Nat → Int64) (swf : Nat → Int64) (vlf : Nat → Int64) (v : Int64) (hen : en ≤ 300) (hv : vlf en = v) (k key pub : Nat) (hk : k < 17) (hkey : kyf k = lN key) (hpub : swf k = lN pub) (g1 : key < 1073741789) (g2 : pub < 2 ^ 31) (hM : w 77 = .inr (4, [.int cd, .int (nI n), .int (nI t), .int (nI cl), .ref (ad 78), .ref (ad 79), .ref (ad 80), .ref (ad 81), .ref (ad 82), .ref (ad 83), .int (nI qu), .ref (ad 84), .ref (ad 85), .ref (ad 86), .int (nI en), .int (nI kp), .ref (ad 87), .long hs])) (hKy : w 84 = .inl (cJ, 17, .inr (.inl kyf))) (hSw : w 85 = .inl (cJ, 17, .inr (.inl swf))) (hVl : w 86 = .inl (cJ, 301, .inr (.inl vlf))) : MW l yX5_said (.code yX5_said cX5_said 13 (some .long)) ({ frames := 3, cells := 0, slots := 0, locals := 88 }) [.ref (ad 77), .int (nI k), .int (nI 1)] D (tyL cI cJ cZ cD) ad 89 w sz (some (.long (lN (saC key pub (basF (msgF v en)) (msgF v en))))) (fun u => ∃ hs2, u = va_up w 77 (.inr (4, [.int cd, .int (nI n), .int (nI t), .int (nI cl), .ref (ad 78), .ref (ad 79), .ref (ad 80), .ref (ad 81), .ref (ad 82), .ref (ad 83), .int (nI qu), .ref (ad 84), .ref (ad 85), .ref (ad 86), .int (nI en), .int (nI kp), .ref (ad 87), .long hs2]))) := by
  refine MW.of (by decide) (Nat.le_of_ble_eq_true rfl) ?_
  intro p e s m below meth c ls hC hr hlocks hl hw
  obtain ⟨hx, hb, hml, hown, hts⟩ := id hC
  have hA : ∀ q, s.heap.size ≤ q → xA ad 89 s.heap.size q := fun q h => Or.inr h
  have hl : lv_has ls 13 [(0, .ref (ad 77)), (1, .int (nI k)), (2, .int (nI 1))] := hl
  have hbl := basF_lt (msgF v en)
  refine lv_aload_n hx hb dX5_said_0 rfl (lv_at hl 0 rfl) ?_
  refine x_callW1 (As := []) (rest := []) hC vf_X5_119 hw hA (by decide) hM rfl rfl (k5_base l _ _ _ _ _ _ _ _ vlf v hen hv hM hVl) ⟨rfl, rfl, Nat.le_of_ble_eq_true rfl, Nat.le_of_ble_eq_true rfl⟩ hl.1 (Nat.le_of_ble_eq_true rfl) dX5_said_1 ⟨Nat.zero_le _, Nat.zero_le _⟩ rfl (fun w_2 H locs hu_1 hw => ?_)
  have hc_3 : w_2 77 = .inr (4, [.int cd, .int (nI n), .int (nI t), .int (nI cl), .ref (ad 78), .ref (ad 79), .ref (ad 80), .ref (ad 81), .ref (ad 82), .ref (ad 83), .int (nI qu), .ref (ad 84), .ref (ad 85), .ref (ad 86), .int (nI en), .int (nI kp), .ref (ad 87), .long (msgF v en)]) := by rw [hu_1]; exact va_up_self _ _ _
  have hc_4 : w_2 84 = .inl (cJ, 17, .inr (.inl kyf)) := by rw [hu_1, va_up_ne _ _ (by decide)]; exact hKy
  have hc_5 : w_2 85 = .inl (cJ, 17, .inr (.inl swf)) := by rw [hu_1, va_up_ne _ _ (by decide)]; exact hSw
  have hc_6 : w_2 86 = .inl (cJ, 301, .inr (.inl vlf)) := by rw [hu_1, va_up_ne _ _ (by decide)]; exact hVl
  refine lv_lstore_n (lv' := [(3, .long (lN (basF (msgF v en)))), (0, .ref (ad 77)), (1, .int (nI k)), (2, .int (nI 1))]) hx hb dX5_said_4 rfl hl (by decide) rfl (fun ls hl => ?_)
  refine lv_lload_n hx hb dX5_said_5 rfl (lv_at hl 0 rfl) ?_
  refine lv_aload_n hx hb dX5_said_6 rfl (lv_at hl 1 rfl) ?_
  refine gf_X5_29 hx hb hts hown hw (by decide) hc_3 rfl dX5_said_7 ?_
  refine lv_iload_n hx hb dX5_said_10 rfl (lv_at hl 2 rfl) ?_
  refine x_lald hx hb hw (by decide) 1 hc_4 rfl (j := k) (by omega) (by decide) hkey dX5_said_11 ?_
  refine lv_ldc2 hx hb hown (hts _ ct_X5_93) dX5_said_12 ?_
  refine x_callS (As := [.long (lN (basF (msgF v en))), .long (lN key), .long (lN 2147483579)]) (rest := []) hC sf_X5_95 (k5_power l (basF (msgF v en)) key 2147483579 hbl (by omega) (by decide) (by decide)) ⟨rfl, rfl, Nat.le_of_ble_eq_true rfl, Nat.le_of_ble_eq_true rfl⟩ hl.1 (Nat.le_of_ble_eq_true rfl) dX5_said_15 ⟨Nat.zero_le _, Nat.zero_le _⟩ rfl ?_
  refine lv_lstore (lv' := [(5, .long (lN (basF (msgF v en) ^ key % 2147483579))), (3, .long (lN (basF (msgF v en)))), (0, .ref (ad 77)), (1, .int (nI k)), (2, .int (nI 1))]) hx hb dX5_said_18 hl (by decide) rfl (fun ls hl => ?_)
  refine lv_iload_n hx hb dX5_said_20 rfl (lv_at hl 4 rfl) ?_
  refine lv_if_ne (tgt := 27) hx hb dX5_said_21 (by decide) (fun q1 => ?_) (fun q1 => absurd q1 (by decide))
  refine lv_aload_n hx hb dX5_said_27 rfl (lv_at hl 2 rfl) ?_
  refine x_callW1 (As := []) (rest := []) hC vf_X5_113 hw hA (by decide) hc_3 rfl rfl (k5_message l _ _ _ _ _ _ _ _ vlf v hen hv hc_3 hc_6) ⟨rfl, rfl, Nat.le_of_ble_eq_true rfl, Nat.le_of_ble_eq_true rfl⟩ hl.1 (Nat.le_of_ble_eq_true rfl) dX5_said_28 ⟨Nat.zero_le _, Nat.zero_le _⟩ rfl (fun w_8 H locs hu_7 hw => ?_)
  have hc_9 : w_8 77 = .inr (4, [.int cd, .int (nI n), .int (nI t), .int (nI cl), .ref (ad 78), .ref (ad 79), .ref (ad 80), .ref (ad 81), .ref (ad 82), .ref (ad 83), .int (nI qu), .ref (ad 84), .ref (ad 85), .ref (ad 86), .int (nI en), .int (nI kp), .ref (ad 87), .long (msgF v en)]) := by rw [hu_7]; exact va_up_self _ _ _
  have hc_10 : w_8 84 = .inl (cJ, 17, .inr (.inl kyf)) := by rw [hu_7, va_up_ne _ _ (by decide)]; exact hc_4
  have hc_11 : w_8 85 = .inl (cJ, 17, .inr (.inl swf)) := by rw [hu_7, va_up_ne _ _ (by decide)]; exact hc_5
  have hc_12 : w_8 86 = .inl (cJ, 301, .inr (.inl vlf)) := by rw [hu_7, va_up_ne _ _ (by decide)]; exact hc_6
  refine lv_lstore (lv' := [(7, .long (msgF v en)), (5, .long (lN (basF (msgF v en) ^ key % 2147483579))), (3, .long (lN (basF (msgF v en)))), (0, .ref (ad 77)), (1, .int (nI k)), (2, .int (nI 1))]) hx hb dX5_said_31 hl (by decide) rfl (fun ls hl => ?_)
  refine lv_aload_n hx hb dX5_said_33 rfl (lv_at hl 3 rfl) ?_
  refine lv_lconst (v := lN 0) hx hb dX5_said_34 (by decide) ?_
  refine pf_X5_45 (v := .long (lN 0)) hx hb hts hown hw (by decide) hc_9 rfl rfl (Nat.le_of_ble_eq_true rfl) dX5_said_35 (fun w_13 H locs ew_14 hw => ?_)
  have hc_15 : w_13 77 = .inr (4, [.int cd, .int (nI n), .int (nI t), .int (nI cl), .ref (ad 78), .ref (ad 79), .ref (ad 80), .ref (ad 81), .ref (ad 82), .ref (ad 83), .int (nI qu), .ref (ad 84), .ref (ad 85), .ref (ad 86), .int (nI en), .int (nI kp), .ref (ad 87), .long (lN 0)]) := by rw [ew_14]; exact va_up_self _ _ _
  have hc_16 : w_13 84 = .inl (cJ, 17, .inr (.inl kyf)) := by rw [ew_14]; exact (va_up_ne _ _ (by omega)).trans hc_10
  have hc_17 : w_13 85 = .inl (cJ, 17, .inr (.inl swf)) := by rw [ew_14]; exact (va_up_ne _ _ (by omega)).trans hc_11
  have hc_18 : w_13 86 = .inl (cJ, 301, .inr (.inl vlf)) := by rw [ew_14]; exact (va_up_ne _ _ (by omega)).trans hc_12
  refine lv_aload_n hx hb dX5_said_38 rfl (lv_at hl 3 rfl) ?_
  refine lv_aload_n hx hb dX5_said_39 rfl (lv_at hl 3 rfl) ?_
  refine gf_X5_29 hx hb hts hown hw (by decide) hc_15 rfl dX5_said_40 ?_
  refine lv_iload_n hx hb dX5_said_43 rfl (lv_at hl 4 rfl) ?_
  refine x_lald hx hb hw (by decide) 1 hc_16 rfl (j := k) (by omega) (by decide) hkey dX5_said_44 ?_
  refine x_callW0 (As := [.long (lN key)]) (rest := []) hC vf_X5_87 hw hA (by decide) hc_15 rfl rfl (k5_hashes l _ _ _ _ _ _ _ _ (lN key) hc_15) ⟨rfl, rfl, Nat.le_of_ble_eq_true rfl, Nat.le_of_ble_eq_true rfl⟩ hl.1 (Nat.le_of_ble_eq_true rfl) dX5_said_45 ⟨Nat.zero_le _, Nat.zero_le _⟩ rfl (fun w_20 H locs hu_19 hw => ?_)
  have hc_21 : w_20 77 = .inr (4, [.int cd, .int (nI n), .int (nI t), .int (nI cl), .ref (ad 78), .ref (ad 79), .ref (ad 80), .ref (ad 81), .ref (ad 82), .ref (ad 83), .int (nI qu), .ref (ad 84), .ref (ad 85), .ref (ad 86), .int (nI en), .int (nI kp), .ref (ad 87), .long (stirF (lN 0) (lN key))]) := by rw [hu_19]; exact va_up_self _ _ _
  have hc_22 : w_20 84 = .inl (cJ, 17, .inr (.inl kyf)) := by rw [hu_19, va_up_ne _ _ (by decide)]; exact hc_16
  have hc_23 : w_20 85 = .inl (cJ, 17, .inr (.inl swf)) := by rw [hu_19, va_up_ne _ _ (by decide)]; exact hc_17
  have hc_24 : w_20 86 = .inl (cJ, 301, .inr (.inl vlf)) := by rw [hu_19, va_up_ne _ _ (by decide)]; exact hc_18
  refine lv_aload_n hx hb dX5_said_48 rfl (lv_at hl 3 rfl) ?_
  refine lv_lload hx hb dX5_said_49 (lv_at hl 0 rfl) ?_
  refine x_callW0 (As := [.long (msgF v en)]) (rest := []) hC vf_X5_87 hw hA (by decide) hc_21 rfl rfl (k5_hashes l _ _ _ _ _ _ _ _ (msgF v en) hc_21) ⟨rfl, rfl, Nat.le_of_ble_eq_true rfl, Nat.le_of_ble_eq_true rfl⟩ hl.1 (Nat.le_of_ble_eq_true rfl) dX5_said_51 ⟨Nat.zero_le _, Nat.zero_le _⟩ rfl (fun w_26 H locs hu_25 hw => ?_)
  have hc_27 : w_26 77 = .inr (4, [.int cd, .int (nI n), .int (nI t), .int (nI cl), .ref (ad 78), .ref (ad 79), .ref (ad 80), .ref (ad 81), .ref (ad 82), .ref (ad 83), .int (nI qu), .ref (ad 84), .ref (ad 85), .ref (ad 86), .int (nI en), .int (nI kp), .ref (ad 87), .long (stirF (stirF (lN 0) (lN key)) (msgF v en))]) := by rw [hu_25]; exact va_up_self _ _ _
  have hc_28 : w_26 84 = .inl (cJ, 17, .inr (.inl kyf)) := by rw [hu_25, va_up_ne _ _ (by decide)]; exact hc_22
  have hc_29 : w_26 85 = .inl (cJ, 17, .inr (.inl swf)) := by rw [hu_25, va_up_ne _ _ (by decide)]; exact hc_23
  have hc_30 : w_26 86 = .inl (cJ, 301, .inr (.inl vlf)) := by rw [hu_25, va_up_ne _ _ (by decide)]; exact hc_24
  refine lv_aload_n hx hb dX5_said_54 rfl (lv_at hl 3 rfl) ?_
  refine gf_X5_45 hx hb hts hown hw (by decide) hc_27 rfl dX5_said_55 ?_
  refine lv_ldc2 hx hb hown (hts _ ct_X5_62) dX5_said_58 ?_
  refine x_callS (As := [.long (stirF (stirF (lN 0) (lN key)) (msgF v en)), .long (lN 1073741789)]) (rest := []) hC sf_X5_55 (k5_rest l (stirF (stirF (lN 0) (lN key)) (msgF v en)) 1073741789 (by decide) (by decide)) ⟨rfl, rfl, Nat.le_of_ble_eq_true rfl, Nat.le_of_ble_eq_true rfl⟩ hl.1 (Nat.le_of_ble_eq_true rfl) dX5_said_61 ⟨Nat.zero_le _, Nat.zero_le _⟩ rfl ?_
  have hwl := saW_lt key (msgF v en)
  refine lv_lstore (lv' := [(9, .long (lN (saW key (msgF v en)))), (7, .long (msgF v en)), (5, .long (lN (basF (msgF v en) ^ key % 2147483579))), (3, .long (lN (basF (msgF v en)))), (0, .ref (ad 77)), (1, .int (nI k)), (2, .int (nI 1))]) hx hb dX5_said_64 hl (by decide) rfl (fun ls hl => ?_)
  refine lv_aload_n hx hb dX5_said_66 rfl (lv_at hl 4 rfl) ?_
  refine lv_lload_n hx hb dX5_said_67 rfl (lv_at hl 3 rfl) ?_
  refine lv_aload_n hx hb dX5_said_68 rfl (lv_at hl 4 rfl) ?_
  refine gf_X5_32 hx hb hts hown hw (by decide) hc_27 rfl dX5_said_69 ?_
  refine lv_iload_n hx hb dX5_said_72 rfl (lv_at hl 5 rfl) ?_
  refine x_lald hx hb hw (by decide) 1 hc_29 rfl (j := k) (by omega) (by decide) hpub dX5_said_73 ?_
  refine lv_lload hx hb dX5_said_74 (lv_at hl 2 rfl) ?_
  refine lv_ldc2 hx hb hown (hts _ ct_X5_91) dX5_said_76 ?_
  refine lv_lload hx hb dX5_said_79 (lv_at hl 0 rfl) ?_
  refine lv_ldc2 hx hb hown (hts _ ct_X5_93) dX5_said_81 ?_
  refine x_callS (As := [.long (lN 4), .long (lN (saW key (msgF v en))), .long (lN 2147483579)]) (rest := [.long (lN (basF (msgF v en) ^ key % 2147483579)), .long (lN pub), .long (lN (basF (msgF v en))), .ref (ad 77)]) hC sf_X5_95 (k5_power l 4 (saW key (msgF v en)) 2147483579 (by decide) (by omega) (by decide) (by decide)) ⟨rfl, rfl, Nat.le_of_ble_eq_true rfl, Nat.le_of_ble_eq_true rfl⟩ hl.1 (Nat.le_of_ble_eq_true rfl) dX5_said_84 ⟨Nat.zero_le _, Nat.zero_le _⟩ rfl ?_
  refine lv_lload_n hx hb dX5_said_87 rfl (lv_at hl 3 rfl) ?_
  refine lv_lload hx hb dX5_said_88 (lv_at hl 0 rfl) ?_
  refine lv_ldc2 hx hb hown (hts _ ct_X5_93) dX5_said_90 ?_
  refine x_callS (As := [.long (lN (basF (msgF v en))), .long (lN (saW key (msgF v en))), .long (lN 2147483579)]) (rest := [.long (lN (4 ^ saW key (msgF v en) % 2147483579)), .long (lN (basF (msgF v en) ^ key % 2147483579)), .long (lN pub), .long (lN (basF (msgF v en))), .ref (ad 77)]) hC sf_X5_95 (k5_power l (basF (msgF v en)) (saW key (msgF v en)) 2147483579 hbl (by omega) (by decide) (by decide)) ⟨rfl, rfl, Nat.le_of_ble_eq_true rfl, Nat.le_of_ble_eq_true rfl⟩ hl.1 (Nat.le_of_ble_eq_true rfl) dX5_said_93 ⟨Nat.zero_le _, Nat.zero_le _⟩ rfl ?_
  refine x_callW1 (As := [.long (lN (basF (msgF v en))), .long (lN pub), .long (lN (basF (msgF v en) ^ key % 2147483579)), .long (lN (4 ^ saW key (msgF v en) % 2147483579)), .long (lN (basF (msgF v en) ^ saW key (msgF v en) % 2147483579))]) (rest := []) hC vf_X5_122 hw hA (by decide) hc_27 rfl rfl (k5_challenge l _ _ _ _ _ _ _ _ (basF (msgF v en)) pub (basF (msgF v en) ^ key % 2147483579) (4 ^ saW key (msgF v en) % 2147483579) (basF (msgF v en) ^ saW key (msgF v en) % 2147483579) hc_27) ⟨rfl, rfl, Nat.le_of_ble_eq_true rfl, Nat.le_of_ble_eq_true rfl⟩ hl.1 (Nat.le_of_ble_eq_true rfl) dX5_said_96 ⟨Nat.zero_le _, Nat.zero_le _⟩ rfl (fun w_32 H locs hu_31 hw => ?_)
  obtain ⟨hs9, hu_31⟩ := hu_31
  have hc_33 : w_32 77 = .inr (4, [.int cd, .int (nI n), .int (nI t), .int (nI cl), .ref (ad 78), .ref (ad 79), .ref (ad 80), .ref (ad 81), .ref (ad 82), .ref (ad 83), .int (nI qu), .ref (ad 84), .ref (ad 85), .ref (ad 86), .int (nI en), .int (nI kp), .ref (ad 87), .long hs9]) := by rw [hu_31]; exact va_up_self _ _ _
  have hc_34 : w_32 84 = .inl (cJ, 17, .inr (.inl kyf)) := by rw [hu_31, va_up_ne _ _ (by decide)]; exact hc_28
  have hc_35 : w_32 85 = .inl (cJ, 17, .inr (.inl swf)) := by rw [hu_31, va_up_ne _ _ (by decide)]; exact hc_29
  have hc_36 : w_32 86 = .inl (cJ, 301, .inr (.inl vlf)) := by rw [hu_31, va_up_ne _ _ (by decide)]; exact hc_30
  have hcl9 : saC key pub (basF (msgF v en)) (msgF v en) < 1073741789 := chF_lt _ _ _ _ _
  have hck := mul_lt60 hcl9 g1
  refine lv_lstore (lv' := [(11, .long (lN (saC key pub (basF (msgF v en)) (msgF v en)))), (9, .long (lN (saW key (msgF v en)))), (7, .long (msgF v en)), (5, .long (lN (basF (msgF v en) ^ key % 2147483579))), (3, .long (lN (basF (msgF v en)))), (0, .ref (ad 77)), (1, .int (nI k)), (2, .int (nI 1))]) hx hb dX5_said_99 hl (by decide) rfl (fun ls hl => ?_)
  refine lv_iload_n hx hb dX5_said_101 rfl (lv_at hl 7 rfl) ?_
  refine lv_iconst (v := nI 1) hx hb dX5_said_102 (by decide) ?_
  refine lv_icmp_ne (tgt := 111) hx hb dX5_said_103 (by decide) (fun q2 => absurd (by decide) q2) (fun q2 => ?_)
  refine lv_lload hx hb dX5_said_106 (lv_at hl 0 rfl) ?_
  refine lv_goto (tgt := 127) hx hb dX5_said_108 (by decide) ?_
  exact x_wretL hx hb hr hlocks hw ⟨_, (by rw [hu_31, hu_25, hu_19, ew_14, hu_7, hu_1]; first | done | (simp only [bx_uu]; done) | (simp only [bx_uu]; rfl) | rfl)⟩ dX5_said_127
set_option maxHeartbeats 4000000 in
set_option maxRecDepth 100000 in
theorem k5_said2 (l : Launch) {D : va_G} {cI cJ cZ cD : ClassId} {ad : Nat → Nat} {w : Nat → va_E} {sz : Nat} (cd : Int32) (n t cl qu en kp : Nat) (hs : Int64) (kyf : Nat → Int64) (swf : Nat → Int64) (vlf : Nat → Int64) (v : Int64) (hen : en ≤ 300) (hv : vlf en = v) (k key pub : Nat) (hk : k < 17) (hkey : kyf k = lN key) (hpub : swf k = lN pub) (g1 : key < 1073741789) (g2 : pub < 2 ^ 31) (hM : w 77 = .inr (4, [.int cd, .int (nI n), .int (nI t), .int (nI cl), .ref (ad 78), .ref (ad 79), .ref (ad 80), .ref (ad 81), .ref (ad 82), .ref (ad 83), .int (nI qu), .ref (ad 84), .ref (ad 85), .ref (ad 86), .int (nI en), .int (nI kp), .ref (ad 87), .long hs])) (hKy : w 84 = .inl (cJ, 17, .inr (.inl kyf))) (hSw : w 85 = .inl (cJ, 17, .inr (.inl swf))) (hVl : w 86 = .inl (cJ, 301, .inr (.inl vlf))) : MW l yX5_said (.code yX5_said cX5_said 13 (some .long)) ({ frames := 3, cells := 0, slots := 0, locals := 88 }) [.ref (ad 77), .int (nI k), .int (nI 2)] D (tyL cI cJ cZ cD) ad 89 w sz (some (.long (lN (saZ key pub (basF (msgF v en)) (msgF v en))))) (fun u => ∃ hs2, u = va_up w 77 (.inr (4, [.int cd, .int (nI n), .int (nI t), .int (nI cl), .ref (ad 78), .ref (ad 79), .ref (ad 80), .ref (ad 81), .ref (ad 82), .ref (ad 83), .int (nI qu), .ref (ad 84), .ref (ad 85), .ref (ad 86), .int (nI en), .int (nI kp), .ref (ad 87), .long hs2]))) := by
  refine MW.of (by decide) (Nat.le_of_ble_eq_true rfl) ?_
  intro p e s m below meth c ls hC hr hlocks hl hw
  obtain ⟨hx, hb, hml, hown, hts⟩ := id hC
  have hA : ∀ q, s.heap.size ≤ q → xA ad 89 s.heap.size q := fun q h => Or.inr h
  have hl : lv_has ls 13 [(0, .ref (ad 77)), (1, .int (nI k)), (2, .int (nI 2))] := hl
  have hbl := basF_lt (msgF v en)
  refine lv_aload_n hx hb dX5_said_0 rfl (lv_at hl 0 rfl) ?_
  refine x_callW1 (As := []) (rest := []) hC vf_X5_119 hw hA (by decide) hM rfl rfl (k5_base l _ _ _ _ _ _ _ _ vlf v hen hv hM hVl) ⟨rfl, rfl, Nat.le_of_ble_eq_true rfl, Nat.le_of_ble_eq_true rfl⟩ hl.1 (Nat.le_of_ble_eq_true rfl) dX5_said_1 ⟨Nat.zero_le _, Nat.zero_le _⟩ rfl (fun w_2 H locs hu_1 hw => ?_)
  have hc_3 : w_2 77 = .inr (4, [.int cd, .int (nI n), .int (nI t), .int (nI cl), .ref (ad 78), .ref (ad 79), .ref (ad 80), .ref (ad 81), .ref (ad 82), .ref (ad 83), .int (nI qu), .ref (ad 84), .ref (ad 85), .ref (ad 86), .int (nI en), .int (nI kp), .ref (ad 87), .long (msgF v en)]) := by rw [hu_1]; exact va_up_self _ _ _
  have hc_4 : w_2 84 = .inl (cJ, 17, .inr (.inl kyf)) := by rw [hu_1, va_up_ne _ _ (by decide)]; exact hKy
  have hc_5 : w_2 85 = .inl (cJ, 17, .inr (.inl swf)) := by rw [hu_1, va_up_ne _ _ (by decide)]; exact hSw
  have hc_6 : w_2 86 = .inl (cJ, 301, .inr (.inl vlf)) := by rw [hu_1, va_up_ne _ _ (by decide)]; exact hVl
  refine lv_lstore_n (lv' := [(3, .long (lN (basF (msgF v en)))), (0, .ref (ad 77)), (1, .int (nI k)), (2, .int (nI 2))]) hx hb dX5_said_4 rfl hl (by decide) rfl (fun ls hl => ?_)
  refine lv_lload_n hx hb dX5_said_5 rfl (lv_at hl 0 rfl) ?_
  refine lv_aload_n hx hb dX5_said_6 rfl (lv_at hl 1 rfl) ?_
  refine gf_X5_29 hx hb hts hown hw (by decide) hc_3 rfl dX5_said_7 ?_
  refine lv_iload_n hx hb dX5_said_10 rfl (lv_at hl 2 rfl) ?_
  refine x_lald hx hb hw (by decide) 1 hc_4 rfl (j := k) (by omega) (by decide) hkey dX5_said_11 ?_
  refine lv_ldc2 hx hb hown (hts _ ct_X5_93) dX5_said_12 ?_
  refine x_callS (As := [.long (lN (basF (msgF v en))), .long (lN key), .long (lN 2147483579)]) (rest := []) hC sf_X5_95 (k5_power l (basF (msgF v en)) key 2147483579 hbl (by omega) (by decide) (by decide)) ⟨rfl, rfl, Nat.le_of_ble_eq_true rfl, Nat.le_of_ble_eq_true rfl⟩ hl.1 (Nat.le_of_ble_eq_true rfl) dX5_said_15 ⟨Nat.zero_le _, Nat.zero_le _⟩ rfl ?_
  refine lv_lstore (lv' := [(5, .long (lN (basF (msgF v en) ^ key % 2147483579))), (3, .long (lN (basF (msgF v en)))), (0, .ref (ad 77)), (1, .int (nI k)), (2, .int (nI 2))]) hx hb dX5_said_18 hl (by decide) rfl (fun ls hl => ?_)
  refine lv_iload_n hx hb dX5_said_20 rfl (lv_at hl 4 rfl) ?_
  refine lv_if_ne (tgt := 27) hx hb dX5_said_21 (by decide) (fun q1 => ?_) (fun q1 => absurd q1 (by decide))
  refine lv_aload_n hx hb dX5_said_27 rfl (lv_at hl 2 rfl) ?_
  refine x_callW1 (As := []) (rest := []) hC vf_X5_113 hw hA (by decide) hc_3 rfl rfl (k5_message l _ _ _ _ _ _ _ _ vlf v hen hv hc_3 hc_6) ⟨rfl, rfl, Nat.le_of_ble_eq_true rfl, Nat.le_of_ble_eq_true rfl⟩ hl.1 (Nat.le_of_ble_eq_true rfl) dX5_said_28 ⟨Nat.zero_le _, Nat.zero_le _⟩ rfl (fun w_8 H locs hu_7 hw => ?_)
  have hc_9 : w_8 77 = .inr (4, [.int cd, .int (nI n), .int (nI t), .int (nI cl), .ref (ad 78), .ref (ad 79), .ref (ad 80), .ref (ad 81), .ref (ad 82), .ref (ad 83), .int (nI qu), .ref (ad 84), .ref (ad 85), .ref (ad 86), .int (nI en), .int (nI kp), .ref (ad 87), .long (msgF v en)]) := by rw [hu_7]; exact va_up_self _ _ _
  have hc_10 : w_8 84 = .inl (cJ, 17, .inr (.inl kyf)) := by rw [hu_7, va_up_ne _ _ (by decide)]; exact hc_4
  have hc_11 : w_8 85 = .inl (cJ, 17, .inr (.inl swf)) := by rw [hu_7, va_up_ne _ _ (by decide)]; exact hc_5
  have hc_12 : w_8 86 = .inl (cJ, 301, .inr (.inl vlf)) := by rw [hu_7, va_up_ne _ _ (by decide)]; exact hc_6
  refine lv_lstore (lv' := [(7, .long (msgF v en)), (5, .long (lN (basF (msgF v en) ^ key % 2147483579))), (3, .long (lN (basF (msgF v en)))), (0, .ref (ad 77)), (1, .int (nI k)), (2, .int (nI 2))]) hx hb dX5_said_31 hl (by decide) rfl (fun ls hl => ?_)
  refine lv_aload_n hx hb dX5_said_33 rfl (lv_at hl 3 rfl) ?_
  refine lv_lconst (v := lN 0) hx hb dX5_said_34 (by decide) ?_
  refine pf_X5_45 (v := .long (lN 0)) hx hb hts hown hw (by decide) hc_9 rfl rfl (Nat.le_of_ble_eq_true rfl) dX5_said_35 (fun w_13 H locs ew_14 hw => ?_)
  have hc_15 : w_13 77 = .inr (4, [.int cd, .int (nI n), .int (nI t), .int (nI cl), .ref (ad 78), .ref (ad 79), .ref (ad 80), .ref (ad 81), .ref (ad 82), .ref (ad 83), .int (nI qu), .ref (ad 84), .ref (ad 85), .ref (ad 86), .int (nI en), .int (nI kp), .ref (ad 87), .long (lN 0)]) := by rw [ew_14]; exact va_up_self _ _ _
  have hc_16 : w_13 84 = .inl (cJ, 17, .inr (.inl kyf)) := by rw [ew_14]; exact (va_up_ne _ _ (by omega)).trans hc_10
  have hc_17 : w_13 85 = .inl (cJ, 17, .inr (.inl swf)) := by rw [ew_14]; exact (va_up_ne _ _ (by omega)).trans hc_11
  have hc_18 : w_13 86 = .inl (cJ, 301, .inr (.inl vlf)) := by rw [ew_14]; exact (va_up_ne _ _ (by omega)).trans hc_12
  refine lv_aload_n hx hb dX5_said_38 rfl (lv_at hl 3 rfl) ?_
  refine lv_aload_n hx hb dX5_said_39 rfl (lv_at hl 3 rfl) ?_
  refine gf_X5_29 hx hb hts hown hw (by decide) hc_15 rfl dX5_said_40 ?_
  refine lv_iload_n hx hb dX5_said_43 rfl (lv_at hl 4 rfl) ?_
  refine x_lald hx hb hw (by decide) 1 hc_16 rfl (j := k) (by omega) (by decide) hkey dX5_said_44 ?_
  refine x_callW0 (As := [.long (lN key)]) (rest := []) hC vf_X5_87 hw hA (by decide) hc_15 rfl rfl (k5_hashes l _ _ _ _ _ _ _ _ (lN key) hc_15) ⟨rfl, rfl, Nat.le_of_ble_eq_true rfl, Nat.le_of_ble_eq_true rfl⟩ hl.1 (Nat.le_of_ble_eq_true rfl) dX5_said_45 ⟨Nat.zero_le _, Nat.zero_le _⟩ rfl (fun w_20 H locs hu_19 hw => ?_)
  have hc_21 : w_20 77 = .inr (4, [.int cd, .int (nI n), .int (nI t), .int (nI cl), .ref (ad 78), .ref (ad 79), .ref (ad 80), .ref (ad 81), .ref (ad 82), .ref (ad 83), .int (nI qu), .ref (ad 84), .ref (ad 85), .ref (ad 86), .int (nI en), .int (nI kp), .ref (ad 87), .long (stirF (lN 0) (lN key))]) := by rw [hu_19]; exact va_up_self _ _ _
  have hc_22 : w_20 84 = .inl (cJ, 17, .inr (.inl kyf)) := by rw [hu_19, va_up_ne _ _ (by decide)]; exact hc_16
  have hc_23 : w_20 85 = .inl (cJ, 17, .inr (.inl swf)) := by rw [hu_19, va_up_ne _ _ (by decide)]; exact hc_17
  have hc_24 : w_20 86 = .inl (cJ, 301, .inr (.inl vlf)) := by rw [hu_19, va_up_ne _ _ (by decide)]; exact hc_18
  refine lv_aload_n hx hb dX5_said_48 rfl (lv_at hl 3 rfl) ?_
  refine lv_lload hx hb dX5_said_49 (lv_at hl 0 rfl) ?_
  refine x_callW0 (As := [.long (msgF v en)]) (rest := []) hC vf_X5_87 hw hA (by decide) hc_21 rfl rfl (k5_hashes l _ _ _ _ _ _ _ _ (msgF v en) hc_21) ⟨rfl, rfl, Nat.le_of_ble_eq_true rfl, Nat.le_of_ble_eq_true rfl⟩ hl.1 (Nat.le_of_ble_eq_true rfl) dX5_said_51 ⟨Nat.zero_le _, Nat.zero_le _⟩ rfl (fun w_26 H locs hu_25 hw => ?_)
  have hc_27 : w_26 77 = .inr (4, [.int cd, .int (nI n), .int (nI t), .int (nI cl), .ref (ad 78), .ref (ad 79), .ref (ad 80), .ref (ad 81), .ref (ad 82), .ref (ad 83), .int (nI qu), .ref (ad 84), .ref (ad 85), .ref (ad 86), .int (nI en), .int (nI kp), .ref (ad 87), .long (stirF (stirF (lN 0) (lN key)) (msgF v en))]) := by rw [hu_25]; exact va_up_self _ _ _
  have hc_28 : w_26 84 = .inl (cJ, 17, .inr (.inl kyf)) := by rw [hu_25, va_up_ne _ _ (by decide)]; exact hc_22
  have hc_29 : w_26 85 = .inl (cJ, 17, .inr (.inl swf)) := by rw [hu_25, va_up_ne _ _ (by decide)]; exact hc_23
  have hc_30 : w_26 86 = .inl (cJ, 301, .inr (.inl vlf)) := by rw [hu_25, va_up_ne _ _ (by decide)]; exact hc_24
  refine lv_aload_n hx hb dX5_said_54 rfl (lv_at hl 3 rfl) ?_
  refine gf_X5_45 hx hb hts hown hw (by decide) hc_27 rfl dX5_said_55 ?_
  refine lv_ldc2 hx hb hown (hts _ ct_X5_62) dX5_said_58 ?_
  refine x_callS (As := [.long (stirF (stirF (lN 0) (lN key)) (msgF v en)), .long (lN 1073741789)]) (rest := []) hC sf_X5_55 (k5_rest l (stirF (stirF (lN 0) (lN key)) (msgF v en)) 1073741789 (by decide) (by decide)) ⟨rfl, rfl, Nat.le_of_ble_eq_true rfl, Nat.le_of_ble_eq_true rfl⟩ hl.1 (Nat.le_of_ble_eq_true rfl) dX5_said_61 ⟨Nat.zero_le _, Nat.zero_le _⟩ rfl ?_
  have hwl := saW_lt key (msgF v en)
  refine lv_lstore (lv' := [(9, .long (lN (saW key (msgF v en)))), (7, .long (msgF v en)), (5, .long (lN (basF (msgF v en) ^ key % 2147483579))), (3, .long (lN (basF (msgF v en)))), (0, .ref (ad 77)), (1, .int (nI k)), (2, .int (nI 2))]) hx hb dX5_said_64 hl (by decide) rfl (fun ls hl => ?_)
  refine lv_aload_n hx hb dX5_said_66 rfl (lv_at hl 4 rfl) ?_
  refine lv_lload_n hx hb dX5_said_67 rfl (lv_at hl 3 rfl) ?_
  refine lv_aload_n hx hb dX5_said_68 rfl (lv_at hl 4 rfl) ?_
  refine gf_X5_32 hx hb hts hown hw (by decide) hc_27 rfl dX5_said_69 ?_
  refine lv_iload_n hx hb dX5_said_72 rfl (lv_at hl 5 rfl) ?_
  refine x_lald hx hb hw (by decide) 1 hc_29 rfl (j := k) (by omega) (by decide) hpub dX5_said_73 ?_
  refine lv_lload hx hb dX5_said_74 (lv_at hl 2 rfl) ?_
  refine lv_ldc2 hx hb hown (hts _ ct_X5_91) dX5_said_76 ?_
  refine lv_lload hx hb dX5_said_79 (lv_at hl 0 rfl) ?_
  refine lv_ldc2 hx hb hown (hts _ ct_X5_93) dX5_said_81 ?_
  refine x_callS (As := [.long (lN 4), .long (lN (saW key (msgF v en))), .long (lN 2147483579)]) (rest := [.long (lN (basF (msgF v en) ^ key % 2147483579)), .long (lN pub), .long (lN (basF (msgF v en))), .ref (ad 77)]) hC sf_X5_95 (k5_power l 4 (saW key (msgF v en)) 2147483579 (by decide) (by omega) (by decide) (by decide)) ⟨rfl, rfl, Nat.le_of_ble_eq_true rfl, Nat.le_of_ble_eq_true rfl⟩ hl.1 (Nat.le_of_ble_eq_true rfl) dX5_said_84 ⟨Nat.zero_le _, Nat.zero_le _⟩ rfl ?_
  refine lv_lload_n hx hb dX5_said_87 rfl (lv_at hl 3 rfl) ?_
  refine lv_lload hx hb dX5_said_88 (lv_at hl 0 rfl) ?_
  refine lv_ldc2 hx hb hown (hts _ ct_X5_93) dX5_said_90 ?_
  refine x_callS (As := [.long (lN (basF (msgF v en))), .long (lN (saW key (msgF v en))), .long (lN 2147483579)]) (rest := [.long (lN (4 ^ saW key (msgF v en) % 2147483579)), .long (lN (basF (msgF v en) ^ key % 2147483579)), .long (lN pub), .long (lN (basF (msgF v en))), .ref (ad 77)]) hC sf_X5_95 (k5_power l (basF (msgF v en)) (saW key (msgF v en)) 2147483579 hbl (by omega) (by decide) (by decide)) ⟨rfl, rfl, Nat.le_of_ble_eq_true rfl, Nat.le_of_ble_eq_true rfl⟩ hl.1 (Nat.le_of_ble_eq_true rfl) dX5_said_93 ⟨Nat.zero_le _, Nat.zero_le _⟩ rfl ?_
  refine x_callW1 (As := [.long (lN (basF (msgF v en))), .long (lN pub), .long (lN (basF (msgF v en) ^ key % 2147483579)), .long (lN (4 ^ saW key (msgF v en) % 2147483579)), .long (lN (basF (msgF v en) ^ saW key (msgF v en) % 2147483579))]) (rest := []) hC vf_X5_122 hw hA (by decide) hc_27 rfl rfl (k5_challenge l _ _ _ _ _ _ _ _ (basF (msgF v en)) pub (basF (msgF v en) ^ key % 2147483579) (4 ^ saW key (msgF v en) % 2147483579) (basF (msgF v en) ^ saW key (msgF v en) % 2147483579) hc_27) ⟨rfl, rfl, Nat.le_of_ble_eq_true rfl, Nat.le_of_ble_eq_true rfl⟩ hl.1 (Nat.le_of_ble_eq_true rfl) dX5_said_96 ⟨Nat.zero_le _, Nat.zero_le _⟩ rfl (fun w_32 H locs hu_31 hw => ?_)
  obtain ⟨hs9, hu_31⟩ := hu_31
  have hc_33 : w_32 77 = .inr (4, [.int cd, .int (nI n), .int (nI t), .int (nI cl), .ref (ad 78), .ref (ad 79), .ref (ad 80), .ref (ad 81), .ref (ad 82), .ref (ad 83), .int (nI qu), .ref (ad 84), .ref (ad 85), .ref (ad 86), .int (nI en), .int (nI kp), .ref (ad 87), .long hs9]) := by rw [hu_31]; exact va_up_self _ _ _
  have hc_34 : w_32 84 = .inl (cJ, 17, .inr (.inl kyf)) := by rw [hu_31, va_up_ne _ _ (by decide)]; exact hc_28
  have hc_35 : w_32 85 = .inl (cJ, 17, .inr (.inl swf)) := by rw [hu_31, va_up_ne _ _ (by decide)]; exact hc_29
  have hc_36 : w_32 86 = .inl (cJ, 301, .inr (.inl vlf)) := by rw [hu_31, va_up_ne _ _ (by decide)]; exact hc_30
  have hcl9 : saC key pub (basF (msgF v en)) (msgF v en) < 1073741789 := chF_lt _ _ _ _ _
  have hck := mul_lt60 hcl9 g1
  refine lv_lstore (lv' := [(11, .long (lN (saC key pub (basF (msgF v en)) (msgF v en)))), (9, .long (lN (saW key (msgF v en)))), (7, .long (msgF v en)), (5, .long (lN (basF (msgF v en) ^ key % 2147483579))), (3, .long (lN (basF (msgF v en)))), (0, .ref (ad 77)), (1, .int (nI k)), (2, .int (nI 2))]) hx hb dX5_said_99 hl (by decide) rfl (fun ls hl => ?_)
  refine lv_iload_n hx hb dX5_said_101 rfl (lv_at hl 7 rfl) ?_
  refine lv_iconst (v := nI 1) hx hb dX5_said_102 (by decide) ?_
  refine lv_icmp_ne (tgt := 111) hx hb dX5_said_103 (by decide) (fun q2 => ?_) (fun q2 => absurd q2 (by decide))
  refine lv_lload hx hb dX5_said_111 (lv_at hl 1 rfl) ?_
  refine lv_lload hx hb dX5_said_113 (lv_at hl 0 rfl) ?_
  refine lv_aload_n hx hb dX5_said_115 rfl (lv_at hl 5 rfl) ?_
  refine gf_X5_29 hx hb hts hown hw (by decide) hc_33 rfl dX5_said_116 ?_
  refine lv_iload_n hx hb dX5_said_119 rfl (lv_at hl 6 rfl) ?_
  refine x_lald hx hb hw (by decide) 1 hc_34 rfl (j := k) (by omega) (by decide) hkey dX5_said_120 ?_
  refine lv_lmul hx hb dX5_said_121 ?_
  rw [lN_mul]
  refine t_ladd hx hb dX5_said_122 (v := lN (saW key (msgF v en) + ((saC key pub (basF (msgF v en)) (msgF v en)) * key))) (lN_add _ _) ?_
  refine lv_ldc2 hx hb hown (hts _ ct_X5_62) dX5_said_123 ?_
  refine lv_lrem hx hb dX5_said_126 (by decide) ?_
  rw [pk_lRem (by omega) (by decide) (by decide)]
  rw [show (saW key (msgF v en) + saC key pub (basF (msgF v en)) (msgF v en) * key) % 1073741789 = saZ key pub (basF (msgF v en)) (msgF v en) from by rw [Nat.add_comm]; rfl]
  exact x_wretL hx hb hr hlocks hw ⟨_, (by rw [hu_31, hu_25, hu_19, ew_14, hu_7, hu_1]; first | done | (simp only [bx_uu]; done) | (simp only [bx_uu]; rfl) | rfl)⟩ dX5_said_127
theorem quo_eq {b c : Nat} (hb : b ^ 1073741789 % 2147483579 = 1) (hc : c < 1073741789) : b ^ (2147483578 - c) % 2147483579 = b ^ (1073741789 - c) % 2147483579 := by
  rw [show 2147483578 - c = 1073741789 + (1073741789 - c) by omega, Nat.pow_add, Nat.mul_mod, hb, Nat.one_mul, Nat.mod_mod]
theorem sub_q (k : Nat) : (4 ^ k % 2147483579) ^ 1073741789 % 2147483579 = 1 := by
  rw [← Nat.pow_mod, ← Nat.pow_mul, Nat.mul_comm, Nat.pow_mul, Nat.pow_mod, g_q, Nat.one_pow]
def gdL (a x y : Int64) : Prop := ∃ a2 x2 y2 : Nat, a = lN a2 ∧ x = lN x2 ∧ y = lN y2 ∧ 1 ≤ a2 ∧ a2 < 2147483579 ∧ a2 ^ 1073741789 % 2147483579 = 1 ∧ x2 < 1073741789 ∧ y2 < 1073741789
theorem lN_of {x : Int64} (h : ¬ x < lN 0) : ∃ n : Nat, n < 2 ^ 63 ∧ x = lN n := by
  have h1 : 0 ≤ x.toInt := by
    have : ¬ x.toInt < (lN 0).toInt := fun q => h (Int64.lt_iff_toInt_lt.mpr q)
    rw [pk_lT (by decide)] at this
    omega
  have h2 := x.toInt_lt
  refine ⟨x.toInt.toNat, by omega, ?_⟩
  apply Int64.toInt_inj.mp
  rw [pk_lT (by omega)]
  omega

set_option maxHeartbeats 4000000 in
set_option maxRecDepth 100000 in
theorem k5_holdsR (l : Launch) {D : va_G} {cI cJ cZ cD : ClassId} {ad : Nat → Nat} {w : Nat → va_E} {sz : Nat} (cd : Int32) (n t cl qu en kp : Nat) (hs : Int64) (k : Nat) (hk : k < 17) (a x y : Int64) (hno : ¬ gdL a x y) (hM : w 77 = .inr (4, [.int cd, .int (nI n), .int (nI t), .int (nI cl), .ref (ad 78), .ref (ad 79), .ref (ad 80), .ref (ad 81), .ref (ad 82), .ref (ad 83), .int (nI qu), .ref (ad 84), .ref (ad 85), .ref (ad 86), .int (nI en), .int (nI kp), .ref (ad 87), .long hs])) : MW l yX5_holds (.code yX5_holds cX5_holds 10 (some .boolean)) ({ frames := 2, cells := 0, slots := 0, locals := 72 }) [.ref (ad 77), .int (nI k), .long a, .long x, .long y] D (tyL cI cJ cZ cD) ad 89 w sz (some (.int (nI 0))) (fun u => u = w) := by
  refine MW.of (by decide) (Nat.le_of_ble_eq_true rfl) ?_
  intro p e s m below meth c ls hC hr hlocks hl hw
  obtain ⟨hx, hb, hml, hown, hts⟩ := id hC
  have hA : ∀ q, s.heap.size ≤ q → xA ad 89 s.heap.size q := fun q h => Or.inr h
  have hl : lv_has ls 10 [(0, .ref (ad 77)), (1, .int (nI k)), (2, .long a), (4, .long x), (6, .long y)] := hl
  refine lv_lload_n hx hb dX5_holds_0 rfl (lv_at hl 2 rfl) ?_
  refine lv_lconst (v := lN 1) hx hb dX5_holds_1 (by decide) ?_
  refine W.lcmp hx hb dX5_holds_2 ?_
  refine lv_if_lt (tgt := 61) hx hb dX5_holds_3 (by decide) (fun q1 => ?_) (fun q1 => ?_)
  · rw [lg_cmp_lt] at q1
    refine lv_iconst (v := nI 0) hx hb dX5_holds_61 (by decide) ?_
    exact x_wretZ hx hb hr hlocks (by decide) hw rfl dX5_holds_62
  · rw [lg_cmp_lt] at q1
    have q1b : ¬ a < lN 0 := fun q => q1 (Int64.lt_trans q (by decide))
    obtain ⟨a2, ha2, rfl⟩ := lN_of q1b
    rw [pk_lLT (by omega) (by decide)] at q1
    refine lv_lload_n hx hb dX5_holds_6 rfl (lv_at hl 2 rfl) ?_
    refine lv_ldc2 hx hb hown (hts _ ct_X5_93) dX5_holds_7 ?_
    refine W.lcmp hx hb dX5_holds_10 ?_
    refine lv_if_ge (tgt := 61) hx hb dX5_holds_11 (by decide) (fun q2 => ?_) (fun q2 => ?_)
    · rw [lg_cmp_ge, pk_lLE (by omega) (by omega)] at q2
      refine lv_iconst (v := nI 0) hx hb dX5_holds_61 (by decide) ?_
      exact x_wretZ hx hb hr hlocks (by decide) hw rfl dX5_holds_62
    · rw [lg_cmp_ge, pk_lLE (by omega) (by omega)] at q2
      refine lv_lload_n hx hb dX5_holds_14 rfl (lv_at hl 2 rfl) ?_
      refine lv_ldc2 hx hb hown (hts _ ct_X5_62) dX5_holds_15 ?_
      refine lv_ldc2 hx hb hown (hts _ ct_X5_93) dX5_holds_18 ?_
      refine x_callS (As := [.long (lN a2), .long (lN 1073741789), .long (lN 2147483579)]) (rest := []) hC sf_X5_95 (k5_power l a2 1073741789 2147483579 (by omega) (by decide) (by decide) (by decide)) ⟨rfl, rfl, Nat.le_of_ble_eq_true rfl, Nat.le_of_ble_eq_true rfl⟩ hl.1 (Nat.le_of_ble_eq_true rfl) dX5_holds_21 ⟨Nat.zero_le _, Nat.zero_le _⟩ rfl ?_
      have hpl := pw_lt a2 1073741789 (show 0 < 2147483579 by decide)
      refine lv_lconst (v := lN 1) hx hb dX5_holds_24 (by decide) ?_
      refine W.lcmp hx hb dX5_holds_25 ?_
      refine lv_if_ne (tgt := 61) hx hb dX5_holds_26 (by decide) (fun q3 => ?_) (fun q3 => ?_)
      · rw [lg_cmp_eq, pk_lEQ (by omega) (by omega)] at q3
        refine lv_iconst (v := nI 0) hx hb dX5_holds_61 (by decide) ?_
        exact x_wretZ hx hb hr hlocks (by decide) hw rfl dX5_holds_62
      · rw [lg_cmp_eq, pk_lEQ (by omega) (by omega)] at q3
        refine lv_lload hx hb dX5_holds_29 (lv_at hl 3 rfl) ?_
        refine lv_lconst (v := lN 0) hx hb dX5_holds_31 (by decide) ?_
        refine W.lcmp hx hb dX5_holds_32 ?_
        refine lv_if_lt (tgt := 61) hx hb dX5_holds_33 (by decide) (fun q4 => ?_) (fun q4 => ?_)
        · rw [lg_cmp_lt] at q4
          refine lv_iconst (v := nI 0) hx hb dX5_holds_61 (by decide) ?_
          exact x_wretZ hx hb hr hlocks (by decide) hw rfl dX5_holds_62
        · rw [lg_cmp_lt] at q4
          obtain ⟨x2, hx2, rfl⟩ := lN_of q4
          refine lv_lload hx hb dX5_holds_36 (lv_at hl 3 rfl) ?_
          refine lv_ldc2 hx hb hown (hts _ ct_X5_62) dX5_holds_38 ?_
          refine W.lcmp hx hb dX5_holds_41 ?_
          refine lv_if_ge (tgt := 61) hx hb dX5_holds_42 (by decide) (fun q5 => ?_) (fun q5 => ?_)
          · rw [lg_cmp_ge, pk_lLE (by omega) (by omega)] at q5
            refine lv_iconst (v := nI 0) hx hb dX5_holds_61 (by decide) ?_
            exact x_wretZ hx hb hr hlocks (by decide) hw rfl dX5_holds_62
          · rw [lg_cmp_ge, pk_lLE (by omega) (by omega)] at q5
            refine lv_lload hx hb dX5_holds_45 (lv_at hl 4 rfl) ?_
            refine lv_lconst (v := lN 0) hx hb dX5_holds_47 (by decide) ?_
            refine W.lcmp hx hb dX5_holds_48 ?_
            refine lv_if_lt (tgt := 61) hx hb dX5_holds_49 (by decide) (fun q6 => ?_) (fun q6 => ?_)
            · rw [lg_cmp_lt] at q6
              refine lv_iconst (v := nI 0) hx hb dX5_holds_61 (by decide) ?_
              exact x_wretZ hx hb hr hlocks (by decide) hw rfl dX5_holds_62
            · rw [lg_cmp_lt] at q6
              obtain ⟨y2, hy2, rfl⟩ := lN_of q6
              refine lv_lload hx hb dX5_holds_52 (lv_at hl 4 rfl) ?_
              refine lv_ldc2 hx hb hown (hts _ ct_X5_62) dX5_holds_54 ?_
              refine W.lcmp hx hb dX5_holds_57 ?_
              refine lv_if_lt (tgt := 63) hx hb dX5_holds_58 (by decide) (fun q7 => ?_) (fun q7 => ?_)
              · rw [lg_cmp_lt, pk_lLT (by omega) (by omega)] at q7
                exact absurd ⟨a2, x2, y2, rfl, rfl, rfl, by omega, by omega, q3, by omega, q7⟩ hno
              · rw [lg_cmp_lt, pk_lLT (by omega) (by omega)] at q7
                refine lv_iconst (v := nI 0) hx hb dX5_holds_61 (by decide) ?_
                exact x_wretZ hx hb hr hlocks (by decide) hw rfl dX5_holds_62
set_option maxHeartbeats 4000000 in
set_option maxRecDepth 100000 in
theorem k5_holdsY (l : Launch) {D : va_G} {cI cJ cZ cD : ClassId} {ad : Nat → Nat} {w : Nat → va_E} {sz : Nat} (cd : Int32) (n t cl qu en kp : Nat) (hs : Int64) (swf : Nat → Int64) (vlf : Nat → Int64) (v : Int64) (hen : en ≤ 300) (hv : vlf en = v) (k key : Nat) (hk : k < 17) (hpub : swf k = lN (4 ^ key % 2147483579)) (a x y : Nat) (g1 : 1 ≤ a) (g2 : a < 2147483579) (g3 : a ^ 1073741789 % 2147483579 = 1) (g4 : x < 1073741789) (g5 : y < 1073741789) (hM : w 77 = .inr (4, [.int cd, .int (nI n), .int (nI t), .int (nI cl), .ref (ad 78), .ref (ad 79), .ref (ad 80), .ref (ad 81), .ref (ad 82), .ref (ad 83), .int (nI qu), .ref (ad 84), .ref (ad 85), .ref (ad 86), .int (nI en), .int (nI kp), .ref (ad 87), .long hs])) (hSw : w 85 = .inl (cJ, 17, .inr (.inl swf))) (hVl : w 86 = .inl (cJ, 301, .inr (.inl vlf))) : MW l yX5_holds (.code yX5_holds cX5_holds 10 (some .boolean)) ({ frames := 3, cells := 0, slots := 0, locals := 107 }) [.ref (ad 77), .int (nI k), .long (lN a), .long (lN x), .long (lN y)] D (tyL cI cJ cZ cD) ad 89 w sz (some (.int (if x = chF (basF (msgF v en)) (4 ^ key % 2147483579) a (4 ^ y % 2147483579 * ((4 ^ key % 2147483579) ^ (1073741789 - x) % 2147483579) % 2147483579) (basF (msgF v en) ^ y % 2147483579 * (a ^ (1073741789 - x) % 2147483579) % 2147483579) then nI 1 else nI 0))) (fun u => ∃ hs2, u = va_up w 77 (.inr (4, [.int cd, .int (nI n), .int (nI t), .int (nI cl), .ref (ad 78), .ref (ad 79), .ref (ad 80), .ref (ad 81), .ref (ad 82), .ref (ad 83), .int (nI qu), .ref (ad 84), .ref (ad 85), .ref (ad 86), .int (nI en), .int (nI kp), .ref (ad 87), .long hs2]))) := by
  refine MW.of (by decide) (Nat.le_of_ble_eq_true rfl) ?_
  intro p e s m below meth c ls hC hr hlocks hl hw
  obtain ⟨hx, hb, hml, hown, hts⟩ := id hC
  have hA : ∀ q, s.heap.size ≤ q → xA ad 89 s.heap.size q := fun q h => Or.inr h
  have hl : lv_has ls 10 [(0, .ref (ad 77)), (1, .int (nI k)), (2, .long (lN a)), (4, .long (lN x)), (6, .long (lN y))] := hl
  have hbl := basF_lt (msgF v en)
  have hpl : (4 ^ key % 2147483579) < 2147483579 := Nat.mod_lt _ (by decide)
  refine lv_lload_n hx hb dX5_holds_0 rfl (lv_at hl 2 rfl) ?_
  refine lv_lconst (v := lN 1) hx hb dX5_holds_1 (by decide) ?_
  refine W.lcmp hx hb dX5_holds_2 ?_
  refine lv_if_lt (tgt := 61) hx hb dX5_holds_3 (by decide) (fun q1 => absurd q1 (by rw [lg_cmp_lt, pk_lLT (by omega) (by decide)]; omega)) (fun q1 => ?_)
  refine lv_lload_n hx hb dX5_holds_6 rfl (lv_at hl 2 rfl) ?_
  refine lv_ldc2 hx hb hown (hts _ ct_X5_93) dX5_holds_7 ?_
  refine W.lcmp hx hb dX5_holds_10 ?_
  refine lv_if_ge (tgt := 61) hx hb dX5_holds_11 (by decide) (fun q2 => absurd q2 (by rw [lg_cmp_ge, pk_lLE (by omega) (by omega)]; omega)) (fun q2 => ?_)
  refine lv_lload_n hx hb dX5_holds_14 rfl (lv_at hl 2 rfl) ?_
  refine lv_ldc2 hx hb hown (hts _ ct_X5_62) dX5_holds_15 ?_
  refine lv_ldc2 hx hb hown (hts _ ct_X5_93) dX5_holds_18 ?_
  refine x_callS (As := [.long (lN a), .long (lN 1073741789), .long (lN 2147483579)]) (rest := []) hC sf_X5_95 (k5_power l a 1073741789 2147483579 g2 (by decide) (by decide) (by decide)) ⟨rfl, rfl, Nat.le_of_ble_eq_true rfl, Nat.le_of_ble_eq_true rfl⟩ hl.1 (Nat.le_of_ble_eq_true rfl) dX5_holds_21 ⟨Nat.zero_le _, Nat.zero_le _⟩ rfl ?_
  rw [g3]
  refine lv_lconst (v := lN 1) hx hb dX5_holds_24 (by decide) ?_
  refine W.lcmp hx hb dX5_holds_25 ?_
  refine lv_if_ne (tgt := 61) hx hb dX5_holds_26 (by decide) (fun q3 => absurd (by decide) q3) (fun q3 => ?_)
  refine lv_lload hx hb dX5_holds_29 (lv_at hl 3 rfl) ?_
  refine lv_lconst (v := lN 0) hx hb dX5_holds_31 (by decide) ?_
  refine W.lcmp hx hb dX5_holds_32 ?_
  refine lv_if_lt (tgt := 61) hx hb dX5_holds_33 (by decide) (fun q4 => absurd q4 (by rw [lg_cmp_lt, pk_lLT (by omega) (by decide)]; omega)) (fun q4 => ?_)
  refine lv_lload hx hb dX5_holds_36 (lv_at hl 3 rfl) ?_
  refine lv_ldc2 hx hb hown (hts _ ct_X5_62) dX5_holds_38 ?_
  refine W.lcmp hx hb dX5_holds_41 ?_
  refine lv_if_ge (tgt := 61) hx hb dX5_holds_42 (by decide) (fun q5 => absurd q5 (by rw [lg_cmp_ge, pk_lLE (by omega) (by omega)]; omega)) (fun q5 => ?_)
  refine lv_lload hx hb dX5_holds_45 (lv_at hl 4 rfl) ?_
  refine lv_lconst (v := lN 0) hx hb dX5_holds_47 (by decide) ?_
  refine W.lcmp hx hb dX5_holds_48 ?_
  refine lv_if_lt (tgt := 61) hx hb dX5_holds_49 (by decide) (fun q6 => absurd q6 (by rw [lg_cmp_lt, pk_lLT (by omega) (by decide)]; omega)) (fun q6 => ?_)
  refine lv_lload hx hb dX5_holds_52 (lv_at hl 4 rfl) ?_
  refine lv_ldc2 hx hb hown (hts _ ct_X5_62) dX5_holds_54 ?_
  refine W.lcmp hx hb dX5_holds_57 ?_
  refine lv_if_lt (tgt := 63) hx hb dX5_holds_58 (by decide) (fun q7 => ?_) (fun q7 => absurd (by rw [lg_cmp_lt, pk_lLT (by omega) (by omega)]; omega) q7)
  refine lv_aload_n hx hb dX5_holds_63 rfl (lv_at hl 0 rfl) ?_
  refine x_callW1 (As := []) (rest := []) hC vf_X5_119 hw hA (by decide) hM rfl rfl (k5_base l _ _ _ _ _ _ _ _ vlf v hen hv hM hVl) ⟨rfl, rfl, Nat.le_of_ble_eq_true rfl, Nat.le_of_ble_eq_true rfl⟩ hl.1 (Nat.le_of_ble_eq_true rfl) dX5_holds_64 ⟨Nat.zero_le _, Nat.zero_le _⟩ rfl (fun w_2 H locs hu_1 hw => ?_)
  have hc_3 : w_2 77 = .inr (4, [.int cd, .int (nI n), .int (nI t), .int (nI cl), .ref (ad 78), .ref (ad 79), .ref (ad 80), .ref (ad 81), .ref (ad 82), .ref (ad 83), .int (nI qu), .ref (ad 84), .ref (ad 85), .ref (ad 86), .int (nI en), .int (nI kp), .ref (ad 87), .long (msgF v en)]) := by rw [hu_1]; exact va_up_self _ _ _
  have hc_4 : w_2 85 = .inl (cJ, 17, .inr (.inl swf)) := by rw [hu_1, va_up_ne _ _ (by decide)]; exact hSw
  have hc_5 : w_2 86 = .inl (cJ, 301, .inr (.inl vlf)) := by rw [hu_1, va_up_ne _ _ (by decide)]; exact hVl
  refine lv_lstore (lv' := [(8, .long (lN (basF (msgF v en)))), (0, .ref (ad 77)), (1, .int (nI k)), (2, .long (lN a)), (4, .long (lN x)), (6, .long (lN y))]) hx hb dX5_holds_67 hl (by decide) rfl (fun ls hl => ?_)
  refine lv_lload hx hb dX5_holds_69 (lv_at hl 4 rfl) ?_
  refine lv_aload_n hx hb dX5_holds_71 rfl (lv_at hl 1 rfl) ?_
  refine lv_lload hx hb dX5_holds_72 (lv_at hl 0 rfl) ?_
  refine lv_aload_n hx hb dX5_holds_74 rfl (lv_at hl 1 rfl) ?_
  refine gf_X5_32 hx hb hts hown hw (by decide) hc_3 rfl dX5_holds_75 ?_
  refine lv_iload_n hx hb dX5_holds_78 rfl (lv_at hl 2 rfl) ?_
  refine x_lald hx hb hw (by decide) 1 hc_4 rfl (j := k) (by omega) (by decide) hpub dX5_holds_79 ?_
  refine lv_lload_n hx hb dX5_holds_80 rfl (lv_at hl 3 rfl) ?_
  refine lv_ldc2 hx hb hown (hts _ ct_X5_91) dX5_holds_81 ?_
  refine lv_lload hx hb dX5_holds_84 (lv_at hl 5 rfl) ?_
  refine lv_aload_n hx hb dX5_holds_86 rfl (lv_at hl 1 rfl) ?_
  refine gf_X5_32 hx hb hts hown hw (by decide) hc_3 rfl dX5_holds_87 ?_
  refine lv_iload_n hx hb dX5_holds_90 rfl (lv_at hl 2 rfl) ?_
  refine x_lald hx hb hw (by decide) 1 hc_4 rfl (j := k) (by omega) (by decide) hpub dX5_holds_91 ?_
  refine lv_lload hx hb dX5_holds_92 (lv_at hl 4 rfl) ?_
  refine x_callS (As := [.long (lN 4), .long (lN y), .long (lN ((4 ^ key % 2147483579))), .long (lN x)]) (rest := [.long (lN a), .long (lN ((4 ^ key % 2147483579))), .long (lN (basF (msgF v en))), .ref (ad 77), .long (lN x)]) hC sf_X5_129 (k5_quotient l 4 y (4 ^ key % 2147483579) x (by decide) (by omega) hpl g4) ⟨rfl, rfl, Nat.le_of_ble_eq_true rfl, Nat.le_of_ble_eq_true rfl⟩ hl.1 (Nat.le_of_ble_eq_true rfl) dX5_holds_94 ⟨Nat.zero_le _, Nat.zero_le _⟩ rfl ?_
  rw [quo_eq (sub_q key) g4]
  refine lv_lload hx hb dX5_holds_97 (lv_at hl 0 rfl) ?_
  refine lv_lload hx hb dX5_holds_99 (lv_at hl 5 rfl) ?_
  refine lv_lload_n hx hb dX5_holds_101 rfl (lv_at hl 3 rfl) ?_
  refine lv_lload hx hb dX5_holds_102 (lv_at hl 4 rfl) ?_
  refine x_callS (As := [.long (lN (basF (msgF v en))), .long (lN y), .long (lN a), .long (lN x)]) (rest := [.long (lN (4 ^ y % 2147483579 * ((4 ^ key % 2147483579) ^ (1073741789 - x) % 2147483579) % 2147483579)), .long (lN a), .long (lN ((4 ^ key % 2147483579))), .long (lN (basF (msgF v en))), .ref (ad 77), .long (lN x)]) hC sf_X5_129 (k5_quotient l (basF (msgF v en)) y a x hbl (by omega) g2 g4) ⟨rfl, rfl, Nat.le_of_ble_eq_true rfl, Nat.le_of_ble_eq_true rfl⟩ hl.1 (Nat.le_of_ble_eq_true rfl) dX5_holds_104 ⟨Nat.zero_le _, Nat.zero_le _⟩ rfl ?_
  rw [quo_eq g3 g4]
  refine x_callW1 (As := [.long (lN (basF (msgF v en))), .long (lN ((4 ^ key % 2147483579))), .long (lN a), .long (lN (4 ^ y % 2147483579 * ((4 ^ key % 2147483579) ^ (1073741789 - x) % 2147483579) % 2147483579)), .long (lN (basF (msgF v en) ^ y % 2147483579 * (a ^ (1073741789 - x) % 2147483579) % 2147483579))]) (rest := [.long (lN x)]) hC vf_X5_122 hw hA (by decide) hc_3 rfl rfl (k5_challenge l _ _ _ _ _ _ _ _ (basF (msgF v en)) (4 ^ key % 2147483579) a (4 ^ y % 2147483579 * ((4 ^ key % 2147483579) ^ (1073741789 - x) % 2147483579) % 2147483579) (basF (msgF v en) ^ y % 2147483579 * (a ^ (1073741789 - x) % 2147483579) % 2147483579) hc_3) ⟨rfl, rfl, Nat.le_of_ble_eq_true rfl, Nat.le_of_ble_eq_true rfl⟩ hl.1 (Nat.le_of_ble_eq_true rfl) dX5_holds_107 ⟨Nat.zero_le _, Nat.zero_le _⟩ rfl (fun w_7 H locs hu_6 hw => ?_)
  obtain ⟨hs9, hu_6⟩ := hu_6
  have hc_8 : w_7 77 = .inr (4, [.int cd, .int (nI n), .int (nI t), .int (nI cl), .ref (ad 78), .ref (ad 79), .ref (ad 80), .ref (ad 81), .ref (ad 82), .ref (ad 83), .int (nI qu), .ref (ad 84), .ref (ad 85), .ref (ad 86), .int (nI en), .int (nI kp), .ref (ad 87), .long hs9]) := by rw [hu_6]; exact va_up_self _ _ _
  have hc_9 : w_7 85 = .inl (cJ, 17, .inr (.inl swf)) := by rw [hu_6, va_up_ne _ _ (by decide)]; exact hc_4
  have hc_10 : w_7 86 = .inl (cJ, 301, .inr (.inl vlf)) := by rw [hu_6, va_up_ne _ _ (by decide)]; exact hc_5
  have hcl9 : chF (basF (msgF v en)) (4 ^ key % 2147483579) a (4 ^ y % 2147483579 * ((4 ^ key % 2147483579) ^ (1073741789 - x) % 2147483579) % 2147483579) (basF (msgF v en) ^ y % 2147483579 * (a ^ (1073741789 - x) % 2147483579) % 2147483579) < 1073741789 := chF_lt _ _ _ _ _
  refine W.lcmp hx hb dX5_holds_110 ?_
  refine lv_if_ne (tgt := 118) hx hb dX5_holds_111 (by decide) (fun q8 => ?_) (fun q8 => ?_)
  · rw [lg_cmp_eq, pk_lEQ (by omega) (by omega)] at q8
    rw [if_neg q8]
    refine lv_iconst (v := nI 0) hx hb dX5_holds_118 (by decide) ?_
    exact x_wretZ hx hb hr hlocks (by decide) hw ⟨_, (by rw [hu_6, hu_1]; first | done | (simp only [bx_uu]; done) | (simp only [bx_uu]; rfl) | rfl)⟩ dX5_holds_119
  · rw [lg_cmp_eq, pk_lEQ (by omega) (by omega)] at q8
    rw [if_pos q8]
    refine lv_iconst (v := nI 1) hx hb dX5_holds_114 (by decide) ?_
    refine lv_goto (tgt := 119) hx hb dX5_holds_115 (by decide) ?_
    exact x_wretZ hx hb hr hlocks (by decide) hw ⟨_, (by rw [hu_6, hu_1]; first | done | (simp only [bx_uu]; done) | (simp only [bx_uu]; rfl) | rfl)⟩ dX5_holds_119
