/-! the reference's methods of numbers -/
theorem lN_and (a b : Nat) : lN a &&& lN b = lN (a &&& b) := by
  apply Int64.toBitVec_inj.mp
  rw [Int64.toBitVec_and]
  show BitVec.ofNat 64 a &&& BitVec.ofNat 64 b = BitVec.ofNat 64 (a &&& b)
  rw [BitVec.ofNat_and]
theorem l_odd (n : Nat) : lN n &&& lN 1 = lN (n % 2) := by
  rw [lN_and, Nat.and_one_is_mod]
theorem l_half {n : Nat} (h : n < 2 ^ 63) : lN n >>> ((nI 1).toInt64 &&& 63) = lN (n / 2) := by
  apply Int64.toInt_inj.mp
  rw [Jvm.Kit.i64_shr _ _ (k := 1) (by decide), pk_lT h, pk_lT (by omega)]
  omega
theorem lN_ne0 {b : Nat} (h0 : 0 < b) (hb : b < 2 ^ 63) : ¬ lN b = 0 := fun q => by
  have := congrArg Int64.toInt q
  rw [pk_lT hb, show (0 : Int64).toInt = 0 by decide] at this
  omega
theorem rest_nn {x : Int64} {b : Nat} (h0 : 0 < b) (hb : b < 2 ^ 31) (h : lN 0 ≤ x - x / lN b * lN b) : x - x / lN b * lN b = lN (md x b) := by
  by_cases hx : 0 ≤ x
  · exact rem_nn h0 hb hx
  · by_cases hz : x - x / lN b * lN b = lN 0
    · exact rem_z h0 hb hz
    · exfalso
      have ht : (x - x / lN b * lN b).toInt = x.toInt.tmod (b : Int) := by rw [Jvm.Kit.i64_rem, pk_lT (by omega)]
      have hx' : x.toInt < 0 := by
        have h : ¬ (0 : Int64).toInt ≤ x.toInt := fun q => hx (Int64.le_iff_toInt_le.mpr q)
        rw [show (0 : Int64).toInt = 0 by decide] at h
        omega
      have h1 := Int.tmod_nonneg (b : Int) (show 0 ≤ -x.toInt by omega)
      rw [Int.neg_tmod] at h1
      have h2 := Int64.le_iff_toInt_le.mp h
      rw [ht, pk_lT (by decide)] at h2
      apply hz
      apply Int64.toInt_inj.mp
      rw [ht, pk_lT (by decide)]
      omega
theorem rest_neg {x : Int64} {b : Nat} (h0 : 0 < b) (hb : b < 2 ^ 31) (h : ¬ lN 0 ≤ x - x / lN b * lN b) : x - x / lN b * lN b + lN b = lN (md x b) := by
  have hz : ¬ x - x / lN b * lN b = lN 0 := fun q => h (by rw [q]; exact Int64.le_refl _)
  have hx : ¬ 0 ≤ x := fun q => h (by rw [rem_nn h0 hb q]; exact lN_nn (by have := md_lt x h0; omega))
  exact rem_neg h0 hb hx hz
theorem pw_inv_odd {b A S L : Nat} (h : L % 2 = 1) : A * S % b * (S * S % b) ^ (L / 2) % b = A * S ^ L % b := by
  have e : S ^ L = S * (S * S) ^ (L / 2) := by
    rw [← Nat.pow_two, ← Nat.pow_mul, Nat.mul_comm S, ← Nat.pow_succ]
    congr 1
    omega
  rw [mm1, Nat.mul_mod, pm1, ← Nat.mul_mod, e, Nat.mul_assoc]
theorem pw_inv_even {b A S L : Nat} (h : L % 2 = 0) : A * (S * S % b) ^ (L / 2) % b = A * S ^ L % b := by
  have e : S ^ L = (S * S) ^ (L / 2) := by
    rw [← Nat.pow_two, ← Nat.pow_mul]
    congr 1
    omega
  rw [Nat.mul_mod, pm1, ← Nat.mul_mod, e]

set_option maxHeartbeats 4000000 in
set_option maxRecDepth 100000 in
theorem k5_rest (l : Launch) (x : Int64) (b : Nat) (h0 : 0 < b) (hb0 : b < 2 ^ 31) : MS l yX5_rest (.code yX5_rest cX5_rest 6 (some .long)) ({ frames := 0, cells := 0, slots := 0, locals := 0 }) [.long x, .long (lN b)] (.long (lN (md x b))) := by
  refine MS.of (by decide) (Nat.le_of_ble_eq_true rfl) ?_
  intro p e s m below meth c ls hC hr hlocks hl
  obtain ⟨hx, hb, hml, hown, hts⟩ := id hC
  have hl : lv_has ls 6 [(0, .long x), (2, .long (lN b))] := hl
  refine lv_lload_n hx hb dX5_rest_0 rfl (lv_at hl 0 rfl) ?_
  refine lv_lload_n hx hb dX5_rest_1 rfl (lv_at hl 1 rfl) ?_
  refine lv_lrem hx hb dX5_rest_2 (lN_ne0 h0 (by omega)) ?_
  refine lv_lstore (lv' := [(4, .long (x - x / lN b * lN b)), (0, .long x), (2, .long (lN b))]) hx hb dX5_rest_3 hl (by decide) rfl (fun ls hl => ?_)
  refine lv_lload hx hb dX5_rest_5 (lv_at hl 0 rfl) ?_
  refine lv_lconst (v := lN 0) hx hb dX5_rest_7 (by decide) ?_
  refine W.lcmp hx hb dX5_rest_8 ?_
  refine lv_if_ge (tgt := 19) hx hb dX5_rest_9 (by decide) (fun hc => ?_) (fun hc => ?_)
  · rw [lg_cmp_ge] at hc
    refine lv_lload hx hb dX5_rest_19 (lv_at hl 0 rfl) ?_
    rw [rest_nn h0 hb0 hc]
    exact x_retL hx hb hr hlocks dX5_rest_21
  · rw [lg_cmp_ge] at hc
    refine lv_lload hx hb dX5_rest_12 (lv_at hl 0 rfl) ?_
    refine lv_lload_n hx hb dX5_rest_14 rfl (lv_at hl 2 rfl) ?_
    refine lv_ladd hx hb dX5_rest_15 ?_
    refine lv_goto (tgt := 21) hx hb dX5_rest_16 (by decide) ?_
    rw [rest_neg h0 hb0 hc]
    exact x_retL hx hb hr hlocks dX5_rest_21
set_option maxHeartbeats 4000000 in
set_option maxRecDepth 100000 in
theorem k5_power_loop {l : Launch} {p : Program} {e : Env} {s : State} {m : MethodId} {args : Array Value} {below : List Frame} {meth : Method} {c : Code} {H : Heap} {locs : List Loc} {Q : State → Prop} (hC : CallFix p m c cX5_power 12 s args wsL_law RX5) (a x b : Nat) (hb1 : 1 < b) (hb0 : b < 2 ^ 31)
    (kx : ∀ ls : Array Slot, lv_has ls 12 [(6, .long (lN (a ^ x % b)))] → W p l e ({ frames := 1, cells := 0, slots := 0, locals := 33 }) s m args below meth c H locs 0 0 Q (F0 m 67 ls [])) :
    ∀ (n A S L : Nat), L ≤ n → L < 2 ^ 62 → A < b → S < b → A * S ^ L % b = a ^ x % b → ∀ ls : Array Slot, lv_has ls 12 [(4, .long (lN b)), (6, .long (lN A)), (8, .long (lN S)), (10, .long (lN L))] → W p l e ({ frames := 1, cells := 0, slots := 0, locals := 33 }) s m args below meth c H locs 0 0 Q (F0 m 17 ls []) := by
  obtain ⟨hx, hb, hml, hown, hts⟩ := id hC
  intro n
  induction n with
  | zero =>
    intro A S L hLn hL62 hA hS hinv ls hl
    have hL0 : L = 0 := by omega
    refine lv_lload hx hb dX5_power_17 (lv_at hl 3 rfl) ?_
    refine lv_lconst (v := lN 0) hx hb dX5_power_19 (by decide) ?_
    refine W.lcmp hx hb dX5_power_20 ?_
    refine lv_if_le (tgt := 67) hx hb dX5_power_21 (by decide) (fun hc => ?_) (fun hc => absurd (by rw [lg_cmp_le, pk_lLE (by omega) (by omega)]; omega) hc)
    refine kx ls (lv_sub hl [1] ?_)
    rw [← hinv, hL0, Nat.pow_zero, Nat.mul_one, Nat.mod_eq_of_lt hA]
    rfl
  | succ n ih =>
    intro A S L hLn hL62 hA hS hinv ls hl
    have hAS := mul_lt62 (show A < 2 ^ 31 by omega) (show S < 2 ^ 31 by omega)
    have hSS := mul_lt62 (show S < 2 ^ 31 by omega) (show S < 2 ^ 31 by omega)
    refine lv_lload hx hb dX5_power_17 (lv_at hl 3 rfl) ?_
    refine lv_lconst (v := lN 0) hx hb dX5_power_19 (by decide) ?_
    refine W.lcmp hx hb dX5_power_20 ?_
    refine lv_if_le (tgt := 67) hx hb dX5_power_21 (by decide) (fun hc => ?_) (fun hc => ?_)
    · rw [lg_cmp_le, pk_lLE (by omega) (by omega)] at hc
      have hL0 : L = 0 := by omega
      refine kx ls (lv_sub hl [1] ?_)
      rw [← hinv, hL0, Nat.pow_zero, Nat.mul_one, Nat.mod_eq_of_lt hA]
      rfl
    · rw [lg_cmp_le, pk_lLE (by omega) (by omega)] at hc
      refine lv_lload hx hb dX5_power_24 (lv_at hl 3 rfl) ?_
      refine lv_lconst (v := lN 1) hx hb dX5_power_26 (by decide) ?_
      refine lv_land hx hb dX5_power_27 ?_
      rw [l_odd L]
      refine lv_lconst (v := lN 1) hx hb dX5_power_28 (by decide) ?_
      refine W.lcmp hx hb dX5_power_29 ?_
      refine lv_if_ne (tgt := 44) hx hb dX5_power_30 (by decide) (fun hc2 => ?_) (fun hc2 => ?_)
      · rw [lg_cmp_eq, pk_lEQ (by omega) (by omega)] at hc2
        refine lv_lload hx hb dX5_power_44 (lv_at hl 1 rfl) ?_
        refine lv_lstore (lv' := [(6, .long (lN A)), (4, .long (lN b)), (8, .long (lN S)), (10, .long (lN L))]) hx hb dX5_power_46 hl (by decide) rfl (fun ls hl => ?_)
        refine lv_lload hx hb dX5_power_48 (lv_at hl 2 rfl) ?_
        refine lv_lload hx hb dX5_power_50 (lv_at hl 2 rfl) ?_
        refine lv_lmul hx hb dX5_power_52 ?_
        rw [lN_mul]
        refine lv_lload hx hb dX5_power_53 (lv_at hl 1 rfl) ?_
        refine lv_lrem hx hb dX5_power_55 (lN_ne0 (by omega) (by omega)) ?_
        rw [pk_lRem (by omega) (by omega) (by omega)]
        refine lv_lstore (lv' := [(8, .long (lN (S * S % b))), (6, .long (lN A)), (4, .long (lN b)), (10, .long (lN L))]) hx hb dX5_power_56 hl (by decide) rfl (fun ls hl => ?_)
        refine lv_lload hx hb dX5_power_58 (lv_at hl 3 rfl) ?_
        refine lv_iconst (v := nI 1) hx hb dX5_power_60 (by decide) ?_
        refine lv_lshr hx hb dX5_power_61 rfl ?_
        rw [l_half (by omega)]
        refine lv_lstore (lv' := [(10, .long (lN (L / 2))), (8, .long (lN (S * S % b))), (6, .long (lN A)), (4, .long (lN b))]) hx hb dX5_power_62 hl (by decide) rfl (fun ls hl => ?_)
        refine lv_goto (tgt := 17) hx hb dX5_power_64 (by decide) ?_
        exact ih (A) (S * S % b) (L / 2) (by omega) (by omega) hA (Nat.mod_lt _ (by omega)) (by rw [pw_inv_even (by omega)]; exact hinv) ls (lv_sub hl [3, 2, 1, 0] rfl)
      · rw [lg_cmp_eq, pk_lEQ (by omega) (by omega)] at hc2
        refine lv_lload hx hb dX5_power_33 (lv_at hl 1 rfl) ?_
        refine lv_lload hx hb dX5_power_35 (lv_at hl 2 rfl) ?_
        refine lv_lmul hx hb dX5_power_37 ?_
        rw [lN_mul]
        refine lv_lload hx hb dX5_power_38 (lv_at hl 0 rfl) ?_
        refine lv_lrem hx hb dX5_power_40 (lN_ne0 (by omega) (by omega)) ?_
        rw [pk_lRem (by omega) (by omega) (by omega)]
        refine lv_goto (tgt := 46) hx hb dX5_power_41 (by decide) ?_
        refine lv_lstore (lv' := [(6, .long (lN (A * S % b))), (4, .long (lN b)), (8, .long (lN S)), (10, .long (lN L))]) hx hb dX5_power_46 hl (by decide) rfl (fun ls hl => ?_)
        refine lv_lload hx hb dX5_power_48 (lv_at hl 2 rfl) ?_
        refine lv_lload hx hb dX5_power_50 (lv_at hl 2 rfl) ?_
        refine lv_lmul hx hb dX5_power_52 ?_
        rw [lN_mul]
        refine lv_lload hx hb dX5_power_53 (lv_at hl 1 rfl) ?_
        refine lv_lrem hx hb dX5_power_55 (lN_ne0 (by omega) (by omega)) ?_
        rw [pk_lRem (by omega) (by omega) (by omega)]
        refine lv_lstore (lv' := [(8, .long (lN (S * S % b))), (6, .long (lN (A * S % b))), (4, .long (lN b)), (10, .long (lN L))]) hx hb dX5_power_56 hl (by decide) rfl (fun ls hl => ?_)
        refine lv_lload hx hb dX5_power_58 (lv_at hl 3 rfl) ?_
        refine lv_iconst (v := nI 1) hx hb dX5_power_60 (by decide) ?_
        refine lv_lshr hx hb dX5_power_61 rfl ?_
        rw [l_half (by omega)]
        refine lv_lstore (lv' := [(10, .long (lN (L / 2))), (8, .long (lN (S * S % b))), (6, .long (lN (A * S % b))), (4, .long (lN b))]) hx hb dX5_power_62 hl (by decide) rfl (fun ls hl => ?_)
        refine lv_goto (tgt := 17) hx hb dX5_power_64 (by decide) ?_
        exact ih (A * S % b) (S * S % b) (L / 2) (by omega) (by omega) (Nat.mod_lt _ (by omega)) (Nat.mod_lt _ (by omega)) (by rw [pw_inv_odd (by omega)]; exact hinv) ls (lv_sub hl [3, 2, 1, 0] rfl)
set_option maxHeartbeats 4000000 in
set_option maxRecDepth 100000 in
theorem k5_power (l : Launch) (a x b : Nat) (ha : a < b) (hx0 : x < 2 ^ 62) (hb1 : 1 < b) (hb0 : b < 2 ^ 31) : MS l yX5_power (.code yX5_power cX5_power 12 (some .long)) ({ frames := 1, cells := 0, slots := 0, locals := 33 }) [.long (lN a), .long (lN x), .long (lN b)] (.long (lN (a ^ x % b))) := by
  refine MS.of (by decide) (Nat.le_of_ble_eq_true rfl) ?_
  intro p e s m below meth c ls hC hr hlocks hl
  obtain ⟨hx, hb, hml, hown, hts⟩ := id hC
  have hl : lv_has ls 12 [(0, .long (lN a)), (2, .long (lN x)), (4, .long (lN b))] := hl
  refine lv_lconst (v := lN 1) hx hb dX5_power_0 (by decide) ?_
  refine lv_lload hx hb dX5_power_1 (lv_at hl 2 rfl) ?_
  refine lv_lrem hx hb dX5_power_3 (lN_ne0 (by omega) (by omega)) ?_
  rw [pk_lRem (by decide) (by omega) (by omega)]
  rw [Nat.mod_eq_of_lt hb1]
  refine lv_lstore (lv' := [(6, .long (lN 1)), (0, .long (lN a)), (2, .long (lN x)), (4, .long (lN b))]) hx hb dX5_power_4 hl (by decide) rfl (fun ls hl => ?_)
  refine lv_lload_n hx hb dX5_power_6 rfl (lv_at hl 1 rfl) ?_
  refine lv_lload hx hb dX5_power_7 (lv_at hl 3 rfl) ?_
  refine x_callS (As := [.long (lN a), .long (lN b)]) (rest := []) hC sf_X5_55 (k5_rest l (lN a) b (by omega) hb0) ⟨rfl, rfl, Nat.le_of_ble_eq_true rfl, Nat.le_of_ble_eq_true rfl⟩ hl.1 (Nat.le_of_ble_eq_true rfl) dX5_power_9 ⟨Nat.zero_le _, Nat.zero_le _⟩ rfl ?_
  rw [md_nat (by omega), Nat.mod_eq_of_lt ha]
  refine lv_lstore (lv' := [(8, .long (lN a)), (6, .long (lN 1)), (0, .long (lN a)), (2, .long (lN x)), (4, .long (lN b))]) hx hb dX5_power_12 hl (by decide) rfl (fun ls hl => ?_)
  refine lv_lload_n hx hb dX5_power_14 rfl (lv_at hl 3 rfl) ?_
  refine lv_lstore (lv' := [(10, .long (lN x)), (8, .long (lN a)), (6, .long (lN 1)), (0, .long (lN a)), (2, .long (lN x)), (4, .long (lN b))]) hx hb dX5_power_15 hl (by decide) rfl (fun ls hl => ?_)
  refine k5_power_loop hC a x b hb1 hb0 (fun ls hl => ?_) x 1 a x (Nat.le_refl _) hx0 hb1 ha (by rw [Nat.one_mul]) ls (lv_sub hl [5, 2, 1, 0] rfl)
  refine lv_lload hx hb dX5_power_67 (lv_at hl 0 rfl) ?_
  exact x_retL hx hb hr hlocks dX5_power_69
set_option maxHeartbeats 4000000 in
set_option maxRecDepth 100000 in
theorem k5_isExponent (l : Launch) (x : Nat) (hx0 : x < 1073741789) : MS l yX5_isExponent (.code yX5_isExponent cX5_isExponent 1 (some .boolean)) ({ frames := 0, cells := 0, slots := 0, locals := 0 }) [.int (nI x)] (.int (nI 1)) := by
  refine MS.of (by decide) (Nat.le_of_ble_eq_true rfl) ?_
  intro p e s m below meth c ls hC hr hlocks hl
  obtain ⟨hx, hb, hml, hown, hts⟩ := id hC
  have hl : lv_has ls 1 [(0, .int (nI x))] := hl
  refine lv_iload_n hx hb dX5_isExponent_0 rfl (lv_at hl 0 rfl) ?_
  refine lv_if_lt (tgt := 17) hx hb dX5_isExponent_1 (by decide) (fun hc => absurd hc (nI_pos (by omega))) (fun hc => ?_)
  refine lv_iload_n hx hb dX5_isExponent_4 rfl (lv_at hl 0 rfl) ?_
  refine lv_i2l hx hb dX5_isExponent_5 (nI_l (by omega)) ?_
  refine lv_ldc2 hx hb hown (hts _ ct_X5_62) dX5_isExponent_6 ?_
  refine W.lcmp hx hb dX5_isExponent_9 ?_
  refine lv_if_ge (tgt := 17) hx hb dX5_isExponent_10 (by decide) (fun hc => ?_) (fun hc => ?_)
  · rw [lg_cmp_ge, pk_lLE (by omega) (by omega)] at hc
    omega
  · rw [lg_cmp_ge, pk_lLE (by omega) (by omega)] at hc
    refine lv_iconst (v := nI 1) hx hb dX5_isExponent_13 (by decide) ?_
    refine lv_goto (tgt := 18) hx hb dX5_isExponent_14 (by decide) ?_
    exact x_retZ hx hb hr hlocks (by decide) dX5_isExponent_18
set_option maxHeartbeats 4000000 in
set_option maxRecDepth 100000 in
theorem k5_isExponentN (l : Launch) (x : Int32) (hx0 : x < 0 ∨ nI 1073741789 ≤ x) : MS l yX5_isExponent (.code yX5_isExponent cX5_isExponent 1 (some .boolean)) ({ frames := 0, cells := 0, slots := 0, locals := 0 }) [.int x] (.int (nI 0)) := by
  refine MS.of (by decide) (Nat.le_of_ble_eq_true rfl) ?_
  intro p e s m below meth c ls hC hr hlocks hl
  obtain ⟨hx, hb, hml, hown, hts⟩ := id hC
  have hl : lv_has ls 1 [(0, .int x)] := hl
  refine lv_iload_n hx hb dX5_isExponent_0 rfl (lv_at hl 0 rfl) ?_
  refine lv_if_lt (tgt := 17) hx hb dX5_isExponent_1 (by decide) (fun hc => ?_) (fun hc => ?_)
  · skip
    refine lv_iconst (v := nI 0) hx hb dX5_isExponent_17 (by decide) ?_
    exact x_retZ hx hb hr hlocks (by decide) dX5_isExponent_18
  · skip
    obtain ⟨j, hj, rfl⟩ := nI_of hc
    have hQ := hx0.resolve_left hc
    rw [nI_leI (by decide) (by omega)] at hQ
    refine lv_iload_n hx hb dX5_isExponent_4 rfl (lv_at hl 0 rfl) ?_
    refine lv_i2l hx hb dX5_isExponent_5 (nI_l (by omega)) ?_
    refine lv_ldc2 hx hb hown (hts _ ct_X5_62) dX5_isExponent_6 ?_
    refine W.lcmp hx hb dX5_isExponent_9 ?_
    refine lv_if_ge (tgt := 17) hx hb dX5_isExponent_10 (by decide) (fun hc2 => ?_) (fun hc2 => ?_)
    · rw [lg_cmp_ge, pk_lLE (by omega) (by omega)] at hc2
      refine lv_iconst (v := nI 0) hx hb dX5_isExponent_17 (by decide) ?_
      exact x_retZ hx hb hr hlocks (by decide) dX5_isExponent_18
    · rw [lg_cmp_ge, pk_lLE (by omega) (by omega)] at hc2
      omega
set_option maxHeartbeats 4000000 in
set_option maxRecDepth 100000 in
theorem k5_quotient (l : Launch) (a z b x : Nat) (ha : a < 2147483579) (hz : z < 2 ^ 62) (hb1 : b < 2147483579) (hx0 : x < 1073741789) : MS l yX5_quotient (.code yX5_quotient cX5_quotient 8 (some .long)) ({ frames := 2, cells := 0, slots := 0, locals := 72 }) [.long (lN a), .long (lN z), .long (lN b), .long (lN x)] (.long (lN (a ^ z % 2147483579 * (b ^ (2147483578 - x) % 2147483579) % 2147483579))) := by
  refine MS.of (by decide) (Nat.le_of_ble_eq_true rfl) ?_
  intro p e s m below meth c ls hC hr hlocks hl
  obtain ⟨hx, hb, hml, hown, hts⟩ := id hC
  have hl : lv_has ls 8 [(0, .long (lN a)), (2, .long (lN z)), (4, .long (lN b)), (6, .long (lN x))] := hl
  have h1 := pw_lt a z (show 0 < 2147483579 by decide)
  have h2 := pw_lt b (2147483578 - x) (show 0 < 2147483579 by decide)
  have h3 := mul_lt62 (show a ^ z % 2147483579 < 2 ^ 31 by omega) (show b ^ (2147483578 - x) % 2147483579 < 2 ^ 31 by omega)
  refine lv_lload_n hx hb dX5_quotient_0 rfl (lv_at hl 0 rfl) ?_
  refine lv_lload_n hx hb dX5_quotient_1 rfl (lv_at hl 1 rfl) ?_
  refine lv_ldc2 hx hb hown (hts _ ct_X5_93) dX5_quotient_2 ?_
  refine x_callS (As := [.long (lN a), .long (lN z), .long (lN 2147483579)]) (rest := []) hC sf_X5_95 (k5_power l a z 2147483579 ha hz (by decide) (by decide)) ⟨rfl, rfl, Nat.le_of_ble_eq_true rfl, Nat.le_of_ble_eq_true rfl⟩ hl.1 (Nat.le_of_ble_eq_true rfl) dX5_quotient_5 ⟨Nat.zero_le _, Nat.zero_le _⟩ rfl ?_
  refine lv_lload hx hb dX5_quotient_8 (lv_at hl 2 rfl) ?_
  refine lv_ldc2 hx hb hown (hts _ ct_X5_117) dX5_quotient_10 ?_
  refine lv_lload hx hb dX5_quotient_13 (lv_at hl 3 rfl) ?_
  refine lv_lsub hx hb dX5_quotient_15 ?_
  rw [lN_sub (by omega)]
  refine lv_ldc2 hx hb hown (hts _ ct_X5_93) dX5_quotient_16 ?_
  refine x_callS (As := [.long (lN b), .long (lN (2147483578 - x)), .long (lN 2147483579)]) (rest := [.long (lN (a ^ z % 2147483579))]) hC sf_X5_95 (k5_power l b (2147483578 - x) 2147483579 hb1 (by omega) (by decide) (by decide)) ⟨rfl, rfl, Nat.le_of_ble_eq_true rfl, Nat.le_of_ble_eq_true rfl⟩ hl.1 (Nat.le_of_ble_eq_true rfl) dX5_quotient_19 ⟨Nat.zero_le _, Nat.zero_le _⟩ rfl ?_
  refine lv_lmul hx hb dX5_quotient_22 ?_
  rw [lN_mul]
  refine lv_ldc2 hx hb hown (hts _ ct_X5_93) dX5_quotient_23 ?_
  refine lv_lrem hx hb dX5_quotient_26 (by decide) ?_
  rw [pk_lRem (by omega) (by decide) (by decide)]
  exact x_retL hx hb hr hlocks dX5_quotient_27
