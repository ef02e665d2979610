/-! methods of numbers: BeaconRing.Numbers, Math.floorMod, Integer.bitCount -/
theorem sh_k : ∀ n, n < 32 → ((nI n &&& 31).toBitVec.smod 32).toNat = n := by decide +kernel
theorem hb_val {b k : Nat} (hb : b < 2 ^ 31) (hk : k < 32) : (nI b >>> (nI k &&& 31)) &&& nI 1 = nI (tb b k) := by
  rw [pk_shrN hb _ k (sh_k k hk), pk_andN (by have := Nat.div_le_self b (2 ^ k); omega) 1 (by decide)]
  rfl
theorem mul_lt62 {a b : Nat} (ha : a < 2 ^ 31) (hb : b < 2 ^ 31) : a * b < 2 ^ 62 := by
  have := Nat.mul_lt_mul'' ha hb
  simpa using this

set_option maxHeartbeats 4000000 in
set_option maxRecDepth 100000 in
theorem k_hasBit (l : Launch) (b k : Nat) (hb0 : b < 2 ^ 31) (hk : k < 32) : MS l yX1_hasBit (.code yX1_hasBit cX1_hasBit 2 (some .boolean)) ({ frames := 0, cells := 0, slots := 0, locals := 0 }) [.int (nI b), .int (nI k)] (.int (nI (tb b k))) := by
  refine MS.of (by decide) (Nat.le_of_ble_eq_true rfl) ?_
  intro p e s m below meth c ls hC hr hlocks hl
  obtain ⟨hx, hb, hml, hown, hts⟩ := id hC
  have hl : lv_has ls 2 [(0, .int (nI b)), (1, .int (nI k))] := hl
  have htb := tb_lt b k
  refine lv_iload_n hx hb dX1_hasBit_0 rfl (lv_at hl 0 rfl) ?_
  refine lv_iload_n hx hb dX1_hasBit_1 rfl (lv_at hl 1 rfl) ?_
  refine lv_ishr hx hb dX1_hasBit_2 ?_
  refine lv_iconst (v := nI 1) hx hb dX1_hasBit_3 (by decide) ?_
  refine lv_iand hx hb dX1_hasBit_4 ?_
  rw [hb_val hb0 hk]
  refine lv_if_eq (tgt := 12) hx hb dX1_hasBit_5 (by decide) (fun hc => ?_) (fun hc => ?_)
  · rw [nI_z (by omega)] at hc
    rw [hc]
    refine lv_iconst (v := nI 0) hx hb dX1_hasBit_12 (by decide) ?_
    exact x_retZ hx hb hr hlocks (by decide) dX1_hasBit_13
  · rw [nI_z (by omega)] at hc
    rw [show tb b k = 1 by omega]
    refine lv_iconst (v := nI 1) hx hb dX1_hasBit_8 (by decide) ?_
    refine lv_goto (tgt := 13) hx hb dX1_hasBit_9 (by decide) ?_
    exact x_retZ hx hb hr hlocks (by decide) dX1_hasBit_13
set_option maxHeartbeats 4000000 in
set_option maxRecDepth 100000 in
theorem k_times (l : Launch) (a b : Nat) (ha : a < 2 ^ 31) (hb0 : b < 2 ^ 31) : MS l yX1_times (.code yX1_times cX1_times 2 (some .int)) ({ frames := 0, cells := 0, slots := 0, locals := 0 }) [.int (nI a), .int (nI b)] (.int (nI (a * b % 2147483579))) := by
  refine MS.of (by decide) (Nat.le_of_ble_eq_true rfl) ?_
  intro p e s m below meth c ls hC hr hlocks hl
  obtain ⟨hx, hb, hml, hown, hts⟩ := id hC
  have hl : lv_has ls 2 [(0, .int (nI a)), (1, .int (nI b))] := hl
  have hab := mul_lt62 ha hb0
  refine lv_iload_n hx hb dX1_times_0 rfl (lv_at hl 0 rfl) ?_
  refine lv_i2l hx hb dX1_times_1 (nI_l (by omega)) ?_
  refine lv_iload_n hx hb dX1_times_2 rfl (lv_at hl 1 rfl) ?_
  refine lv_i2l hx hb dX1_times_3 (nI_l (by omega)) ?_
  refine lv_lmul hx hb dX1_times_4 ?_
  rw [lN_mul]
  refine lv_ldc2 hx hb hown (hts _ ct_X1_9) dX1_times_5 ?_
  refine lv_lrem hx hb dX1_times_8 (by decide) ?_
  rw [pk_lRem (by omega) (by decide) (by decide)]
  refine lv_l2i hx hb dX1_times_9 (lN_i _) ?_
  exact x_retI hx hb hr hlocks dX1_times_10
set_option maxHeartbeats 4000000 in
set_option maxRecDepth 100000 in
theorem k_stir (l : Launch) (h x : Int64) : MS l yX1_stir (.code yX1_stir cX1_stir 6 (some .long)) ({ frames := 0, cells := 0, slots := 0, locals := 0 }) [.long h, .long x] (.long (stirF h x)) := by
  refine MS.of (by decide) (Nat.le_of_ble_eq_true rfl) ?_
  intro p e s m below meth c ls hC hr hlocks hl
  obtain ⟨hx, hb, hml, hown, hts⟩ := id hC
  have hl : lv_has ls 6 [(0, .long h), (2, .long x)] := hl
  refine lv_lload_n hx hb dX1_stir_0 rfl (lv_at hl 0 rfl) ?_
  refine lv_lload_n hx hb dX1_stir_1 rfl (lv_at hl 1 rfl) ?_
  refine lv_ladd hx hb dX1_stir_2 ?_
  refine lv_ldc2 hx hb hown (hts _ ct_X1_35) dX1_stir_3 ?_
  refine lv_lmul hx hb dX1_stir_6 ?_
  refine lv_ldc2 hx hb hown (hts _ ct_X1_37) dX1_stir_7 ?_
  refine lv_ladd hx hb dX1_stir_10 ?_
  refine lv_lstore (lv' := [(4, .long (((h + x) * ((6364136223846793005))) + ((1442695040888963407)))), (0, .long h), (2, .long x)]) hx hb dX1_stir_11 hl (by decide) rfl (fun ls hl => ?_)
  refine lv_lload hx hb dX1_stir_13 (lv_at hl 0 rfl) ?_
  refine lv_lload hx hb dX1_stir_15 (lv_at hl 0 rfl) ?_
  refine lv_bipush (v := nI 29) hx hb dX1_stir_17 (by decide) ?_
  refine lv_lushr hx hb dX1_stir_19 rfl ?_
  refine lv_lxor hx hb dX1_stir_20 ?_
  refine lv_ldc2 hx hb hown (hts _ ct_X1_39) dX1_stir_21 ?_
  refine lv_lmul hx hb dX1_stir_24 ?_
  refine lv_lstore (lv' := [(4, .long (((((h + x) * ((6364136223846793005))) + ((1442695040888963407))) ^^^ (((((h + x) * ((6364136223846793005))) + ((1442695040888963407))).toUInt64 >>> ((nI 29).toInt64.toUInt64 &&& Int64.toUInt64 63)).toInt64)) * ((2862933555777941757)))), (0, .long h), (2, .long x)]) hx hb dX1_stir_25 hl (by decide) rfl (fun ls hl => ?_)
  refine lv_lload hx hb dX1_stir_27 (lv_at hl 0 rfl) ?_
  refine lv_lload hx hb dX1_stir_29 (lv_at hl 0 rfl) ?_
  refine lv_bipush (v := nI 32) hx hb dX1_stir_31 (by decide) ?_
  refine lv_lushr hx hb dX1_stir_33 rfl ?_
  refine lv_lxor hx hb dX1_stir_34 ?_
  exact x_retL hx hb hr hlocks dX1_stir_35
set_option maxHeartbeats 4000000 in
set_option maxRecDepth 100000 in
theorem k_hash (l : Launch) (a b : Int64) : MS l yX1_hash (.code yX1_hash cX1_hash 4 (some .long)) ({ frames := 1, cells := 0, slots := 0, locals := 33 }) [.long a, .long b] (.long (stirF (stirF (lN 0) a) b)) := by
  refine MS.of (by decide) (Nat.le_of_ble_eq_true rfl) ?_
  intro p e s m below meth c ls hC hr hlocks hl
  obtain ⟨hx, hb, hml, hown, hts⟩ := id hC
  have hl : lv_has ls 4 [(0, .long a), (2, .long b)] := hl
  refine lv_lconst (v := lN 0) hx hb dX1_hash_0 (by decide) ?_
  refine lv_lload_n hx hb dX1_hash_1 rfl (lv_at hl 0 rfl) ?_
  refine x_callS (As := [.long (lN 0), .long a]) (rest := []) hC sf_X1_32 (k_stir l (lN 0) a) ⟨rfl, rfl, Nat.le_of_ble_eq_true rfl, Nat.le_of_ble_eq_true rfl⟩ hl.1 (Nat.le_of_ble_eq_true rfl) dX1_hash_2 ⟨Nat.zero_le _, Nat.zero_le _⟩ rfl ?_
  refine lv_lload_n hx hb dX1_hash_5 rfl (lv_at hl 1 rfl) ?_
  refine x_callS (As := [.long (stirF (lN 0) a), .long b]) (rest := []) hC sf_X1_32 (k_stir l (stirF (lN 0) a) b) ⟨rfl, rfl, Nat.le_of_ble_eq_true rfl, Nat.le_of_ble_eq_true rfl⟩ hl.1 (Nat.le_of_ble_eq_true rfl) dX1_hash_6 ⟨Nat.zero_le _, Nat.zero_le _⟩ rfl ?_
  exact x_retL hx hb hr hlocks dX1_hash_9
set_option maxHeartbeats 4000000 in
set_option maxRecDepth 100000 in
theorem k_power_loop {l : Launch} {p : Program} {e : Env} {s : State} {m : MethodId} {args : Array Value} {below : List Frame} {meth : Method} {c : Code} {H : Heap} {locs : List Loc} {Q : State → Prop} (hC : CallFix p m c cX1_power 4 s args wsL_law RX1) (a x : Nat) (ha : a < 2147483579) (hx0 : x < 2 ^ 31)
    (kx : ∀ ls : Array Slot, lv_has ls 4 [(2, .int (nI (a ^ x % 2147483579)))] → W p l e ({ frames := 1, cells := 0, slots := 0, locals := 29 }) s m args below meth c H locs 0 0 Q (F0 m 35 ls [])) :
    ∀ (b r : Nat), b ≤ 31 → r = a ^ (x / 2 ^ b) % 2147483579 → ∀ ls : Array Slot, lv_has ls 4 [(0, .int (nI a)), (1, .int (nI x)), (2, .int (nI r)), (3, .int (nI b - 1))] → W p l e ({ frames := 1, cells := 0, slots := 0, locals := 29 }) s m args below meth c H locs 0 0 Q (F0 m 5 ls []) := by
  obtain ⟨hx, hb, hml, hown, hts⟩ := id hC
  intro b
  induction b with
  | zero =>
    intro r _ hr0 ls hl
    refine lv_iload_n hx hb dX1_power_5 rfl (lv_at hl 3 rfl) ?_
    refine lv_if_lt (tgt := 35) hx hb dX1_power_6 (by decide) (fun hc => ?_) (fun hc => absurd (show nI 0 - 1 < 0 by decide) hc)
    refine kx ls (lv_sub hl [2] ?_)
    rw [hr0, Nat.pow_zero, Nat.div_one]
    rfl
  | succ b ih =>
    intro r hb31 hr0 ls hl
    have hrP : r < 2147483579 := by rw [hr0]; exact Nat.mod_lt _ (by decide)
    have hl : lv_has ls 4 [(0, .int (nI a)), (1, .int (nI x)), (2, .int (nI r)), (3, .int (nI b))] := by rw [nI_pred] at hl; exact hl
    have htb := tb_lt x b
    have hds := div_step x b
    refine lv_iload_n hx hb dX1_power_5 rfl (lv_at hl 3 rfl) ?_
    refine lv_if_lt (tgt := 35) hx hb dX1_power_6 (by decide) (fun hc => absurd hc (nI_pos (by omega))) (fun hc => ?_)
    refine lv_iload_n hx hb dX1_power_9 rfl (lv_at hl 2 rfl) ?_
    refine lv_iload_n hx hb dX1_power_10 rfl (lv_at hl 2 rfl) ?_
    refine x_callS (As := [.int (nI r), .int (nI r)]) (rest := []) hC sf_X1_11 (k_times l r r (by omega) (by omega)) ⟨rfl, rfl, Nat.le_of_ble_eq_true rfl, Nat.le_of_ble_eq_true rfl⟩ hl.1 (Nat.le_of_ble_eq_true rfl) dX1_power_11 ⟨Nat.zero_le _, Nat.zero_le _⟩ rfl ?_
    have hq1 : r * r % 2147483579 < 2147483579 := Nat.mod_lt _ (by decide)
    refine lv_istore_n (lv' := [(2, .int (nI (r * r % 2147483579))), (0, .int (nI a)), (1, .int (nI x)), (3, .int (nI b))]) hx hb dX1_power_14 rfl hl (by decide) rfl (fun ls hl => ?_)
    refine lv_iload_n hx hb dX1_power_15 rfl (lv_at hl 2 rfl) ?_
    refine lv_iload_n hx hb dX1_power_16 rfl (lv_at hl 3 rfl) ?_
    refine x_callS (As := [.int (nI x), .int (nI b)]) (rest := []) hC sf_X1_15 (k_hasBit l x b hx0 (by omega)) ⟨rfl, rfl, Nat.le_of_ble_eq_true rfl, Nat.le_of_ble_eq_true rfl⟩ hl.1 (Nat.le_of_ble_eq_true rfl) dX1_power_17 ⟨Nat.zero_le _, Nat.zero_le _⟩ rfl ?_
    refine lv_if_eq (tgt := 29) hx hb dX1_power_20 (by decide) (fun hc => ?_) (fun hc => ?_)
    · rw [nI_z (by omega)] at hc
      refine lv_iinc (v := nI b - 1) (lv' := [(3, .int (nI b - 1)), (2, .int (nI (r * r % 2147483579))), (0, .int (nI a)), (1, .int (nI x))]) hx hb dX1_power_29 hl (k := 3) rfl (by rw [Int32.sub_eq_add_neg]; rfl) (by decide) rfl (fun ls hl => ?_)
      refine lv_goto (tgt := 5) hx hb dX1_power_32 (by decide) ?_
      exact ih _ (by omega) (by rw [pw_sq hr0, hds, hc, Nat.add_zero]) ls (lv_sub hl [2, 3, 1, 0] rfl)
    · rw [nI_z (by omega)] at hc
      refine lv_iload_n hx hb dX1_power_23 rfl (lv_at hl 0 rfl) ?_
      refine lv_iload_n hx hb dX1_power_24 rfl (lv_at hl 1 rfl) ?_
      refine x_callS (As := [.int (nI (r * r % 2147483579)), .int (nI a)]) (rest := []) hC sf_X1_11 (k_times l (r * r % 2147483579) a (by omega) (by omega)) ⟨rfl, rfl, Nat.le_of_ble_eq_true rfl, Nat.le_of_ble_eq_true rfl⟩ hl.1 (Nat.le_of_ble_eq_true rfl) dX1_power_25 ⟨Nat.zero_le _, Nat.zero_le _⟩ rfl ?_
      refine lv_istore_n (lv' := [(2, .int (nI (r * r % 2147483579 * a % 2147483579))), (0, .int (nI a)), (1, .int (nI x)), (3, .int (nI b))]) hx hb dX1_power_28 rfl hl (by decide) rfl (fun ls hl => ?_)
      refine lv_iinc (v := nI b - 1) (lv' := [(3, .int (nI b - 1)), (2, .int (nI (r * r % 2147483579 * a % 2147483579))), (0, .int (nI a)), (1, .int (nI x))]) hx hb dX1_power_29 hl (k := 3) rfl (by rw [Int32.sub_eq_add_neg]; rfl) (by decide) rfl (fun ls hl => ?_)
      refine lv_goto (tgt := 5) hx hb dX1_power_32 (by decide) ?_
      exact ih _ (by omega) (by rw [pw_sm hr0, hds, show tb x b = 1 by omega]) ls (lv_sub hl [2, 3, 1, 0] rfl)
set_option maxHeartbeats 4000000 in
set_option maxRecDepth 100000 in
theorem k_power (l : Launch) (a x : Nat) (ha : a < 2147483579) (hx0 : x < 2 ^ 31) : MS l yX1_power (.code yX1_power cX1_power 4 (some .int)) ({ frames := 1, cells := 0, slots := 0, locals := 29 }) [.int (nI a), .int (nI x)] (.int (nI (a ^ x % 2147483579))) := by
  refine MS.of (by decide) (Nat.le_of_ble_eq_true rfl) ?_
  intro p e s m below meth c ls hC hr hlocks hl
  obtain ⟨hx, hb, hml, hown, hts⟩ := id hC
  have hl : lv_has ls 4 [(0, .int (nI a)), (1, .int (nI x))] := hl
  refine lv_iconst (v := nI 1) hx hb dX1_power_0 (by decide) ?_
  refine lv_istore_n (lv' := [(2, .int (nI 1)), (0, .int (nI a)), (1, .int (nI x))]) hx hb dX1_power_1 rfl hl (by decide) rfl (fun ls hl => ?_)
  refine lv_bipush (v := nI 30) hx hb dX1_power_2 (by decide) ?_
  refine lv_istore_n (lv' := [(3, .int (nI 30)), (2, .int (nI 1)), (0, .int (nI a)), (1, .int (nI x))]) hx hb dX1_power_4 rfl hl (by decide) rfl (fun ls hl => ?_)
  refine k_power_loop hC a x ha hx0 (fun ls hl => ?_) 31 1 (by decide) (by rw [Nat.div_eq_of_lt hx0]; rfl) ls (lv_sub hl [2, 3, 1, 0] rfl)
  refine lv_iload_n hx hb dX1_power_35 rfl (lv_at hl 0 rfl) ?_
  exact x_retI hx hb hr hlocks dX1_power_36
