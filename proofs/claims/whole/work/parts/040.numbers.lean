/-! methods of numbers: BeaconRing.Numbers, Math.floorMod, Integer.bitCount -/
theorem sh_k : ∀ n, n < 32 → ((nI n &&& 31).toBitVec.smod 32).toNat = n := by decide +kernel
theorem hb_val {b k : Nat} (hb : b < 2 ^ 31) (hk : k < 32) : (nI b >>> (nI k &&& 31)) &&& nI 1 = nI (tb b k) := by
  rw [pk_shrN hb _ k (sh_k k hk), pk_andN (by have := Nat.div_le_self b (2 ^ k); omega) 1 (by decide)]
  rfl
theorem MS.ofF {l : Launch} {y : MethodName} {bytes : ByteArray} {maxL : Nat} {ret : Option FieldType} {rm : Room} {av : List Value} {v : Value} (hy : plainFor y = true) (hav : (lg_sl av).length ≤ maxL)
    (body : ∀ (p : Program) (e : Env) (s : State) (m : MethodId) (below : List Frame) (meth : Method) (c : Code) (ls : Array Slot), CallFix p m c bytes maxL s av.toArray wsL_law y.cls → meth.sig.returnType = ret → meth.locks = false → lv_has ls maxL (lv_args 0 av) →
      W p l e rm s m av.toArray below meth c s.heap [] 0 0 (MQ below (QS v) av.toArray s 0 0 (fun _ => False)) (F0 m 0 ls [])) : MS l y (.code y bytes maxL ret) rm av v := by
  refine va_MetF (cc := bytes) (maxL := maxL) (ret := ret) hy rfl ?_
  intro p e s m args below meth c s₁ B hml hv
  obtain ⟨rfl, -⟩ := hv
  rw [lg_entry_eq]
  exact body p e s m below meth c _ ⟨B.exec, B.bytes, hml, findClass_of_methodNamed B.named, fun w hw => atoms_spec (ws := wq (.code y bytes maxL ret)) B.pre w (List.mem_cons_of_mem _ hw)⟩ B.returns B.notSynchronized (lv_entry av hav)
theorem mul_lt62 {a b : Nat} (ha : a < 2 ^ 31) (hb : b < 2 ^ 31) : a * b < 2 ^ 62 := by
  have := Nat.mul_lt_mul'' ha hb
  simpa using this

set_option maxHeartbeats 4000000 in
set_option maxRecDepth 100000 in
theorem k_hasBit (l : Launch) (b k : Nat) (hb0 : b < 2 ^ 31) (hk : k < 32) : MS l yX1_hasBit (.code yX1_hasBit cX1_hasBit 2 (some .boolean)) ({ frames := 0, cells := 0, slots := 0, locals := 0 }) [.int (nI b), .int (nI k)] (.int (nI (tb b k))) := by
  refine MS.of (by decide) (Nat.le_of_ble_eq_true rfl) ?_
  intro p e s m below meth c ls hC hr hlocks hl
  obtain ⟨hx, hb, hml, hown, hts⟩ := id hC
  have hl : lv_has ls 2 [(0, .int (nI b)), (1, .int (nI k))] := hl
  have htb := tb_lt b k
  refine lv_iload_n hx hb dX1_hasBit_0 rfl (lv_at hl 0 rfl) ?_
  refine lv_iload_n hx hb dX1_hasBit_1 rfl (lv_at hl 1 rfl) ?_
  refine lv_ishr hx hb dX1_hasBit_2 ?_
  refine lv_iconst (v := nI 1) hx hb dX1_hasBit_3 (by decide) ?_
  refine lv_iand hx hb dX1_hasBit_4 ?_
  rw [hb_val hb0 hk]
  refine lv_if_eq (tgt := 12) hx hb dX1_hasBit_5 (by decide) (fun hc => ?_) (fun hc => ?_)
  · rw [nI_z (by omega)] at hc
    rw [hc]
    refine lv_iconst (v := nI 0) hx hb dX1_hasBit_12 (by decide) ?_
    exact x_retZ hx hb hr hlocks (by decide) dX1_hasBit_13
  · rw [nI_z (by omega)] at hc
    rw [show tb b k = 1 by omega]
    refine lv_iconst (v := nI 1) hx hb dX1_hasBit_8 (by decide) ?_
    refine lv_goto (tgt := 13) hx hb dX1_hasBit_9 (by decide) ?_
    exact x_retZ hx hb hr hlocks (by decide) dX1_hasBit_13
set_option maxHeartbeats 4000000 in
set_option maxRecDepth 100000 in
theorem k_times (l : Launch) (a b : Nat) (ha : a < 2 ^ 31) (hb0 : b < 2 ^ 31) : MS l yX1_times (.code yX1_times cX1_times 2 (some .int)) ({ frames := 0, cells := 0, slots := 0, locals := 0 }) [.int (nI a), .int (nI b)] (.int (nI (a * b % 2147483579))) := by
  refine MS.of (by decide) (Nat.le_of_ble_eq_true rfl) ?_
  intro p e s m below meth c ls hC hr hlocks hl
  obtain ⟨hx, hb, hml, hown, hts⟩ := id hC
  have hl : lv_has ls 2 [(0, .int (nI a)), (1, .int (nI b))] := hl
  have hab := mul_lt62 ha hb0
  refine lv_iload_n hx hb dX1_times_0 rfl (lv_at hl 0 rfl) ?_
  refine lv_i2l hx hb dX1_times_1 (nI_l (by omega)) ?_
  refine lv_iload_n hx hb dX1_times_2 rfl (lv_at hl 1 rfl) ?_
  refine lv_i2l hx hb dX1_times_3 (nI_l (by omega)) ?_
  refine lv_lmul hx hb dX1_times_4 ?_
  rw [lN_mul]
  refine lv_ldc2 hx hb hown (hts _ ct_X1_9) dX1_times_5 ?_
  refine lv_lrem hx hb dX1_times_8 (by decide) ?_
  rw [pk_lRem (by omega) (by decide) (by decide)]
  refine lv_l2i hx hb dX1_times_9 (lN_i _) ?_
  exact x_retI hx hb hr hlocks dX1_times_10
set_option maxHeartbeats 4000000 in
set_option maxRecDepth 100000 in
theorem k_stir (l : Launch) (h x : Int64) : MS l yX1_stir (.code yX1_stir cX1_stir 6 (some .long)) ({ frames := 0, cells := 0, slots := 0, locals := 0 }) [.long h, .long x] (.long (stirF h x)) := by
  refine MS.of (by decide) (Nat.le_of_ble_eq_true rfl) ?_
  intro p e s m below meth c ls hC hr hlocks hl
  obtain ⟨hx, hb, hml, hown, hts⟩ := id hC
  have hl : lv_has ls 6 [(0, .long h), (2, .long x)] := hl
  refine lv_lload_n hx hb dX1_stir_0 rfl (lv_at hl 0 rfl) ?_
  refine lv_lload_n hx hb dX1_stir_1 rfl (lv_at hl 1 rfl) ?_
  refine lv_ladd hx hb dX1_stir_2 ?_
  refine lv_ldc2 hx hb hown (hts _ ct_X1_35) dX1_stir_3 ?_
  refine lv_lmul hx hb dX1_stir_6 ?_
  refine lv_ldc2 hx hb hown (hts _ ct_X1_37) dX1_stir_7 ?_
  refine lv_ladd hx hb dX1_stir_10 ?_
  refine lv_lstore (lv' := [(4, .long (((h + x) * ((6364136223846793005))) + ((1442695040888963407)))), (0, .long h), (2, .long x)]) hx hb dX1_stir_11 hl (by decide) rfl (fun ls hl => ?_)
  refine lv_lload hx hb dX1_stir_13 (lv_at hl 0 rfl) ?_
  refine lv_lload hx hb dX1_stir_15 (lv_at hl 0 rfl) ?_
  refine lv_bipush (v := nI 29) hx hb dX1_stir_17 (by decide) ?_
  refine lv_lushr hx hb dX1_stir_19 rfl ?_
  refine lv_lxor hx hb dX1_stir_20 ?_
  refine lv_ldc2 hx hb hown (hts _ ct_X1_39) dX1_stir_21 ?_
  refine lv_lmul hx hb dX1_stir_24 ?_
  refine lv_lstore (lv' := [(4, .long (((((h + x) * ((6364136223846793005))) + ((1442695040888963407))) ^^^ (((((h + x) * ((6364136223846793005))) + ((1442695040888963407))).toUInt64 >>> ((nI 29).toInt64.toUInt64 &&& Int64.toUInt64 63)).toInt64)) * ((2862933555777941757)))), (0, .long h), (2, .long x)]) hx hb dX1_stir_25 hl (by decide) rfl (fun ls hl => ?_)
  refine lv_lload hx hb dX1_stir_27 (lv_at hl 0 rfl) ?_
  refine lv_lload hx hb dX1_stir_29 (lv_at hl 0 rfl) ?_
  refine lv_bipush (v := nI 32) hx hb dX1_stir_31 (by decide) ?_
  refine lv_lushr hx hb dX1_stir_33 rfl ?_
  refine lv_lxor hx hb dX1_stir_34 ?_
  exact x_retL hx hb hr hlocks dX1_stir_35
set_option maxHeartbeats 4000000 in
set_option maxRecDepth 100000 in
theorem k_hash (l : Launch) (a b : Int64) : MS l yX1_hash (.code yX1_hash cX1_hash 4 (some .long)) ({ frames := 1, cells := 0, slots := 0, locals := 33 }) [.long a, .long b] (.long (stirF (stirF (lN 0) a) b)) := by
  refine MS.of (by decide) (Nat.le_of_ble_eq_true rfl) ?_
  intro p e s m below meth c ls hC hr hlocks hl
  obtain ⟨hx, hb, hml, hown, hts⟩ := id hC
  have hl : lv_has ls 4 [(0, .long a), (2, .long b)] := hl
  refine lv_lconst (v := lN 0) hx hb dX1_hash_0 (by decide) ?_
  refine lv_lload_n hx hb dX1_hash_1 rfl (lv_at hl 0 rfl) ?_
  refine x_callS (As := [.long (lN 0), .long a]) (rest := []) hC sf_X1_32 (k_stir l (lN 0) a) ⟨rfl, rfl, Nat.le_of_ble_eq_true rfl, Nat.le_of_ble_eq_true rfl⟩ hl.1 (Nat.le_of_ble_eq_true rfl) dX1_hash_2 ⟨Nat.zero_le _, Nat.zero_le _⟩ rfl ?_
  refine lv_lload_n hx hb dX1_hash_5 rfl (lv_at hl 1 rfl) ?_
  refine x_callS (As := [.long (stirF (lN 0) a), .long b]) (rest := []) hC sf_X1_32 (k_stir l (stirF (lN 0) a) b) ⟨rfl, rfl, Nat.le_of_ble_eq_true rfl, Nat.le_of_ble_eq_true rfl⟩ hl.1 (Nat.le_of_ble_eq_true rfl) dX1_hash_6 ⟨Nat.zero_le _, Nat.zero_le _⟩ rfl ?_
  exact x_retL hx hb hr hlocks dX1_hash_9
set_option maxHeartbeats 4000000 in
set_option maxRecDepth 100000 in
theorem k_power_loop {l : Launch} {p : Program} {e : Env} {s : State} {m : MethodId} {args : Array Value} {below : List Frame} {meth : Method} {c : Code} {H : Heap} {locs : List Loc} {Q : State → Prop} (hC : CallFix p m c cX1_power 4 s args wsL_law RX1) (a x : Nat) (ha : a < 2147483579) (hx0 : x < 2 ^ 31)
    (kx : ∀ ls : Array Slot, lv_has ls 4 [(2, .int (nI (a ^ x % 2147483579)))] → W p l e ({ frames := 1, cells := 0, slots := 0, locals := 29 }) s m args below meth c H locs 0 0 Q (F0 m 35 ls [])) :
    ∀ (b r : Nat), b ≤ 31 → r = a ^ (x / 2 ^ b) % 2147483579 → ∀ ls : Array Slot, lv_has ls 4 [(0, .int (nI a)), (1, .int (nI x)), (2, .int (nI r)), (3, .int (nI b - 1))] → W p l e ({ frames := 1, cells := 0, slots := 0, locals := 29 }) s m args below meth c H locs 0 0 Q (F0 m 5 ls []) := by
  obtain ⟨hx, hb, hml, hown, hts⟩ := id hC
  intro b
  induction b with
  | zero =>
    intro r _ hr0 ls hl
    refine lv_iload_n hx hb dX1_power_5 rfl (lv_at hl 3 rfl) ?_
    refine lv_if_lt (tgt := 35) hx hb dX1_power_6 (by decide) (fun hc => ?_) (fun hc => absurd (show nI 0 - 1 < 0 by decide) hc)
    refine kx ls (lv_sub hl [2] ?_)
    rw [hr0, Nat.pow_zero, Nat.div_one]
    rfl
  | succ b ih =>
    intro r hb31 hr0 ls hl
    have hrP : r < 2147483579 := by rw [hr0]; exact Nat.mod_lt _ (by decide)
    have hl : lv_has ls 4 [(0, .int (nI a)), (1, .int (nI x)), (2, .int (nI r)), (3, .int (nI b))] := by rw [nI_pred] at hl; exact hl
    have htb := tb_lt x b
    have hds := div_step x b
    refine lv_iload_n hx hb dX1_power_5 rfl (lv_at hl 3 rfl) ?_
    refine lv_if_lt (tgt := 35) hx hb dX1_power_6 (by decide) (fun hc => absurd hc (nI_pos (by omega))) (fun hc => ?_)
    refine lv_iload_n hx hb dX1_power_9 rfl (lv_at hl 2 rfl) ?_
    refine lv_iload_n hx hb dX1_power_10 rfl (lv_at hl 2 rfl) ?_
    refine x_callS (As := [.int (nI r), .int (nI r)]) (rest := []) hC sf_X1_11 (k_times l r r (by omega) (by omega)) ⟨rfl, rfl, Nat.le_of_ble_eq_true rfl, Nat.le_of_ble_eq_true rfl⟩ hl.1 (Nat.le_of_ble_eq_true rfl) dX1_power_11 ⟨Nat.zero_le _, Nat.zero_le _⟩ rfl ?_
    have hq1 : r * r % 2147483579 < 2147483579 := Nat.mod_lt _ (by decide)
    refine lv_istore_n (lv' := [(2, .int (nI (r * r % 2147483579))), (0, .int (nI a)), (1, .int (nI x)), (3, .int (nI b))]) hx hb dX1_power_14 rfl hl (by decide) rfl (fun ls hl => ?_)
    refine lv_iload_n hx hb dX1_power_15 rfl (lv_at hl 2 rfl) ?_
    refine lv_iload_n hx hb dX1_power_16 rfl (lv_at hl 3 rfl) ?_
    refine x_callS (As := [.int (nI x), .int (nI b)]) (rest := []) hC sf_X1_15 (k_hasBit l x b hx0 (by omega)) ⟨rfl, rfl, Nat.le_of_ble_eq_true rfl, Nat.le_of_ble_eq_true rfl⟩ hl.1 (Nat.le_of_ble_eq_true rfl) dX1_power_17 ⟨Nat.zero_le _, Nat.zero_le _⟩ rfl ?_
    refine lv_if_eq (tgt := 29) hx hb dX1_power_20 (by decide) (fun hc => ?_) (fun hc => ?_)
    · rw [nI_z (by omega)] at hc
      refine lv_iinc (v := nI b - 1) (lv' := [(3, .int (nI b - 1)), (2, .int (nI (r * r % 2147483579))), (0, .int (nI a)), (1, .int (nI x))]) hx hb dX1_power_29 hl (k := 3) rfl (by rw [Int32.sub_eq_add_neg]; rfl) (by decide) rfl (fun ls hl => ?_)
      refine lv_goto (tgt := 5) hx hb dX1_power_32 (by decide) ?_
      exact ih _ (by omega) (by rw [pw_sq hr0]; congr 2; omega) ls (lv_sub hl [2, 3, 1, 0] rfl)
    · rw [nI_z (by omega)] at hc
      refine lv_iload_n hx hb dX1_power_23 rfl (lv_at hl 0 rfl) ?_
      refine lv_iload_n hx hb dX1_power_24 rfl (lv_at hl 1 rfl) ?_
      refine x_callS (As := [.int (nI (r * r % 2147483579)), .int (nI a)]) (rest := []) hC sf_X1_11 (k_times l (r * r % 2147483579) a (by omega) (by omega)) ⟨rfl, rfl, Nat.le_of_ble_eq_true rfl, Nat.le_of_ble_eq_true rfl⟩ hl.1 (Nat.le_of_ble_eq_true rfl) dX1_power_25 ⟨Nat.zero_le _, Nat.zero_le _⟩ rfl ?_
      refine lv_istore_n (lv' := [(2, .int (nI (r * r % 2147483579 * a % 2147483579))), (0, .int (nI a)), (1, .int (nI x)), (3, .int (nI b))]) hx hb dX1_power_28 rfl hl (by decide) rfl (fun ls hl => ?_)
      refine lv_iinc (v := nI b - 1) (lv' := [(3, .int (nI b - 1)), (2, .int (nI (r * r % 2147483579 * a % 2147483579))), (0, .int (nI a)), (1, .int (nI x))]) hx hb dX1_power_29 hl (k := 3) rfl (by rw [Int32.sub_eq_add_neg]; rfl) (by decide) rfl (fun ls hl => ?_)
      refine lv_goto (tgt := 5) hx hb dX1_power_32 (by decide) ?_
      exact ih _ (by omega) (by rw [pw_sm hr0]; congr 2; omega) ls (lv_sub hl [2, 3, 1, 0] rfl)
set_option maxHeartbeats 4000000 in
set_option maxRecDepth 100000 in
theorem k_power (l : Launch) (a x : Nat) (ha : a < 2147483579) (hx0 : x < 2 ^ 31) : MS l yX1_power (.code yX1_power cX1_power 4 (some .int)) ({ frames := 1, cells := 0, slots := 0, locals := 29 }) [.int (nI a), .int (nI x)] (.int (nI (a ^ x % 2147483579))) := by
  refine MS.of (by decide) (Nat.le_of_ble_eq_true rfl) ?_
  intro p e s m below meth c ls hC hr hlocks hl
  obtain ⟨hx, hb, hml, hown, hts⟩ := id hC
  have hl : lv_has ls 4 [(0, .int (nI a)), (1, .int (nI x))] := hl
  refine lv_iconst (v := nI 1) hx hb dX1_power_0 (by decide) ?_
  refine lv_istore_n (lv' := [(2, .int (nI 1)), (0, .int (nI a)), (1, .int (nI x))]) hx hb dX1_power_1 rfl hl (by decide) rfl (fun ls hl => ?_)
  refine lv_bipush (v := nI 30) hx hb dX1_power_2 (by decide) ?_
  refine lv_istore_n (lv' := [(3, .int (nI 30)), (2, .int (nI 1)), (0, .int (nI a)), (1, .int (nI x))]) hx hb dX1_power_4 rfl hl (by decide) rfl (fun ls hl => ?_)
  refine k_power_loop hC a x ha hx0 (fun ls hl => ?_) 31 1 (by decide) (by rw [Nat.div_eq_of_lt hx0]; rfl) ls (lv_sub hl [2, 3, 1, 0] rfl)
  refine lv_iload_n hx hb dX1_power_35 rfl (lv_at hl 0 rfl) ?_
  exact x_retI hx hb hr hlocks dX1_power_36
set_option maxHeartbeats 4000000 in
set_option maxRecDepth 100000 in
theorem k_floorMod (l : Launch) (x : Int64) (b : Nat) (h0 : 0 < b) (hb0 : b < 2 ^ 31) : MS l yJ9_floorMod_f86c9 (.code yJ9_floorMod_f86c9 cJ9_floorMod_f86c9 6 (some .long)) ({ frames := 0, cells := 0, slots := 0, locals := 0 }) [.long x, .long (lN b)] (.long (lN (md x b))) := by
  refine MS.ofF (by decide +kernel) (Nat.le_of_ble_eq_true rfl) ?_
  intro p e s m below meth c ls hC hr hlocks hl
  obtain ⟨hx, hb, hml, hown, hts⟩ := id hC
  have hl : lv_has ls 6 [(0, .long x), (2, .long (lN b))] := hl
  have hne : ¬ lN b = 0 := fun q => by have := congrArg Int64.toInt q; rw [pk_lT (by omega)] at this; simp at this; omega
  refine lv_lload_n hx hb dJ9_floorMod_f86c9_0 rfl (lv_at hl 0 rfl) ?_
  refine lv_lload_n hx hb dJ9_floorMod_f86c9_1 rfl (lv_at hl 1 rfl) ?_
  refine lv_lrem hx hb dJ9_floorMod_f86c9_2 hne ?_
  refine lv_lstore (lv' := [(4, .long (x - x / lN b * lN b)), (0, .long x), (2, .long (lN b))]) hx hb dJ9_floorMod_f86c9_3 hl (by decide) rfl (fun ls hl => ?_)
  refine lv_lload_n hx hb dJ9_floorMod_f86c9_5 rfl (lv_at hl 1 rfl) ?_
  refine lv_lload_n hx hb dJ9_floorMod_f86c9_6 rfl (lv_at hl 2 rfl) ?_
  refine lv_lxor hx hb dJ9_floorMod_f86c9_7 ?_
  refine lv_lconst (v := lN 0) hx hb dJ9_floorMod_f86c9_8 (by decide) ?_
  refine W.lcmp hx hb dJ9_floorMod_f86c9_9 ?_
  refine lv_if_ge (tgt := 25) hx hb dJ9_floorMod_f86c9_10 (by decide) (fun hc => ?_) (fun hc => ?_)
  · rw [lg_cmp_ge] at hc
    rw [show lN 0 = 0 from rfl, l_xor_nn (lN_nn (by omega))] at hc
    refine lv_lload hx hb dJ9_floorMod_f86c9_25 (lv_at hl 0 rfl) ?_
    rw [rem_nn h0 hb0 hc]
    exact x_retL hx hb hr hlocks dJ9_floorMod_f86c9_27
  · rw [lg_cmp_ge] at hc
    rw [show lN 0 = 0 from rfl, l_xor_nn (lN_nn (by omega))] at hc
    refine lv_lload hx hb dJ9_floorMod_f86c9_13 (lv_at hl 0 rfl) ?_
    refine lv_lconst (v := lN 0) hx hb dJ9_floorMod_f86c9_15 (by decide) ?_
    refine W.lcmp hx hb dJ9_floorMod_f86c9_16 ?_
    refine lv_if_eq (tgt := 25) hx hb dJ9_floorMod_f86c9_17 (by decide) (fun hc2 => ?_) (fun hc2 => ?_)
    · rw [lg_cmp_eq] at hc2
      refine lv_lload hx hb dJ9_floorMod_f86c9_25 (lv_at hl 0 rfl) ?_
      rw [rem_z h0 hb0 hc2]
      exact x_retL hx hb hr hlocks dJ9_floorMod_f86c9_27
    · rw [lg_cmp_eq] at hc2
      refine lv_lload hx hb dJ9_floorMod_f86c9_20 (lv_at hl 0 rfl) ?_
      refine lv_lload_n hx hb dJ9_floorMod_f86c9_22 rfl (lv_at hl 2 rfl) ?_
      refine lv_ladd hx hb dJ9_floorMod_f86c9_23 ?_
      rw [rem_neg h0 hb0 hc hc2]
      exact x_retL hx hb hr hlocks dJ9_floorMod_f86c9_24
set_option maxHeartbeats 4000000 in
set_option maxRecDepth 100000 in
theorem k_toExponent (l : Launch) (x : Int64) : MS l yX1_toExponent (.code yX1_toExponent cX1_toExponent 2 (some .int)) ({ frames := 1, cells := 0, slots := 0, locals := 33 }) [.long x] (.int (nI (md x 1073741789))) := by
  refine MS.of (by decide) (Nat.le_of_ble_eq_true rfl) ?_
  intro p e s m below meth c ls hC hr hlocks hl
  obtain ⟨hx, hb, hml, hown, hts⟩ := id hC
  have hl : lv_has ls 2 [(0, .long x)] := hl
  refine lv_lload_n hx hb dX1_toExponent_0 rfl (lv_at hl 0 rfl) ?_
  refine lv_ldc2 hx hb hown (hts _ ct_X1_24) dX1_toExponent_1 ?_
  refine x_callS (As := [.long x, .long (lN 1073741789)]) (rest := []) hC sf_X1_26 (k_floorMod l x 1073741789 (by decide) (by decide)) ⟨rfl, rfl, Nat.le_of_ble_eq_true rfl, Nat.le_of_ble_eq_true rfl⟩ hl.1 (Nat.le_of_ble_eq_true rfl) dX1_toExponent_4 ⟨Nat.zero_le _, Nat.zero_le _⟩ rfl ?_
  refine lv_l2i hx hb dX1_toExponent_7 (lN_i _) ?_
  exact x_retI hx hb hr hlocks dX1_toExponent_8
set_option maxHeartbeats 4000000 in
set_option maxRecDepth 100000 in
theorem k_powerBelow (l : Launch) (a x : Nat) (ha : a < 2147483579) (hx0 : x ≤ 1073741789) : MS l yX1_powerBelow (.code yX1_powerBelow cX1_powerBelow 2 (some .int)) ({ frames := 2, cells := 0, slots := 0, locals := 60 }) [.int (nI a), .int (nI x)] (.int (nI (a ^ (1073741789 - x) % 2147483579))) := by
  refine MS.of (by decide) (Nat.le_of_ble_eq_true rfl) ?_
  intro p e s m below meth c ls hC hr hlocks hl
  obtain ⟨hx, hb, hml, hown, hts⟩ := id hC
  have hl : lv_has ls 2 [(0, .int (nI a)), (1, .int (nI x))] := hl
  refine lv_iload_n hx hb dX1_powerBelow_0 rfl (lv_at hl 0 rfl) ?_
  refine lv_ldc hx hb hown (hts _ ct_X1_19) dX1_powerBelow_1 ?_
  refine lv_iload_n hx hb dX1_powerBelow_3 rfl (lv_at hl 1 rfl) ?_
  refine t_isub hx hb dX1_powerBelow_4 (v := nI (1073741789 - x)) (pk_sub (by omega)) ?_
  refine x_callS (As := [.int (nI a), .int (nI (1073741789 - x))]) (rest := []) hC sf_X1_20 (k_power l a (1073741789 - x) ha (by omega)) ⟨rfl, rfl, Nat.le_of_ble_eq_true rfl, Nat.le_of_ble_eq_true rfl⟩ hl.1 (Nat.le_of_ble_eq_true rfl) dX1_powerBelow_5 ⟨Nat.zero_le _, Nat.zero_le _⟩ rfl ?_
  exact x_retI hx hb hr hlocks dX1_powerBelow_8
set_option maxHeartbeats 4000000 in
set_option maxRecDepth 100000 in
theorem k_isExponent (l : Launch) (x : Nat) (hx0 : x < 1073741789) : MS l yX1_isExponent (.code yX1_isExponent cX1_isExponent 1 (some .boolean)) ({ frames := 0, cells := 0, slots := 0, locals := 0 }) [.int (nI x)] (.int (nI 1)) := by
  refine MS.of (by decide) (Nat.le_of_ble_eq_true rfl) ?_
  intro p e s m below meth c ls hC hr hlocks hl
  obtain ⟨hx, hb, hml, hown, hts⟩ := id hC
  have hl : lv_has ls 1 [(0, .int (nI x))] := hl
  refine lv_iload_n hx hb dX1_isExponent_0 rfl (lv_at hl 0 rfl) ?_
  refine lv_if_lt (tgt := 14) hx hb dX1_isExponent_1 (by decide) (fun hc => absurd hc (nI_pos (by omega))) (fun hc => ?_)
  refine lv_iload_n hx hb dX1_isExponent_4 rfl (lv_at hl 0 rfl) ?_
  refine lv_ldc hx hb hown (hts _ ct_X1_19) dX1_isExponent_5 ?_
  refine lv_icmp_ge (tgt := 14) hx hb dX1_isExponent_7 (by decide) (fun hc => ?_) (fun hc => ?_)
  · rw [nI_leI (by omega) (by omega)] at hc
    omega
  · rw [nI_leI (by omega) (by omega)] at hc
    refine lv_iconst (v := nI 1) hx hb dX1_isExponent_10 (by decide) ?_
    refine lv_goto (tgt := 15) hx hb dX1_isExponent_11 (by decide) ?_
    exact x_retZ hx hb hr hlocks (by decide) dX1_isExponent_15
set_option maxHeartbeats 4000000 in
set_option maxRecDepth 100000 in
theorem k_isExponentN (l : Launch) (x : Int32) (hx0 : x < 0 ∨ nI 1073741789 ≤ x) : MS l yX1_isExponent (.code yX1_isExponent cX1_isExponent 1 (some .boolean)) ({ frames := 0, cells := 0, slots := 0, locals := 0 }) [.int x] (.int (nI 0)) := by
  refine MS.of (by decide) (Nat.le_of_ble_eq_true rfl) ?_
  intro p e s m below meth c ls hC hr hlocks hl
  obtain ⟨hx, hb, hml, hown, hts⟩ := id hC
  have hl : lv_has ls 1 [(0, .int x)] := hl
  refine lv_iload_n hx hb dX1_isExponent_0 rfl (lv_at hl 0 rfl) ?_
  refine lv_if_lt (tgt := 14) hx hb dX1_isExponent_1 (by decide) (fun hc => ?_) (fun hc => ?_)
  · skip
    refine lv_iconst (v := nI 0) hx hb dX1_isExponent_14 (by decide) ?_
    exact x_retZ hx hb hr hlocks (by decide) dX1_isExponent_15
  · skip
    refine lv_iload_n hx hb dX1_isExponent_4 rfl (lv_at hl 0 rfl) ?_
    refine lv_ldc hx hb hown (hts _ ct_X1_19) dX1_isExponent_5 ?_
    refine lv_icmp_ge (tgt := 14) hx hb dX1_isExponent_7 (by decide) (fun hc2 => ?_) (fun hc2 => absurd (hx0.resolve_left hc) hc2)
    refine lv_iconst (v := nI 0) hx hb dX1_isExponent_14 (by decide) ?_
    exact x_retZ hx hb hr hlocks (by decide) dX1_isExponent_15
set_option maxHeartbeats 4000000 in
set_option maxRecDepth 100000 in
theorem k_isInGroup (l : Launch) (a : Nat) (ha : a < 2 ^ 31) : MS l yX1_isInGroup (.code yX1_isInGroup cX1_isInGroup 1 (some .boolean)) ({ frames := 2, cells := 0, slots := 0, locals := 60 }) [.int (nI a)] (.int (if 1 ≤ a ∧ a < 2147483579 ∧ a ^ 1073741789 % 2147483579 = 1 then nI 1 else nI 0)) := by
  refine MS.of (by decide) (Nat.le_of_ble_eq_true rfl) ?_
  intro p e s m below meth c ls hC hr hlocks hl
  obtain ⟨hx, hb, hml, hown, hts⟩ := id hC
  have hl : lv_has ls 1 [(0, .int (nI a))] := hl
  refine lv_iload_n hx hb dX1_isInGroup_0 rfl (lv_at hl 0 rfl) ?_
  refine lv_iconst (v := nI 1) hx hb dX1_isInGroup_1 (by decide) ?_
  refine lv_icmp_lt (tgt := 25) hx hb dX1_isInGroup_2 (by decide) (fun hc => ?_) (fun hc => ?_)
  · rw [nI_ltI (by omega) (by omega)] at hc
    rw [if_neg (by omega)]
    refine lv_iconst (v := nI 0) hx hb dX1_isInGroup_25 (by decide) ?_
    exact x_retZ hx hb hr hlocks (by decide) dX1_isInGroup_26
  · rw [nI_ltI (by omega) (by omega)] at hc
    refine lv_iload_n hx hb dX1_isInGroup_5 rfl (lv_at hl 0 rfl) ?_
    refine lv_ldc hx hb hown (hts _ ct_X1_23) dX1_isInGroup_6 ?_
    refine lv_icmp_ge (tgt := 25) hx hb dX1_isInGroup_8 (by decide) (fun hc2 => ?_) (fun hc2 => ?_)
    · rw [nI_leI (by omega) (by omega)] at hc2
      rw [if_neg (by omega)]
      refine lv_iconst (v := nI 0) hx hb dX1_isInGroup_25 (by decide) ?_
      exact x_retZ hx hb hr hlocks (by decide) dX1_isInGroup_26
    · rw [nI_leI (by omega) (by omega)] at hc2
      refine lv_iload_n hx hb dX1_isInGroup_11 rfl (lv_at hl 0 rfl) ?_
      refine lv_ldc hx hb hown (hts _ ct_X1_19) dX1_isInGroup_12 ?_
      have hp := pw_lt a 1073741789 (show 0 < 2147483579 by decide)
      refine x_callS (As := [.int (nI a), .int (nI 1073741789)]) (rest := []) hC sf_X1_20 (k_power l a 1073741789 (by omega) (by decide)) ⟨rfl, rfl, Nat.le_of_ble_eq_true rfl, Nat.le_of_ble_eq_true rfl⟩ hl.1 (Nat.le_of_ble_eq_true rfl) dX1_isInGroup_14 ⟨Nat.zero_le _, Nat.zero_le _⟩ rfl ?_
      refine lv_iconst (v := nI 1) hx hb dX1_isInGroup_17 (by decide) ?_
      refine lv_icmp_ne (tgt := 25) hx hb dX1_isInGroup_18 (by decide) (fun hc3 => ?_) (fun hc3 => ?_)
      · rw [nI_eq (by omega) (by omega)] at hc3
        rw [if_neg (fun q => hc3 q.2.2)]
        refine lv_iconst (v := nI 0) hx hb dX1_isInGroup_25 (by decide) ?_
        exact x_retZ hx hb hr hlocks (by decide) dX1_isInGroup_26
      · rw [nI_eq (by omega) (by omega)] at hc3
        rw [if_pos ⟨by omega, by omega, hc3⟩]
        refine lv_iconst (v := nI 1) hx hb dX1_isInGroup_21 (by decide) ?_
        refine lv_goto (tgt := 26) hx hb dX1_isInGroup_22 (by decide) ?_
        exact x_retZ hx hb hr hlocks (by decide) dX1_isInGroup_26
set_option maxHeartbeats 4000000 in
set_option maxRecDepth 100000 in
theorem k_bitCount (l : Launch) (x : Int32) : MS l yJ6_bitCount_0f7a4 (.code yJ6_bitCount_0f7a4 cJ6_bitCount_0f7a4 1 (some .int)) ({ frames := 0, cells := 0, slots := 0, locals := 0 }) [.int x] (.int (bcI x)) := by
  refine MS.of (by decide) (Nat.le_of_ble_eq_true rfl) ?_
  intro p e s m below meth c ls hC hr hlocks hl
  obtain ⟨hx, hb, hml, hown, hts⟩ := id hC
  have hl : lv_has ls 1 [(0, .int x)] := hl
  refine lv_iload_n hx hb dJ6_bitCount_0f7a4_0 rfl (lv_at hl 0 rfl) ?_
  refine lv_iload_n hx hb dJ6_bitCount_0f7a4_1 rfl (lv_at hl 0 rfl) ?_
  refine lv_iconst (v := nI 1) hx hb dJ6_bitCount_0f7a4_2 (by decide) ?_
  refine lv_iushr hx hb dJ6_bitCount_0f7a4_3 rfl ?_
  refine lv_ldcw hx hb hown (hts _ ct_J6_265) dJ6_bitCount_0f7a4_4 ?_
  refine lv_iand hx hb dJ6_bitCount_0f7a4_7 ?_
  refine lv_isub hx hb dJ6_bitCount_0f7a4_8 ?_
  refine lv_istore_n (lv' := [(0, .int (x - (((x.toUInt32 >>> ((nI 1).toUInt32 &&& Int32.toUInt32 31)).toInt32) &&& (nI 1431655765))))]) hx hb dJ6_bitCount_0f7a4_9 rfl hl (by decide) rfl (fun ls hl => ?_)
  refine lv_iload_n hx hb dJ6_bitCount_0f7a4_10 rfl (lv_at hl 0 rfl) ?_
  refine lv_ldcw hx hb hown (hts _ ct_J6_266) dJ6_bitCount_0f7a4_11 ?_
  refine lv_iand hx hb dJ6_bitCount_0f7a4_14 ?_
  refine lv_iload_n hx hb dJ6_bitCount_0f7a4_15 rfl (lv_at hl 0 rfl) ?_
  refine lv_iconst (v := nI 2) hx hb dJ6_bitCount_0f7a4_16 (by decide) ?_
  refine lv_iushr hx hb dJ6_bitCount_0f7a4_17 rfl ?_
  refine lv_ldcw hx hb hown (hts _ ct_J6_266) dJ6_bitCount_0f7a4_18 ?_
  refine lv_iand hx hb dJ6_bitCount_0f7a4_21 ?_
  refine lv_iadd hx hb dJ6_bitCount_0f7a4_22 ?_
  refine lv_istore_n (lv' := [(0, .int (((x - (((x.toUInt32 >>> ((nI 1).toUInt32 &&& Int32.toUInt32 31)).toInt32) &&& (nI 1431655765))) &&& (nI 858993459)) + ((((x - (((x.toUInt32 >>> ((nI 1).toUInt32 &&& Int32.toUInt32 31)).toInt32) &&& (nI 1431655765))).toUInt32 >>> ((nI 2).toUInt32 &&& Int32.toUInt32 31)).toInt32) &&& (nI 858993459))))]) hx hb dJ6_bitCount_0f7a4_23 rfl hl (by decide) rfl (fun ls hl => ?_)
  refine lv_iload_n hx hb dJ6_bitCount_0f7a4_24 rfl (lv_at hl 0 rfl) ?_
  refine lv_iload_n hx hb dJ6_bitCount_0f7a4_25 rfl (lv_at hl 0 rfl) ?_
  refine lv_iconst (v := nI 4) hx hb dJ6_bitCount_0f7a4_26 (by decide) ?_
  refine lv_iushr hx hb dJ6_bitCount_0f7a4_27 rfl ?_
  refine lv_iadd hx hb dJ6_bitCount_0f7a4_28 ?_
  refine lv_ldcw hx hb hown (hts _ ct_J6_267) dJ6_bitCount_0f7a4_29 ?_
  refine lv_iand hx hb dJ6_bitCount_0f7a4_32 ?_
  refine lv_istore_n (lv' := [(0, .int (((((x - (((x.toUInt32 >>> ((nI 1).toUInt32 &&& Int32.toUInt32 31)).toInt32) &&& (nI 1431655765))) &&& (nI 858993459)) + ((((x - (((x.toUInt32 >>> ((nI 1).toUInt32 &&& Int32.toUInt32 31)).toInt32) &&& (nI 1431655765))).toUInt32 >>> ((nI 2).toUInt32 &&& Int32.toUInt32 31)).toInt32) &&& (nI 858993459))) + (((((x - (((x.toUInt32 >>> ((nI 1).toUInt32 &&& Int32.toUInt32 31)).toInt32) &&& (nI 1431655765))) &&& (nI 858993459)) + ((((x - (((x.toUInt32 >>> ((nI 1).toUInt32 &&& Int32.toUInt32 31)).toInt32) &&& (nI 1431655765))).toUInt32 >>> ((nI 2).toUInt32 &&& Int32.toUInt32 31)).toInt32) &&& (nI 858993459))).toUInt32 >>> ((nI 4).toUInt32 &&& Int32.toUInt32 31)).toInt32)) &&& (nI 252645135)))]) hx hb dJ6_bitCount_0f7a4_33 rfl hl (by decide) rfl (fun ls hl => ?_)
  refine lv_iload_n hx hb dJ6_bitCount_0f7a4_34 rfl (lv_at hl 0 rfl) ?_
  refine lv_iload_n hx hb dJ6_bitCount_0f7a4_35 rfl (lv_at hl 0 rfl) ?_
  refine lv_bipush (v := nI 8) hx hb dJ6_bitCount_0f7a4_36 (by decide) ?_
  refine lv_iushr hx hb dJ6_bitCount_0f7a4_38 rfl ?_
  refine lv_iadd hx hb dJ6_bitCount_0f7a4_39 ?_
  refine lv_istore_n (lv' := [(0, .int ((((((x - (((x.toUInt32 >>> ((nI 1).toUInt32 &&& Int32.toUInt32 31)).toInt32) &&& (nI 1431655765))) &&& (nI 858993459)) + ((((x - (((x.toUInt32 >>> ((nI 1).toUInt32 &&& Int32.toUInt32 31)).toInt32) &&& (nI 1431655765))).toUInt32 >>> ((nI 2).toUInt32 &&& Int32.toUInt32 31)).toInt32) &&& (nI 858993459))) + (((((x - (((x.toUInt32 >>> ((nI 1).toUInt32 &&& Int32.toUInt32 31)).toInt32) &&& (nI 1431655765))) &&& (nI 858993459)) + ((((x - (((x.toUInt32 >>> ((nI 1).toUInt32 &&& Int32.toUInt32 31)).toInt32) &&& (nI 1431655765))).toUInt32 >>> ((nI 2).toUInt32 &&& Int32.toUInt32 31)).toInt32) &&& (nI 858993459))).toUInt32 >>> ((nI 4).toUInt32 &&& Int32.toUInt32 31)).toInt32)) &&& (nI 252645135)) + (((((((x - (((x.toUInt32 >>> ((nI 1).toUInt32 &&& Int32.toUInt32 31)).toInt32) &&& (nI 1431655765))) &&& (nI 858993459)) + ((((x - (((x.toUInt32 >>> ((nI 1).toUInt32 &&& Int32.toUInt32 31)).toInt32) &&& (nI 1431655765))).toUInt32 >>> ((nI 2).toUInt32 &&& Int32.toUInt32 31)).toInt32) &&& (nI 858993459))) + (((((x - (((x.toUInt32 >>> ((nI 1).toUInt32 &&& Int32.toUInt32 31)).toInt32) &&& (nI 1431655765))) &&& (nI 858993459)) + ((((x - (((x.toUInt32 >>> ((nI 1).toUInt32 &&& Int32.toUInt32 31)).toInt32) &&& (nI 1431655765))).toUInt32 >>> ((nI 2).toUInt32 &&& Int32.toUInt32 31)).toInt32) &&& (nI 858993459))).toUInt32 >>> ((nI 4).toUInt32 &&& Int32.toUInt32 31)).toInt32)) &&& (nI 252645135)).toUInt32 >>> ((nI 8).toUInt32 &&& Int32.toUInt32 31)).toInt32)))]) hx hb dJ6_bitCount_0f7a4_40 rfl hl (by decide) rfl (fun ls hl => ?_)
  refine lv_iload_n hx hb dJ6_bitCount_0f7a4_41 rfl (lv_at hl 0 rfl) ?_
  refine lv_iload_n hx hb dJ6_bitCount_0f7a4_42 rfl (lv_at hl 0 rfl) ?_
  refine lv_bipush (v := nI 16) hx hb dJ6_bitCount_0f7a4_43 (by decide) ?_
  refine lv_iushr hx hb dJ6_bitCount_0f7a4_45 rfl ?_
  refine lv_iadd hx hb dJ6_bitCount_0f7a4_46 ?_
  refine lv_istore_n (lv' := [(0, .int (((((((x - (((x.toUInt32 >>> ((nI 1).toUInt32 &&& Int32.toUInt32 31)).toInt32) &&& (nI 1431655765))) &&& (nI 858993459)) + ((((x - (((x.toUInt32 >>> ((nI 1).toUInt32 &&& Int32.toUInt32 31)).toInt32) &&& (nI 1431655765))).toUInt32 >>> ((nI 2).toUInt32 &&& Int32.toUInt32 31)).toInt32) &&& (nI 858993459))) + (((((x - (((x.toUInt32 >>> ((nI 1).toUInt32 &&& Int32.toUInt32 31)).toInt32) &&& (nI 1431655765))) &&& (nI 858993459)) + ((((x - (((x.toUInt32 >>> ((nI 1).toUInt32 &&& Int32.toUInt32 31)).toInt32) &&& (nI 1431655765))).toUInt32 >>> ((nI 2).toUInt32 &&& Int32.toUInt32 31)).toInt32) &&& (nI 858993459))).toUInt32 >>> ((nI 4).toUInt32 &&& Int32.toUInt32 31)).toInt32)) &&& (nI 252645135)) + (((((((x - (((x.toUInt32 >>> ((nI 1).toUInt32 &&& Int32.toUInt32 31)).toInt32) &&& (nI 1431655765))) &&& (nI 858993459)) + ((((x - (((x.toUInt32 >>> ((nI 1).toUInt32 &&& Int32.toUInt32 31)).toInt32) &&& (nI 1431655765))).toUInt32 >>> ((nI 2).toUInt32 &&& Int32.toUInt32 31)).toInt32) &&& (nI 858993459))) + (((((x - (((x.toUInt32 >>> ((nI 1).toUInt32 &&& Int32.toUInt32 31)).toInt32) &&& (nI 1431655765))) &&& (nI 858993459)) + ((((x - (((x.toUInt32 >>> ((nI 1).toUInt32 &&& Int32.toUInt32 31)).toInt32) &&& (nI 1431655765))).toUInt32 >>> ((nI 2).toUInt32 &&& Int32.toUInt32 31)).toInt32) &&& (nI 858993459))).toUInt32 >>> ((nI 4).toUInt32 &&& Int32.toUInt32 31)).toInt32)) &&& (nI 252645135)).toUInt32 >>> ((nI 8).toUInt32 &&& Int32.toUInt32 31)).toInt32)) + ((((((((x - (((x.toUInt32 >>> ((nI 1).toUInt32 &&& Int32.toUInt32 31)).toInt32) &&& (nI 1431655765))) &&& (nI 858993459)) + ((((x - (((x.toUInt32 >>> ((nI 1).toUInt32 &&& Int32.toUInt32 31)).toInt32) &&& (nI 1431655765))).toUInt32 >>> ((nI 2).toUInt32 &&& Int32.toUInt32 31)).toInt32) &&& (nI 858993459))) + (((((x - (((x.toUInt32 >>> ((nI 1).toUInt32 &&& Int32.toUInt32 31)).toInt32) &&& (nI 1431655765))) &&& (nI 858993459)) + ((((x - (((x.toUInt32 >>> ((nI 1).toUInt32 &&& Int32.toUInt32 31)).toInt32) &&& (nI 1431655765))).toUInt32 >>> ((nI 2).toUInt32 &&& Int32.toUInt32 31)).toInt32) &&& (nI 858993459))).toUInt32 >>> ((nI 4).toUInt32 &&& Int32.toUInt32 31)).toInt32)) &&& (nI 252645135)) + (((((((x - (((x.toUInt32 >>> ((nI 1).toUInt32 &&& Int32.toUInt32 31)).toInt32) &&& (nI 1431655765))) &&& (nI 858993459)) + ((((x - (((x.toUInt32 >>> ((nI 1).toUInt32 &&& Int32.toUInt32 31)).toInt32) &&& (nI 1431655765))).toUInt32 >>> ((nI 2).toUInt32 &&& Int32.toUInt32 31)).toInt32) &&& (nI 858993459))) + (((((x - (((x.toUInt32 >>> ((nI 1).toUInt32 &&& Int32.toUInt32 31)).toInt32) &&& (nI 1431655765))) &&& (nI 858993459)) + ((((x - (((x.toUInt32 >>> ((nI 1).toUInt32 &&& Int32.toUInt32 31)).toInt32) &&& (nI 1431655765))).toUInt32 >>> ((nI 2).toUInt32 &&& Int32.toUInt32 31)).toInt32) &&& (nI 858993459))).toUInt32 >>> ((nI 4).toUInt32 &&& Int32.toUInt32 31)).toInt32)) &&& (nI 252645135)).toUInt32 >>> ((nI 8).toUInt32 &&& Int32.toUInt32 31)).toInt32)).toUInt32 >>> ((nI 16).toUInt32 &&& Int32.toUInt32 31)).toInt32)))]) hx hb dJ6_bitCount_0f7a4_47 rfl hl (by decide) rfl (fun ls hl => ?_)
  refine lv_iload_n hx hb dJ6_bitCount_0f7a4_48 rfl (lv_at hl 0 rfl) ?_
  refine lv_bipush (v := nI 63) hx hb dJ6_bitCount_0f7a4_49 (by decide) ?_
  refine lv_iand hx hb dJ6_bitCount_0f7a4_51 ?_
  exact x_retI hx hb hr hlocks dJ6_bitCount_0f7a4_52
