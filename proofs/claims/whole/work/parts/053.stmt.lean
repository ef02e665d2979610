/-! the statement's methods -/
def inr (a : Nat) (b : Int32) : Prop := 0 ≤ (a : Int) + b.toInt ∧ (a : Int) + b.toInt < 2147483648
theorem inr_of {a : Nat} {b : Int32} (h : inr a b) : ∃ x : Nat, x < 2147483648 ∧ (a : Int) + b.toInt = (x : Int) := ⟨((a : Int) + b.toInt).toNat, by have := h.1; have := h.2; omega, by have := h.1; omega⟩
theorem i32_lo (b : Int32) : -2147483648 ≤ b.toInt ∧ b.toInt < 2147483648 := ⟨b.le_toInt, b.toInt_lt⟩
theorem sumL {a : Nat} (ha : a < 2147483648) (b : Int32) : (lN a + b.toInt64).toInt = (a : Int) + b.toInt := by
  have := i32_lo b
  rw [Int64.toInt_add, pk_lT (by omega), Int32.toInt_toInt64, Int.bmod_def]
  omega
theorem sumI {a x : Nat} (ha : a < 2147483648) {b : Int32} (hx : x < 2147483648) (h : (a : Int) + b.toInt = (x : Int)) : nI a + b = nI x := by
  apply Int32.toInt_inj.mp
  rw [Int32.toInt_add, nI_toInt (by omega), nI_toInt (by omega), h, Int.bmod_def]
  omega
def chF (b p a f s : Nat) : Nat := md (stirF (stirF (stirF (stirF (stirF (lN 0) (lN b)) (lN p)) (lN a)) (lN f)) (lN s)) 1073741789
theorem chF_lt (b p a f s : Nat) : chF b p a f s < 1073741789 := md_lt _ (by decide)
def saW (key : Nat) (M : Int64) : Nat := md (stirF (stirF (lN 0) (lN key)) M) 1073741789
theorem saW_lt (key : Nat) (M : Int64) : saW key M < 1073741789 := md_lt _ (by decide)
def saC (key pub base : Nat) (M : Int64) : Nat := chF base pub (base ^ key % 2147483579) (4 ^ saW key M % 2147483579) (base ^ saW key M % 2147483579)
def saZ (key pub base : Nat) (M : Int64) : Nat := (saC key pub base M * key + saW key M) % 1073741789
def hldF (a x y pub base : Nat) : Prop := 1 ≤ a ∧ a < 2147483579 ∧ a ^ 1073741789 % 2147483579 = 1 ∧ x < 1073741789 ∧ y < 1073741789 ∧ x = chF base pub a (4 ^ y % 2147483579 * (pub ^ (1073741789 - x) % 2147483579) % 2147483579) (base ^ y % 2147483579 * (a ^ (1073741789 - x) % 2147483579) % 2147483579)
theorem mul_lt60 {a b : Nat} (ha : a < 1073741789) (hb : b < 1073741789) : a * b < 2 ^ 60 := by
  have := Nat.mul_lt_mul'' ha hb
  have h2 : 1073741789 * 1073741789 < 2 ^ 60 := by decide
  omega

set_option maxHeartbeats 4000000 in
set_option maxRecDepth 100000 in
theorem k_canAdd (l : Launch) (a : Nat) (b : Int32) (ha : a < 2147483648) (inst : Decidable (inr a b)) : MS l yX3_canAdd (.code yX3_canAdd cX3_canAdd 4 (some .boolean)) ({ frames := 0, cells := 0, slots := 0, locals := 0 }) [.int (nI a), .int b] (.int (if inr a b then nI 1 else nI 0)) := by
  refine MS.of (by decide) (Nat.le_of_ble_eq_true rfl) ?_
  intro p e s m below meth c ls hC hr hlocks hl
  obtain ⟨hx, hb, hml, hown, hts⟩ := id hC
  have hl : lv_has ls 4 [(0, .int (nI a)), (1, .int b)] := hl
  have hs := sumL ha b
  refine lv_iload_n hx hb dX3_canAdd_0 rfl (lv_at hl 0 rfl) ?_
  refine lv_i2l hx hb dX3_canAdd_1 (nI_l (by omega)) ?_
  refine lv_iload_n hx hb dX3_canAdd_2 rfl (lv_at hl 1 rfl) ?_
  refine lv_i2l hx hb dX3_canAdd_3 rfl ?_
  refine lv_ladd hx hb dX3_canAdd_4 ?_
  refine lv_lstore_n (lv' := [(2, .long ((lN a) + b.toInt64)), (0, .int (nI a)), (1, .int b)]) hx hb dX3_canAdd_5 rfl hl (by decide) rfl (fun ls hl => ?_)
  refine lv_lload_n hx hb dX3_canAdd_6 rfl (lv_at hl 0 rfl) ?_
  refine lv_lconst (v := lN 0) hx hb dX3_canAdd_7 (by decide) ?_
  refine W.lcmp hx hb dX3_canAdd_8 ?_
  refine lv_if_lt (tgt := 24) hx hb dX3_canAdd_9 (by decide) (fun hc => ?_) (fun hc => ?_)
  · rw [lg_cmp_lt] at hc
    rw [Int64.lt_iff_toInt_lt, hs, pk_lT (by decide)] at hc
    rw [if_neg (fun q => by have := q.1; omega)]
    refine lv_iconst (v := nI 0) hx hb dX3_canAdd_24 (by decide) ?_
    exact x_retZ hx hb hr hlocks (by decide) dX3_canAdd_25
  · rw [lg_cmp_lt] at hc
    rw [Int64.lt_iff_toInt_lt, hs, pk_lT (by decide)] at hc
    refine lv_lload_n hx hb dX3_canAdd_12 rfl (lv_at hl 0 rfl) ?_
    refine lv_ldc2 hx hb hown (hts _ ct_X3_59) dX3_canAdd_13 ?_
    refine W.lcmp hx hb dX3_canAdd_16 ?_
    refine lv_if_gt (tgt := 24) hx hb dX3_canAdd_17 (by decide) (fun hc2 => ?_) (fun hc2 => ?_)
    · rw [lg_cmp_gt] at hc2
      rw [Int64.lt_iff_toInt_lt, hs, pk_lT (by decide)] at hc2
      rw [if_neg (fun q => by have := q.2; omega)]
      refine lv_iconst (v := nI 0) hx hb dX3_canAdd_24 (by decide) ?_
      exact x_retZ hx hb hr hlocks (by decide) dX3_canAdd_25
    · rw [lg_cmp_gt] at hc2
      rw [Int64.lt_iff_toInt_lt, hs, pk_lT (by decide)] at hc2
      rw [if_pos ⟨by omega, by omega⟩]
      refine lv_iconst (v := nI 1) hx hb dX3_canAdd_20 (by decide) ?_
      refine lv_goto (tgt := 25) hx hb dX3_canAdd_21 (by decide) ?_
      exact x_retZ hx hb hr hlocks (by decide) dX3_canAdd_25
set_option maxHeartbeats 4000000 in
set_option maxRecDepth 100000 in
theorem k_challenge (l : Launch) {D : va_G} {cI cJ cZ cD : ClassId} {ad : Nat → Nat} {w : Nat → va_E} {sz : Nat} (a : Nat) (ha : a < 2 ^ 31) (x y : Int32) (pub base f g : Nat) (h1 : pub < 2 ^ 31) (h2 : base < 2 ^ 31) (h3 : f < 2 ^ 31) (h4 : g < 2 ^ 31) (hSt : w 76 = .inr (2, [.int (nI a), .int x, .int y])) : MW l yX3_challenge (.code yX3_challenge cX3_challenge 7 (some .int)) ({ frames := 2, cells := 0, slots := 0, locals := 64 }) [.ref (ad 76), .int (nI pub), .int (nI base), .int (nI f), .int (nI g)] D (tyL cI cJ cZ cD) ad 89 w sz (some (.int (nI (chF base pub a f g)))) (fun u => u = w) := by
  refine MW.of (by decide) (Nat.le_of_ble_eq_true rfl) ?_
  intro p e s m below meth c ls hC hr hlocks hl hw
  obtain ⟨hx, hb, hml, hown, hts⟩ := id hC
  have hA : ∀ q, s.heap.size ≤ q → xA ad 89 s.heap.size q := fun q h => Or.inr h
  have hl : lv_has ls 7 [(0, .ref (ad 76)), (1, .int (nI pub)), (2, .int (nI base)), (3, .int (nI f)), (4, .int (nI g))] := hl
  refine lv_iload_n hx hb dX3_challenge_0 rfl (lv_at hl 2 rfl) ?_
  refine lv_i2l hx hb dX3_challenge_1 (nI_l (by omega)) ?_
  refine lv_iload_n hx hb dX3_challenge_2 rfl (lv_at hl 1 rfl) ?_
  refine lv_i2l hx hb dX3_challenge_3 (nI_l (by omega)) ?_
  refine x_callS (As := [.long (lN base), .long (lN pub)]) (rest := []) hC sf_X3_9 (k_hash l (lN base) (lN pub)) ⟨rfl, rfl, Nat.le_of_ble_eq_true rfl, Nat.le_of_ble_eq_true rfl⟩ hl.1 (Nat.le_of_ble_eq_true rfl) dX3_challenge_4 ⟨Nat.zero_le _, Nat.zero_le _⟩ rfl ?_
  refine lv_aload_n hx hb dX3_challenge_7 rfl (lv_at hl 0 rfl) ?_
  refine gf_X3_23 hx hb hts hown hw (by decide) hSt rfl dX3_challenge_8 ?_
  refine lv_i2l hx hb dX3_challenge_11 (nI_l (by omega)) ?_
  refine x_callS (As := [.long (stirF (stirF (lN 0) (lN base)) (lN pub)), .long (lN a)]) (rest := []) hC sf_X3_56 (k_stir l (stirF (stirF (lN 0) (lN base)) (lN pub)) (lN a)) ⟨rfl, rfl, Nat.le_of_ble_eq_true rfl, Nat.le_of_ble_eq_true rfl⟩ hl.1 (Nat.le_of_ble_eq_true rfl) dX3_challenge_12 ⟨Nat.zero_le _, Nat.zero_le _⟩ rfl ?_
  refine lv_lstore (lv' := [(5, .long (stirF (stirF (stirF (lN 0) (lN base)) (lN pub)) (lN a))), (0, .ref (ad 76)), (1, .int (nI pub)), (2, .int (nI base)), (3, .int (nI f)), (4, .int (nI g))]) hx hb dX3_challenge_15 hl (by decide) rfl (fun ls hl => ?_)
  refine lv_lload hx hb dX3_challenge_17 (lv_at hl 0 rfl) ?_
  refine lv_iload_n hx hb dX3_challenge_19 rfl (lv_at hl 4 rfl) ?_
  refine lv_i2l hx hb dX3_challenge_20 (nI_l (by omega)) ?_
  refine x_callS (As := [.long (stirF (stirF (stirF (lN 0) (lN base)) (lN pub)) (lN a)), .long (lN f)]) (rest := []) hC sf_X3_56 (k_stir l (stirF (stirF (stirF (lN 0) (lN base)) (lN pub)) (lN a)) (lN f)) ⟨rfl, rfl, Nat.le_of_ble_eq_true rfl, Nat.le_of_ble_eq_true rfl⟩ hl.1 (Nat.le_of_ble_eq_true rfl) dX3_challenge_21 ⟨Nat.zero_le _, Nat.zero_le _⟩ rfl ?_
  refine lv_iload hx hb dX3_challenge_24 (lv_at hl 5 rfl) ?_
  refine lv_i2l hx hb dX3_challenge_26 (nI_l (by omega)) ?_
  refine x_callS (As := [.long (stirF (stirF (stirF (stirF (lN 0) (lN base)) (lN pub)) (lN a)) (lN f)), .long (lN g)]) (rest := []) hC sf_X3_56 (k_stir l (stirF (stirF (stirF (stirF (lN 0) (lN base)) (lN pub)) (lN a)) (lN f)) (lN g)) ⟨rfl, rfl, Nat.le_of_ble_eq_true rfl, Nat.le_of_ble_eq_true rfl⟩ hl.1 (Nat.le_of_ble_eq_true rfl) dX3_challenge_27 ⟨Nat.zero_le _, Nat.zero_le _⟩ rfl ?_
  refine x_callS (As := [.long (stirF (stirF (stirF (stirF (stirF (lN 0) (lN base)) (lN pub)) (lN a)) (lN f)) (lN g))]) (rest := []) hC sf_X3_15 (k_toExponent l (stirF (stirF (stirF (stirF (stirF (lN 0) (lN base)) (lN pub)) (lN a)) (lN f)) (lN g))) ⟨rfl, rfl, Nat.le_of_ble_eq_true rfl, Nat.le_of_ble_eq_true rfl⟩ hl.1 (Nat.le_of_ble_eq_true rfl) dX3_challenge_30 ⟨Nat.zero_le _, Nat.zero_le _⟩ rfl ?_
  exact x_wretI hx hb hr hlocks hw rfl dX3_challenge_33
set_option maxHeartbeats 4000000 in
set_option maxRecDepth 100000 in
theorem k_state (l : Launch) {D : va_G} {cI cJ cZ cD : ClassId} {ad : Nat → Nat} {w : Nat → va_E} {sz : Nat} (a x y : Int32) (key pub base : Nat) (M : Int64) (h1 : key < 1073741789) (h2 : pub < 2 ^ 31) (h3 : base < 2147483579) (hSt : w 76 = .inr (2, [.int a, .int x, .int y])) : MW l yX3_state (.code yX3_state cX3_state 7 none) ({ frames := 3, cells := 0, slots := 0, locals := 98 }) [.ref (ad 76), .int (nI key), .int (nI pub), .int (nI base), .long M] D (tyL cI cJ cZ cD) ad 89 w sz none (fun u => u = va_up w 76 (.inr (2, [.int (nI (base ^ key % 2147483579)), .int (nI (saC key pub base M)), .int (nI (saZ key pub base M))]))) := by
  refine MW.of (by decide) (Nat.le_of_ble_eq_true rfl) ?_
  intro p e s m below meth c ls hC hr hlocks hl hw
  obtain ⟨hx, hb, hml, hown, hts⟩ := id hC
  have hA : ∀ q, s.heap.size ≤ q → xA ad 89 s.heap.size q := fun q h => Or.inr h
  have hl : lv_has ls 7 [(0, .ref (ad 76)), (1, .int (nI key)), (2, .int (nI pub)), (3, .int (nI base)), (4, .long M)] := hl
  have hw1 := saW_lt key M
  have hp1 := pw_lt base key (show 0 < 2147483579 by decide)
  have hp2 := pw_lt 4 (saW key M) (show 0 < 2147483579 by decide)
  have hp3 := pw_lt base (saW key M) (show 0 < 2147483579 by decide)
  have hc1 : saC key pub base M < 1073741789 := chF_lt _ _ _ _ _
  have hck := mul_lt60 hc1 h1
  refine lv_iload_n hx hb dX3_state_0 rfl (lv_at hl 1 rfl) ?_
  refine lv_i2l hx hb dX3_state_1 (nI_l (by omega)) ?_
  refine lv_lload hx hb dX3_state_2 (lv_at hl 4 rfl) ?_
  refine x_callS (As := [.long (lN key), .long M]) (rest := []) hC sf_X3_9 (k_hash l (lN key) M) ⟨rfl, rfl, Nat.le_of_ble_eq_true rfl, Nat.le_of_ble_eq_true rfl⟩ hl.1 (Nat.le_of_ble_eq_true rfl) dX3_state_4 ⟨Nat.zero_le _, Nat.zero_le _⟩ rfl ?_
  refine x_callS (As := [.long (stirF (stirF (lN 0) (lN key)) M)]) (rest := []) hC sf_X3_15 (k_toExponent l (stirF (stirF (lN 0) (lN key)) M)) ⟨rfl, rfl, Nat.le_of_ble_eq_true rfl, Nat.le_of_ble_eq_true rfl⟩ hl.1 (Nat.le_of_ble_eq_true rfl) dX3_state_7 ⟨Nat.zero_le _, Nat.zero_le _⟩ rfl ?_
  refine lv_istore (lv' := [(6, .int (nI (saW key M))), (0, .ref (ad 76)), (1, .int (nI key)), (2, .int (nI pub)), (3, .int (nI base)), (4, .long M)]) hx hb dX3_state_10 hl (by decide) rfl (fun ls hl => ?_)
  refine lv_aload_n hx hb dX3_state_12 rfl (lv_at hl 1 rfl) ?_
  refine lv_iload_n hx hb dX3_state_13 rfl (lv_at hl 4 rfl) ?_
  refine lv_iload_n hx hb dX3_state_14 rfl (lv_at hl 2 rfl) ?_
  refine x_callS (As := [.int (nI base), .int (nI key)]) (rest := [.ref (ad 76)]) hC sf_X3_19 (k_power l base key h3 (by omega)) ⟨rfl, rfl, Nat.le_of_ble_eq_true rfl, Nat.le_of_ble_eq_true rfl⟩ hl.1 (Nat.le_of_ble_eq_true rfl) dX3_state_15 ⟨Nat.zero_le _, Nat.zero_le _⟩ rfl ?_
  refine pf_X3_23 (v := .int (nI (base ^ key % 2147483579))) hx hb hts hown hw (by decide) hSt rfl rfl (Nat.le_of_ble_eq_true rfl) dX3_state_18 (fun w_1 H locs ew_2 hw => ?_)
  have hc_3 : w_1 76 = .inr (2, [.int (nI (base ^ key % 2147483579)), .int x, .int y]) := by rw [ew_2]; exact va_up_self _ _ _
  refine lv_aload_n hx hb dX3_state_21 rfl (lv_at hl 1 rfl) ?_
  refine lv_aload_n hx hb dX3_state_22 rfl (lv_at hl 1 rfl) ?_
  refine lv_iload_n hx hb dX3_state_23 rfl (lv_at hl 3 rfl) ?_
  refine lv_iload_n hx hb dX3_state_24 rfl (lv_at hl 4 rfl) ?_
  refine lv_iconst (v := nI 4) hx hb dX3_state_25 (by decide) ?_
  refine lv_iload hx hb dX3_state_26 (lv_at hl 0 rfl) ?_
  refine x_callS (As := [.int (nI 4), .int (nI (saW key M))]) (rest := [.int (nI base), .int (nI pub), .ref (ad 76), .ref (ad 76)]) hC sf_X3_19 (k_power l 4 (saW key M) (by decide) (by omega)) ⟨rfl, rfl, Nat.le_of_ble_eq_true rfl, Nat.le_of_ble_eq_true rfl⟩ hl.1 (Nat.le_of_ble_eq_true rfl) dX3_state_28 ⟨Nat.zero_le _, Nat.zero_le _⟩ rfl ?_
  refine lv_iload_n hx hb dX3_state_31 rfl (lv_at hl 4 rfl) ?_
  refine lv_iload hx hb dX3_state_32 (lv_at hl 0 rfl) ?_
  refine x_callS (As := [.int (nI base), .int (nI (saW key M))]) (rest := [.int (nI (4 ^ saW key M % 2147483579)), .int (nI base), .int (nI pub), .ref (ad 76), .ref (ad 76)]) hC sf_X3_19 (k_power l base (saW key M) h3 (by omega)) ⟨rfl, rfl, Nat.le_of_ble_eq_true rfl, Nat.le_of_ble_eq_true rfl⟩ hl.1 (Nat.le_of_ble_eq_true rfl) dX3_state_34 ⟨Nat.zero_le _, Nat.zero_le _⟩ rfl ?_
  refine x_callW1 (As := [.int (nI pub), .int (nI base), .int (nI (4 ^ saW key M % 2147483579)), .int (nI (base ^ saW key M % 2147483579))]) (rest := [.ref (ad 76)]) hC vf_X3_29 hw hA (by decide) hc_3 rfl rfl (k_challenge l (base ^ key % 2147483579) (by omega) _ _ pub base (4 ^ saW key M % 2147483579) (base ^ saW key M % 2147483579) h2 (by omega) (by omega) (by omega) hc_3) ⟨rfl, rfl, Nat.le_of_ble_eq_true rfl, Nat.le_of_ble_eq_true rfl⟩ hl.1 (Nat.le_of_ble_eq_true rfl) dX3_state_37 ⟨Nat.zero_le _, Nat.zero_le _⟩ rfl (fun w_4 H locs hu hw => ?_)
  rw [hu] at hw
  refine pf_X3_33 (v := .int (nI (saC key pub base M))) hx hb hts hown hw (by decide) hc_3 rfl rfl (Nat.le_of_ble_eq_true rfl) dX3_state_40 (fun w_5 H locs ew_6 hw => ?_)
  have hc_7 : w_5 76 = .inr (2, [.int (nI (base ^ key % 2147483579)), .int (nI (saC key pub base M)), .int y]) := by rw [ew_6]; exact va_up_self _ _ _
  refine lv_aload_n hx hb dX3_state_43 rfl (lv_at hl 1 rfl) ?_
  refine lv_aload_n hx hb dX3_state_44 rfl (lv_at hl 1 rfl) ?_
  refine gf_X3_33 hx hb hts hown hw (by decide) hc_7 rfl dX3_state_45 ?_
  refine lv_i2l hx hb dX3_state_48 (nI_l (by omega)) ?_
  refine lv_iload_n hx hb dX3_state_49 rfl (lv_at hl 2 rfl) ?_
  refine lv_i2l hx hb dX3_state_50 (nI_l (by omega)) ?_
  refine lv_lmul hx hb dX3_state_51 ?_
  rw [lN_mul]
  refine lv_iload hx hb dX3_state_52 (lv_at hl 0 rfl) ?_
  refine lv_i2l hx hb dX3_state_54 (nI_l (by omega)) ?_
  refine t_ladd hx hb dX3_state_55 (v := lN ((saC key pub base M) * key + (saW key M))) (lN_add _ _) ?_
  refine x_callS (As := [.long (lN ((saC key pub base M) * key + (saW key M)))]) (rest := [.ref (ad 76)]) hC sf_X3_15 (k_toExponent l (lN (saC key pub base M * key + saW key M))) ⟨rfl, rfl, Nat.le_of_ble_eq_true rfl, Nat.le_of_ble_eq_true rfl⟩ hl.1 (Nat.le_of_ble_eq_true rfl) dX3_state_56 ⟨Nat.zero_le _, Nat.zero_le _⟩ rfl ?_
  rw [show md (lN (saC key pub base M * key + saW key M)) 1073741789 = saZ key pub base M from md_nat (by omega)]
  refine pf_X3_36 (v := .int (nI (saZ key pub base M))) hx hb hts hown hw (by decide) hc_7 rfl rfl (Nat.le_of_ble_eq_true rfl) dX3_state_59 (fun w_8 H locs ew_9 hw => ?_)
  have hc_10 : w_8 76 = .inr (2, [.int (nI (base ^ key % 2147483579)), .int (nI (saC key pub base M)), .int (nI (saZ key pub base M))]) := by rw [ew_9]; exact va_up_self _ _ _
  exact x_wretV hx hb hr hlocks hw (by rw [ew_9, ew_6, ew_2, bx_uu, bx_uu] <;> rfl) dX3_state_62
set_option maxHeartbeats 4000000 in
set_option maxRecDepth 100000 in
theorem k_add_yes (l : Launch) {D : va_G} {cI cJ cZ cD : ClassId} {ad : Nat → Nat} {w : Nat → va_E} {sz : Nat} (a x y : Nat) (ha : a < 2147483648) (hx0 : x < 2147483648) (hy0 : y < 2147483648) (b1 b2 b3 : Int32) (a2 x2 y2 : Nat) (g1 : a2 < 2147483648) (g2 : x2 < 2147483648) (g3 : y2 < 2147483648) (e1 : (a : Int) + b1.toInt = a2) (e2 : (x : Int) + b2.toInt = x2) (e3 : (y : Int) + b3.toInt = y2) (hSt : w 76 = .inr (2, [.int (nI a), .int (nI x), .int (nI y)])) : MW l yX3_add (.code yX3_add cX3_add 4 (some .boolean)) ({ frames := 1, cells := 0, slots := 0, locals := 31 }) [.ref (ad 76), .int b1, .int b2, .int b3] D (tyL cI cJ cZ cD) ad 89 w sz (some (.int (nI 1))) (fun u => u = va_up w 76 (.inr (2, [.int (nI a2), .int (nI x2), .int (nI y2)]))) := by
  refine MW.of (by decide) (Nat.le_of_ble_eq_true rfl) ?_
  intro p e s m below meth c ls hC hr hlocks hl hw
  obtain ⟨hx, hb, hml, hown, hts⟩ := id hC
  have hA : ∀ q, s.heap.size ≤ q → xA ad 89 s.heap.size q := fun q h => Or.inr h
  have hl : lv_has ls 4 [(0, .ref (ad 76)), (1, .int b1), (2, .int b2), (3, .int b3)] := hl
  refine lv_aload_n hx hb dX3_add_0 rfl (lv_at hl 0 rfl) ?_
  refine gf_X3_23 hx hb hts hown hw (by decide) hSt rfl dX3_add_1 ?_
  refine lv_iload_n hx hb dX3_add_4 rfl (lv_at hl 1 rfl) ?_
  have hin : inr a b1 := ⟨by omega, by omega⟩
  refine x_callS (As := [.int (nI a), .int b1]) (rest := []) hC sf_X3_39 (k_canAdd l a b1 (by omega) (.isTrue hin)) ⟨rfl, rfl, Nat.le_of_ble_eq_true rfl, Nat.le_of_ble_eq_true rfl⟩ hl.1 (Nat.le_of_ble_eq_true rfl) dX3_add_5 ⟨Nat.zero_le _, Nat.zero_le _⟩ rfl ?_
  rw [if_pos hin]
  refine lv_if_eq (tgt := 33) hx hb dX3_add_8 (by decide) (fun q1 => absurd q1 (by decide)) (fun q1 => ?_)
  refine lv_aload_n hx hb dX3_add_11 rfl (lv_at hl 0 rfl) ?_
  refine gf_X3_33 hx hb hts hown hw (by decide) hSt rfl dX3_add_12 ?_
  refine lv_iload_n hx hb dX3_add_15 rfl (lv_at hl 2 rfl) ?_
  have hin : inr x b2 := ⟨by omega, by omega⟩
  refine x_callS (As := [.int (nI x), .int b2]) (rest := []) hC sf_X3_39 (k_canAdd l x b2 (by omega) (.isTrue hin)) ⟨rfl, rfl, Nat.le_of_ble_eq_true rfl, Nat.le_of_ble_eq_true rfl⟩ hl.1 (Nat.le_of_ble_eq_true rfl) dX3_add_16 ⟨Nat.zero_le _, Nat.zero_le _⟩ rfl ?_
  rw [if_pos hin]
  refine lv_if_eq (tgt := 33) hx hb dX3_add_19 (by decide) (fun q2 => absurd q2 (by decide)) (fun q2 => ?_)
  refine lv_aload_n hx hb dX3_add_22 rfl (lv_at hl 0 rfl) ?_
  refine gf_X3_36 hx hb hts hown hw (by decide) hSt rfl dX3_add_23 ?_
  refine lv_iload_n hx hb dX3_add_26 rfl (lv_at hl 3 rfl) ?_
  have hin : inr y b3 := ⟨by omega, by omega⟩
  refine x_callS (As := [.int (nI y), .int b3]) (rest := []) hC sf_X3_39 (k_canAdd l y b3 (by omega) (.isTrue hin)) ⟨rfl, rfl, Nat.le_of_ble_eq_true rfl, Nat.le_of_ble_eq_true rfl⟩ hl.1 (Nat.le_of_ble_eq_true rfl) dX3_add_27 ⟨Nat.zero_le _, Nat.zero_le _⟩ rfl ?_
  rw [if_pos hin]
  refine lv_if_ne (tgt := 35) hx hb dX3_add_30 (by decide) (fun q3 => ?_) (fun q3 => absurd q3 (by decide))
  refine lv_aload_n hx hb dX3_add_35 rfl (lv_at hl 0 rfl) ?_
  refine lv_dup hx hb dX3_add_36 rfl ?_
  refine gf_X3_23 hx hb hts hown hw (by decide) hSt rfl dX3_add_37 ?_
  refine lv_iload_n hx hb dX3_add_40 rfl (lv_at hl 1 rfl) ?_
  refine lv_iadd hx hb dX3_add_41 ?_
  rw [sumI (by omega) g1 e1]
  refine pf_X3_23 (v := .int (nI a2)) hx hb hts hown hw (by decide) hSt rfl rfl (Nat.le_of_ble_eq_true rfl) dX3_add_42 (fun w_1 H locs ew_2 hw => ?_)
  have hc_3 : w_1 76 = .inr (2, [.int (nI a2), .int (nI x), .int (nI y)]) := by rw [ew_2]; exact va_up_self _ _ _
  refine lv_aload_n hx hb dX3_add_45 rfl (lv_at hl 0 rfl) ?_
  refine lv_dup hx hb dX3_add_46 rfl ?_
  refine gf_X3_33 hx hb hts hown hw (by decide) hc_3 rfl dX3_add_47 ?_
  refine lv_iload_n hx hb dX3_add_50 rfl (lv_at hl 2 rfl) ?_
  refine lv_iadd hx hb dX3_add_51 ?_
  rw [sumI (by omega) g2 e2]
  refine pf_X3_33 (v := .int (nI x2)) hx hb hts hown hw (by decide) hc_3 rfl rfl (Nat.le_of_ble_eq_true rfl) dX3_add_52 (fun w_4 H locs ew_5 hw => ?_)
  have hc_6 : w_4 76 = .inr (2, [.int (nI a2), .int (nI x2), .int (nI y)]) := by rw [ew_5]; exact va_up_self _ _ _
  refine lv_aload_n hx hb dX3_add_55 rfl (lv_at hl 0 rfl) ?_
  refine lv_dup hx hb dX3_add_56 rfl ?_
  refine gf_X3_36 hx hb hts hown hw (by decide) hc_6 rfl dX3_add_57 ?_
  refine lv_iload_n hx hb dX3_add_60 rfl (lv_at hl 3 rfl) ?_
  refine lv_iadd hx hb dX3_add_61 ?_
  rw [sumI (by omega) g3 e3]
  refine pf_X3_36 (v := .int (nI y2)) hx hb hts hown hw (by decide) hc_6 rfl rfl (Nat.le_of_ble_eq_true rfl) dX3_add_62 (fun w_7 H locs ew_8 hw => ?_)
  have hc_9 : w_7 76 = .inr (2, [.int (nI a2), .int (nI x2), .int (nI y2)]) := by rw [ew_8]; exact va_up_self _ _ _
  refine lv_iconst (v := nI 1) hx hb dX3_add_65 (by decide) ?_
  exact x_wretZ hx hb hr hlocks (by decide) hw (by rw [ew_8, ew_5, ew_2, bx_uu, bx_uu] <;> rfl) dX3_add_66
set_option maxHeartbeats 4000000 in
set_option maxRecDepth 100000 in
theorem k_add_no (l : Launch) {D : va_G} {cI cJ cZ cD : ClassId} {ad : Nat → Nat} {w : Nat → va_E} {sz : Nat} (a x y : Nat) (ha : a < 2147483648) (hx0 : x < 2147483648) (hy0 : y < 2147483648) (b1 b2 b3 : Int32) (hno : ¬ (inr a b1 ∧ inr x b2 ∧ inr y b3)) (hSt : w 76 = .inr (2, [.int (nI a), .int (nI x), .int (nI y)])) : MW l yX3_add (.code yX3_add cX3_add 4 (some .boolean)) ({ frames := 1, cells := 0, slots := 0, locals := 31 }) [.ref (ad 76), .int b1, .int b2, .int b3] D (tyL cI cJ cZ cD) ad 89 w sz (some (.int (nI 0))) (fun u => u = w) := by
  refine MW.of (by decide) (Nat.le_of_ble_eq_true rfl) ?_
  intro p e s m below meth c ls hC hr hlocks hl hw
  obtain ⟨hx, hb, hml, hown, hts⟩ := id hC
  have hA : ∀ q, s.heap.size ≤ q → xA ad 89 s.heap.size q := fun q h => Or.inr h
  have hl : lv_has ls 4 [(0, .ref (ad 76)), (1, .int b1), (2, .int b2), (3, .int b3)] := hl
  by_cases c1 : inr a b1
  · skip
    refine lv_aload_n hx hb dX3_add_0 rfl (lv_at hl 0 rfl) ?_
    refine gf_X3_23 hx hb hts hown hw (by decide) hSt rfl dX3_add_1 ?_
    refine lv_iload_n hx hb dX3_add_4 rfl (lv_at hl 1 rfl) ?_
    have hin : inr a b1 := c1
    refine x_callS (As := [.int (nI a), .int b1]) (rest := []) hC sf_X3_39 (k_canAdd l a b1 (by omega) (.isTrue hin)) ⟨rfl, rfl, Nat.le_of_ble_eq_true rfl, Nat.le_of_ble_eq_true rfl⟩ hl.1 (Nat.le_of_ble_eq_true rfl) dX3_add_5 ⟨Nat.zero_le _, Nat.zero_le _⟩ rfl ?_
    rw [if_pos hin]
    refine lv_if_eq (tgt := 33) hx hb dX3_add_8 (by decide) (fun q1 => absurd q1 (by decide)) (fun q1 => ?_)
    by_cases c2 : inr x b2
    · skip
      refine lv_aload_n hx hb dX3_add_11 rfl (lv_at hl 0 rfl) ?_
      refine gf_X3_33 hx hb hts hown hw (by decide) hSt rfl dX3_add_12 ?_
      refine lv_iload_n hx hb dX3_add_15 rfl (lv_at hl 2 rfl) ?_
      have hin : inr x b2 := c2
      refine x_callS (As := [.int (nI x), .int b2]) (rest := []) hC sf_X3_39 (k_canAdd l x b2 (by omega) (.isTrue hin)) ⟨rfl, rfl, Nat.le_of_ble_eq_true rfl, Nat.le_of_ble_eq_true rfl⟩ hl.1 (Nat.le_of_ble_eq_true rfl) dX3_add_16 ⟨Nat.zero_le _, Nat.zero_le _⟩ rfl ?_
      rw [if_pos hin]
      refine lv_if_eq (tgt := 33) hx hb dX3_add_19 (by decide) (fun q2 => absurd q2 (by decide)) (fun q2 => ?_)
      refine lv_aload_n hx hb dX3_add_22 rfl (lv_at hl 0 rfl) ?_
      refine gf_X3_36 hx hb hts hown hw (by decide) hSt rfl dX3_add_23 ?_
      refine lv_iload_n hx hb dX3_add_26 rfl (lv_at hl 3 rfl) ?_
      have hin : ¬ inr y b3 := (fun q => hno ⟨c1, c2, q⟩)
      refine x_callS (As := [.int (nI y), .int b3]) (rest := []) hC sf_X3_39 (k_canAdd l y b3 (by omega) (.isFalse hin)) ⟨rfl, rfl, Nat.le_of_ble_eq_true rfl, Nat.le_of_ble_eq_true rfl⟩ hl.1 (Nat.le_of_ble_eq_true rfl) dX3_add_27 ⟨Nat.zero_le _, Nat.zero_le _⟩ rfl ?_
      rw [if_neg hin]
      refine lv_if_ne (tgt := 35) hx hb dX3_add_30 (by decide) (fun q3 => absurd (by decide) q3) (fun q3 => ?_)
      refine lv_iconst (v := nI 0) hx hb dX3_add_33 (by decide) ?_
      exact x_wretZ hx hb hr hlocks (by decide) hw rfl dX3_add_34
    · skip
      refine lv_aload_n hx hb dX3_add_11 rfl (lv_at hl 0 rfl) ?_
      refine gf_X3_33 hx hb hts hown hw (by decide) hSt rfl dX3_add_12 ?_
      refine lv_iload_n hx hb dX3_add_15 rfl (lv_at hl 2 rfl) ?_
      have hin : ¬ inr x b2 := c2
      refine x_callS (As := [.int (nI x), .int b2]) (rest := []) hC sf_X3_39 (k_canAdd l x b2 (by omega) (.isFalse hin)) ⟨rfl, rfl, Nat.le_of_ble_eq_true rfl, Nat.le_of_ble_eq_true rfl⟩ hl.1 (Nat.le_of_ble_eq_true rfl) dX3_add_16 ⟨Nat.zero_le _, Nat.zero_le _⟩ rfl ?_
      rw [if_neg hin]
      refine lv_if_eq (tgt := 33) hx hb dX3_add_19 (by decide) (fun q2 => ?_) (fun q2 => absurd (by decide) q2)
      refine lv_iconst (v := nI 0) hx hb dX3_add_33 (by decide) ?_
      exact x_wretZ hx hb hr hlocks (by decide) hw rfl dX3_add_34
  · skip
    refine lv_aload_n hx hb dX3_add_0 rfl (lv_at hl 0 rfl) ?_
    refine gf_X3_23 hx hb hts hown hw (by decide) hSt rfl dX3_add_1 ?_
    refine lv_iload_n hx hb dX3_add_4 rfl (lv_at hl 1 rfl) ?_
    have hin : ¬ inr a b1 := c1
    refine x_callS (As := [.int (nI a), .int b1]) (rest := []) hC sf_X3_39 (k_canAdd l a b1 (by omega) (.isFalse hin)) ⟨rfl, rfl, Nat.le_of_ble_eq_true rfl, Nat.le_of_ble_eq_true rfl⟩ hl.1 (Nat.le_of_ble_eq_true rfl) dX3_add_5 ⟨Nat.zero_le _, Nat.zero_le _⟩ rfl ?_
    rw [if_neg hin]
    refine lv_if_eq (tgt := 33) hx hb dX3_add_8 (by decide) (fun q1 => ?_) (fun q1 => absurd (by decide) q1)
    refine lv_iconst (v := nI 0) hx hb dX3_add_33 (by decide) ?_
    exact x_wretZ hx hb hr hlocks (by decide) hw rfl dX3_add_34
set_option maxHeartbeats 4000000 in
set_option maxRecDepth 100000 in
theorem k_holds_no (l : Launch) {D : va_G} {cI cJ cZ cD : ClassId} {ad : Nat → Nat} {w : Nat → va_E} {sz : Nat} (a x y : Nat) (ha : a < 2 ^ 31) (hx0 : x < 2 ^ 31) (hy0 : y < 2 ^ 31) (pub base : Nat) (h2 : pub < 2147483579) (h3 : base < 2147483579) (hno : ¬ (1 ≤ a ∧ a < 2147483579 ∧ a ^ 1073741789 % 2147483579 = 1 ∧ x < 1073741789 ∧ y < 1073741789)) (hSt : w 76 = .inr (2, [.int (nI a), .int (nI x), .int (nI y)])) : MW l yX3_holds (.code yX3_holds cX3_holds 5 (some .boolean)) ({ frames := 3, cells := 0, slots := 0, locals := 98 }) [.ref (ad 76), .int (nI pub), .int (nI base)] D (tyL cI cJ cZ cD) ad 89 w sz (some (.int (nI 0))) (fun u => u = w) := by
  refine MW.of (by decide) (Nat.le_of_ble_eq_true rfl) ?_
  intro p e s m below meth c ls hC hr hlocks hl hw
  obtain ⟨hx, hb, hml, hown, hts⟩ := id hC
  have hA : ∀ q, s.heap.size ≤ q → xA ad 89 s.heap.size q := fun q h => Or.inr h
  have hl : lv_has ls 5 [(0, .ref (ad 76)), (1, .int (nI pub)), (2, .int (nI base))] := hl
  by_cases c1 : 1 ≤ a ∧ a < 2147483579 ∧ a ^ 1073741789 % 2147483579 = 1
  · skip
    refine lv_aload_n hx hb dX3_holds_0 rfl (lv_at hl 0 rfl) ?_
    refine gf_X3_23 hx hb hts hown hw (by decide) hSt rfl dX3_holds_1 ?_
    refine x_callS (As := [.int (nI a)]) (rest := []) hC sf_X3_43 (k_isInGroup l a ha) ⟨rfl, rfl, Nat.le_of_ble_eq_true rfl, Nat.le_of_ble_eq_true rfl⟩ hl.1 (Nat.le_of_ble_eq_true rfl) dX3_holds_4 ⟨Nat.zero_le _, Nat.zero_le _⟩ rfl ?_
    rw [if_pos c1]
    refine lv_if_eq (tgt := 30) hx hb dX3_holds_7 (by decide) (fun q1 => absurd q1 (by decide)) (fun q1 => ?_)
    by_cases c2 : x < 1073741789
    · skip
      refine lv_aload_n hx hb dX3_holds_10 rfl (lv_at hl 0 rfl) ?_
      refine gf_X3_33 hx hb hts hown hw (by decide) hSt rfl dX3_holds_11 ?_
      refine x_callS (As := [.int (nI x)]) (rest := []) hC sf_X3_47 (k_isExponent l x (by omega)) ⟨rfl, rfl, Nat.le_of_ble_eq_true rfl, Nat.le_of_ble_eq_true rfl⟩ hl.1 (Nat.le_of_ble_eq_true rfl) dX3_holds_14 ⟨Nat.zero_le _, Nat.zero_le _⟩ rfl ?_
      refine lv_if_eq (tgt := 30) hx hb dX3_holds_17 (by decide) (fun q2 => absurd q2 (by decide)) (fun q2 => ?_)
      have c3 : ¬ y < 1073741789 := fun q => hno ⟨c1.1, c1.2.1, c1.2.2, c2, q⟩
      refine lv_aload_n hx hb dX3_holds_20 rfl (lv_at hl 0 rfl) ?_
      refine gf_X3_36 hx hb hts hown hw (by decide) hSt rfl dX3_holds_21 ?_
      refine x_callS (As := [.int (nI y)]) (rest := []) hC sf_X3_47 (k_isExponentN l (nI y) (Or.inr (nI_le (by omega) (by omega)))) ⟨rfl, rfl, Nat.le_of_ble_eq_true rfl, Nat.le_of_ble_eq_true rfl⟩ hl.1 (Nat.le_of_ble_eq_true rfl) dX3_holds_24 ⟨Nat.zero_le _, Nat.zero_le _⟩ rfl ?_
      refine lv_if_ne (tgt := 32) hx hb dX3_holds_27 (by decide) (fun q3 => absurd (by decide) q3) (fun q3 => ?_)
      refine lv_iconst (v := nI 0) hx hb dX3_holds_30 (by decide) ?_
      exact x_wretZ hx hb hr hlocks (by decide) hw rfl dX3_holds_31
    · skip
      refine lv_aload_n hx hb dX3_holds_10 rfl (lv_at hl 0 rfl) ?_
      refine gf_X3_33 hx hb hts hown hw (by decide) hSt rfl dX3_holds_11 ?_
      refine x_callS (As := [.int (nI x)]) (rest := []) hC sf_X3_47 (k_isExponentN l (nI x) (Or.inr (nI_le (by omega) (by omega)))) ⟨rfl, rfl, Nat.le_of_ble_eq_true rfl, Nat.le_of_ble_eq_true rfl⟩ hl.1 (Nat.le_of_ble_eq_true rfl) dX3_holds_14 ⟨Nat.zero_le _, Nat.zero_le _⟩ rfl ?_
      refine lv_if_eq (tgt := 30) hx hb dX3_holds_17 (by decide) (fun q2 => ?_) (fun q2 => absurd (by decide) q2)
      refine lv_iconst (v := nI 0) hx hb dX3_holds_30 (by decide) ?_
      exact x_wretZ hx hb hr hlocks (by decide) hw rfl dX3_holds_31
  · skip
    refine lv_aload_n hx hb dX3_holds_0 rfl (lv_at hl 0 rfl) ?_
    refine gf_X3_23 hx hb hts hown hw (by decide) hSt rfl dX3_holds_1 ?_
    refine x_callS (As := [.int (nI a)]) (rest := []) hC sf_X3_43 (k_isInGroup l a ha) ⟨rfl, rfl, Nat.le_of_ble_eq_true rfl, Nat.le_of_ble_eq_true rfl⟩ hl.1 (Nat.le_of_ble_eq_true rfl) dX3_holds_4 ⟨Nat.zero_le _, Nat.zero_le _⟩ rfl ?_
    rw [if_neg c1]
    refine lv_if_eq (tgt := 30) hx hb dX3_holds_7 (by decide) (fun q1 => ?_) (fun q1 => absurd (by decide) q1)
    refine lv_iconst (v := nI 0) hx hb dX3_holds_30 (by decide) ?_
    exact x_wretZ hx hb hr hlocks (by decide) hw rfl dX3_holds_31
set_option maxHeartbeats 4000000 in
set_option maxRecDepth 100000 in
theorem k_holds (l : Launch) {D : va_G} {cI cJ cZ cD : ClassId} {ad : Nat → Nat} {w : Nat → va_E} {sz : Nat} (a x y : Nat) (ha : a < 2 ^ 31) (hx0 : x < 2 ^ 31) (hy0 : y < 2 ^ 31) (pub base : Nat) (h2 : pub < 2147483579) (h3 : base < 2147483579) (g1 : 1 ≤ a) (g2 : a < 2147483579) (g3 : a ^ 1073741789 % 2147483579 = 1) (g4 : x < 1073741789) (g5 : y < 1073741789) (hSt : w 76 = .inr (2, [.int (nI a), .int (nI x), .int (nI y)])) : MW l yX3_holds (.code yX3_holds cX3_holds 5 (some .boolean)) ({ frames := 3, cells := 0, slots := 0, locals := 98 }) [.ref (ad 76), .int (nI pub), .int (nI base)] D (tyL cI cJ cZ cD) ad 89 w sz (some (.int (if x = chF base pub a (4 ^ y % 2147483579 * (pub ^ (1073741789 - x) % 2147483579) % 2147483579) (base ^ y % 2147483579 * (a ^ (1073741789 - x) % 2147483579) % 2147483579) then nI 1 else nI 0))) (fun u => u = w) := by
  refine MW.of (by decide) (Nat.le_of_ble_eq_true rfl) ?_
  intro p e s m below meth c ls hC hr hlocks hl hw
  obtain ⟨hx, hb, hml, hown, hts⟩ := id hC
  have hA : ∀ q, s.heap.size ≤ q → xA ad 89 s.heap.size q := fun q h => Or.inr h
  have hl : lv_has ls 5 [(0, .ref (ad 76)), (1, .int (nI pub)), (2, .int (nI base))] := hl
  have f1 := pw_lt 4 y (show 0 < 2147483579 by decide)
  have f2 := pw_lt pub (1073741789 - x) (show 0 < 2147483579 by decide)
  have f3 := pw_lt base y (show 0 < 2147483579 by decide)
  have f4 := pw_lt a (1073741789 - x) (show 0 < 2147483579 by decide)
  have f5 : 4 ^ y % 2147483579 * (pub ^ (1073741789 - x) % 2147483579) % 2147483579 < 2147483579 := Nat.mod_lt _ (by decide)
  have f6 : base ^ y % 2147483579 * (a ^ (1073741789 - x) % 2147483579) % 2147483579 < 2147483579 := Nat.mod_lt _ (by decide)
  have f7 := chF_lt base pub a (4 ^ y % 2147483579 * (pub ^ (1073741789 - x) % 2147483579) % 2147483579) (base ^ y % 2147483579 * (a ^ (1073741789 - x) % 2147483579) % 2147483579)
  have hgrp : 1 ≤ a ∧ a < 2147483579 ∧ a ^ 1073741789 % 2147483579 = 1 := ⟨g1, g2, g3⟩
  refine lv_aload_n hx hb dX3_holds_0 rfl (lv_at hl 0 rfl) ?_
  refine gf_X3_23 hx hb hts hown hw (by decide) hSt rfl dX3_holds_1 ?_
  refine x_callS (As := [.int (nI a)]) (rest := []) hC sf_X3_43 (k_isInGroup l a ha) ⟨rfl, rfl, Nat.le_of_ble_eq_true rfl, Nat.le_of_ble_eq_true rfl⟩ hl.1 (Nat.le_of_ble_eq_true rfl) dX3_holds_4 ⟨Nat.zero_le _, Nat.zero_le _⟩ rfl ?_
  rw [if_pos hgrp]
  refine lv_if_eq (tgt := 30) hx hb dX3_holds_7 (by decide) (fun q1 => absurd q1 (by decide)) (fun q1 => ?_)
  refine lv_aload_n hx hb dX3_holds_10 rfl (lv_at hl 0 rfl) ?_
  refine gf_X3_33 hx hb hts hown hw (by decide) hSt rfl dX3_holds_11 ?_
  refine x_callS (As := [.int (nI x)]) (rest := []) hC sf_X3_47 (k_isExponent l x (by omega)) ⟨rfl, rfl, Nat.le_of_ble_eq_true rfl, Nat.le_of_ble_eq_true rfl⟩ hl.1 (Nat.le_of_ble_eq_true rfl) dX3_holds_14 ⟨Nat.zero_le _, Nat.zero_le _⟩ rfl ?_
  refine lv_if_eq (tgt := 30) hx hb dX3_holds_17 (by decide) (fun q2 => absurd q2 (by decide)) (fun q2 => ?_)
  refine lv_aload_n hx hb dX3_holds_20 rfl (lv_at hl 0 rfl) ?_
  refine gf_X3_36 hx hb hts hown hw (by decide) hSt rfl dX3_holds_21 ?_
  refine x_callS (As := [.int (nI y)]) (rest := []) hC sf_X3_47 (k_isExponent l y (by omega)) ⟨rfl, rfl, Nat.le_of_ble_eq_true rfl, Nat.le_of_ble_eq_true rfl⟩ hl.1 (Nat.le_of_ble_eq_true rfl) dX3_holds_24 ⟨Nat.zero_le _, Nat.zero_le _⟩ rfl ?_
  refine lv_if_ne (tgt := 32) hx hb dX3_holds_27 (by decide) (fun q3 => ?_) (fun q3 => absurd q3 (by decide))
  refine lv_iconst (v := nI 4) hx hb dX3_holds_32 (by decide) ?_
  refine lv_aload_n hx hb dX3_holds_33 rfl (lv_at hl 0 rfl) ?_
  refine gf_X3_36 hx hb hts hown hw (by decide) hSt rfl dX3_holds_34 ?_
  refine x_callS (As := [.int (nI 4), .int (nI y)]) (rest := []) hC sf_X3_19 (k_power l 4 y (by decide) hy0) ⟨rfl, rfl, Nat.le_of_ble_eq_true rfl, Nat.le_of_ble_eq_true rfl⟩ hl.1 (Nat.le_of_ble_eq_true rfl) dX3_holds_37 ⟨Nat.zero_le _, Nat.zero_le _⟩ rfl ?_
  refine lv_iload_n hx hb dX3_holds_40 rfl (lv_at hl 1 rfl) ?_
  refine lv_aload_n hx hb dX3_holds_41 rfl (lv_at hl 0 rfl) ?_
  refine gf_X3_33 hx hb hts hown hw (by decide) hSt rfl dX3_holds_42 ?_
  refine x_callS (As := [.int (nI pub), .int (nI x)]) (rest := [.int (nI (4 ^ y % 2147483579))]) hC sf_X3_50 (k_powerBelow l pub x h2 (by omega)) ⟨rfl, rfl, Nat.le_of_ble_eq_true rfl, Nat.le_of_ble_eq_true rfl⟩ hl.1 (Nat.le_of_ble_eq_true rfl) dX3_holds_45 ⟨Nat.zero_le _, Nat.zero_le _⟩ rfl ?_
  refine x_callS (As := [.int (nI (4 ^ y % 2147483579)), .int (nI (pub ^ (1073741789 - x) % 2147483579))]) (rest := []) hC sf_X3_53 (k_times l (4 ^ y % 2147483579) (pub ^ (1073741789 - x) % 2147483579) (by omega) (by omega)) ⟨rfl, rfl, Nat.le_of_ble_eq_true rfl, Nat.le_of_ble_eq_true rfl⟩ hl.1 (Nat.le_of_ble_eq_true rfl) dX3_holds_48 ⟨Nat.zero_le _, Nat.zero_le _⟩ rfl ?_
  refine lv_istore_n (lv' := [(3, .int (nI (4 ^ y % 2147483579 * (pub ^ (1073741789 - x) % 2147483579) % 2147483579))), (0, .ref (ad 76)), (1, .int (nI pub)), (2, .int (nI base))]) hx hb dX3_holds_51 rfl hl (by decide) rfl (fun ls hl => ?_)
  refine lv_iload_n hx hb dX3_holds_52 rfl (lv_at hl 3 rfl) ?_
  refine lv_aload_n hx hb dX3_holds_53 rfl (lv_at hl 1 rfl) ?_
  refine gf_X3_36 hx hb hts hown hw (by decide) hSt rfl dX3_holds_54 ?_
  refine x_callS (As := [.int (nI base), .int (nI y)]) (rest := []) hC sf_X3_19 (k_power l base y h3 hy0) ⟨rfl, rfl, Nat.le_of_ble_eq_true rfl, Nat.le_of_ble_eq_true rfl⟩ hl.1 (Nat.le_of_ble_eq_true rfl) dX3_holds_57 ⟨Nat.zero_le _, Nat.zero_le _⟩ rfl ?_
  refine lv_aload_n hx hb dX3_holds_60 rfl (lv_at hl 1 rfl) ?_
  refine gf_X3_23 hx hb hts hown hw (by decide) hSt rfl dX3_holds_61 ?_
  refine lv_aload_n hx hb dX3_holds_64 rfl (lv_at hl 1 rfl) ?_
  refine gf_X3_33 hx hb hts hown hw (by decide) hSt rfl dX3_holds_65 ?_
  refine x_callS (As := [.int (nI a), .int (nI x)]) (rest := [.int (nI (base ^ y % 2147483579))]) hC sf_X3_50 (k_powerBelow l a x g2 (by omega)) ⟨rfl, rfl, Nat.le_of_ble_eq_true rfl, Nat.le_of_ble_eq_true rfl⟩ hl.1 (Nat.le_of_ble_eq_true rfl) dX3_holds_68 ⟨Nat.zero_le _, Nat.zero_le _⟩ rfl ?_
  refine x_callS (As := [.int (nI (base ^ y % 2147483579)), .int (nI (a ^ (1073741789 - x) % 2147483579))]) (rest := []) hC sf_X3_53 (k_times l (base ^ y % 2147483579) (a ^ (1073741789 - x) % 2147483579) (by omega) (by omega)) ⟨rfl, rfl, Nat.le_of_ble_eq_true rfl, Nat.le_of_ble_eq_true rfl⟩ hl.1 (Nat.le_of_ble_eq_true rfl) dX3_holds_71 ⟨Nat.zero_le _, Nat.zero_le _⟩ rfl ?_
  refine lv_istore (lv' := [(4, .int (nI (base ^ y % 2147483579 * (a ^ (1073741789 - x) % 2147483579) % 2147483579))), (3, .int (nI (4 ^ y % 2147483579 * (pub ^ (1073741789 - x) % 2147483579) % 2147483579))), (0, .ref (ad 76)), (1, .int (nI pub)), (2, .int (nI base))]) hx hb dX3_holds_74 hl (by decide) rfl (fun ls hl => ?_)
  refine lv_aload_n hx hb dX3_holds_76 rfl (lv_at hl 2 rfl) ?_
  refine gf_X3_33 hx hb hts hown hw (by decide) hSt rfl dX3_holds_77 ?_
  refine lv_aload_n hx hb dX3_holds_80 rfl (lv_at hl 2 rfl) ?_
  refine lv_iload_n hx hb dX3_holds_81 rfl (lv_at hl 3 rfl) ?_
  refine lv_iload_n hx hb dX3_holds_82 rfl (lv_at hl 4 rfl) ?_
  refine lv_iload_n hx hb dX3_holds_83 rfl (lv_at hl 1 rfl) ?_
  refine lv_iload hx hb dX3_holds_84 (lv_at hl 0 rfl) ?_
  refine x_callW1 (As := [.int (nI pub), .int (nI base), .int (nI (4 ^ y % 2147483579 * (pub ^ (1073741789 - x) % 2147483579) % 2147483579)), .int (nI (base ^ y % 2147483579 * (a ^ (1073741789 - x) % 2147483579) % 2147483579))]) (rest := [.int (nI x)]) hC vf_X3_29 hw hA (by decide) hSt rfl rfl (k_challenge l a ha _ _ pub base _ _ (by omega) (by omega) (by omega) (by omega) hSt) ⟨rfl, rfl, Nat.le_of_ble_eq_true rfl, Nat.le_of_ble_eq_true rfl⟩ hl.1 (Nat.le_of_ble_eq_true rfl) dX3_holds_86 ⟨Nat.zero_le _, Nat.zero_le _⟩ rfl (fun w_1 H locs hu hw => ?_)
  rw [hu] at hw
  refine lv_icmp_ne (tgt := 96) hx hb dX3_holds_89 (by decide) (fun q4 => ?_) (fun q4 => ?_)
  · rw [nI_eq (by omega) (by omega)] at q4
    rw [if_neg q4]
    refine lv_iconst (v := nI 0) hx hb dX3_holds_96 (by decide) ?_
    exact x_wretZ hx hb hr hlocks (by decide) hw rfl dX3_holds_97
  · rw [nI_eq (by omega) (by omega)] at q4
    rw [if_pos q4]
    refine lv_iconst (v := nI 1) hx hb dX3_holds_92 (by decide) ?_
    refine lv_goto (tgt := 97) hx hb dX3_holds_93 (by decide) ?_
    exact x_wretZ hx hb hr hlocks (by decide) hw rfl dX3_holds_97
