/-! the rounds' methods -/
def msgF (v : Int64) (e : Nat) : Int64 := stirF (stirF (lN 0) v) (lN (e + 1))
def basF (M : Int64) : Nat := (md M 2147483578 + 1) * (md M 2147483578 + 1) % 2147483579
theorem basF_lt (M : Int64) : basF M < 2147483579 := Nat.mod_lt _ (by decide)
def iv (d : Nat) : Nat := ([0, 1, 536870895, 357913930, 805306342, 214748358, 178956965, 920350105, 402653171, 477218573, 107374179, 97612890, 626349377, 330382089, 997045947, 71582786] : List Nat).getD d 0
theorem iv_lt : ∀ d, d < 16 → iv d < 1073741789 := by decide
theorem iv_pos0 : ∀ d, d < 16 → 1 ≤ d → 1 ≤ iv d := by decide
theorem iv_pos (d : Nat) (h1 : 1 ≤ d) (h2 : d < 16) : 1 ≤ iv d := iv_pos0 d h2 h1
theorem iv_step : ∀ d, d < 16 → 2 ≤ d → (1073741789 - 1073741789 / d) * iv (1073741789 % d) % 1073741789 = iv d := by decide +kernel
def ivc (k m : Nat) : Nat := if k < m then iv (m - k) else 1073741789 - iv (k - m)
theorem ivc_lt {k m : Nat} (h : k ≠ m) (hk : k ≤ 16) (hm : m ≤ 16) (h1 : 1 ≤ k) (h2 : 1 ≤ m) : ivc k m < 1073741789 := by
  unfold ivc
  by_cases hc : k < m
  · rw [if_pos hc]; exact iv_lt _ (by omega)
  · rw [if_neg hc]
    have := iv_pos (k - m) (by omega) (by omega)
    omega
def wgt (b k : Nat) : Nat → Nat
  | 0 => 1
  | m + 1 => if m + 1 ≠ k ∧ tb b (m + 1) = 1 then wgt b k m * ((m + 1) * ivc k (m + 1) % 1073741789) % 1073741789 else wgt b k m
theorem wgt_lt (b k : Nat) : ∀ m, wgt b k m < 1073741789 := by
  intro m
  induction m with
  | zero => exact (by decide : 1 < 1073741789)
  | succ m ih =>
    show (if _ then _ else _) < _
    by_cases h : m + 1 ≠ k ∧ tb b (m + 1) = 1
    · rw [if_pos h]; exact Nat.mod_lt _ (by decide)
    · rw [if_neg h]; exact ih
def cmb (b : Nat) (pt : Nat → Nat) : Nat → Nat
  | 0 => 1
  | k + 1 => if tb b (k + 1) = 1 then cmb b pt k * (pt (k + 1) ^ wgt b (k + 1) 16 % 2147483579) % 2147483579 else cmb b pt k
theorem cmb_lt (b : Nat) (pt : Nat → Nat) : ∀ k, cmb b pt k < 2147483579 := by
  intro k
  induction k with
  | zero => exact (by decide : 1 < 2147483579)
  | succ k ih =>
    show (if _ then _ else _) < _
    by_cases h : tb b (k + 1) = 1
    · rw [if_pos h]; exact Nat.mod_lt _ (by decide)
    · rw [if_neg h]; exact ih
/-- the least t of the bits 1 .. k, and how many they are -/
def lst (b t : Nat) : Nat → Nat × Nat
  | 0 => (0, 0)
  | k + 1 => if (lst b t k).2 < t ∧ tb b (k + 1) = 1 then ((lst b t k).1 ||| 2 ^ (k + 1), (lst b t k).2 + 1) else lst b t k
theorem lst_lt (b t : Nat) : ∀ k, k ≤ 16 → (lst b t k).1 < 2 ^ 17 ∧ (lst b t k).2 ≤ k ∧ (lst b t k).2 ≤ t := by
  intro k
  induction k with
  | zero => intro _; exact ⟨(by decide : (0 : Nat) < 2 ^ 17), Nat.le_refl _, Nat.zero_le _⟩
  | succ k ih =>
    intro hk
    obtain ⟨h1, h2, h3⟩ := ih (by omega)
    show (if _ then _ else _ : Nat × Nat).1 < _ ∧ (if _ then _ else _ : Nat × Nat).2 ≤ _ ∧ (if _ then _ else _ : Nat × Nat).2 ≤ _
    by_cases h : (lst b t k).2 < t ∧ tb b (k + 1) = 1
    · rw [if_pos h]; exact ⟨or_lt h1 (by omega), by simp only; omega, by simp only; omega⟩
    · rw [if_neg h]; exact ⟨h1, by omega, h3⟩
theorem lst_stay {b t : Nat} : ∀ {k : Nat}, (lst b t k).2 = t → ∀ j, lst b t (k + j) = lst b t k := by
  intro k h j
  induction j with
  | zero => rfl
  | succ j ih =>
    have e : lst b t (k + (j + 1)) = if (lst b t (k + j)).2 < t ∧ tb b (k + j + 1) = 1 then ((lst b t (k + j)).1 ||| 2 ^ (k + j + 1), (lst b t (k + j)).2 + 1) else lst b t (k + j) := rfl
    rw [e, if_neg (by rw [ih]; omega)]
    exact ih
theorem neg_sub_nI {a b : Nat} (h : a ≤ b) : -(nI a - nI b) = nI (b - a) := by
  rw [← pk_sub h, Int32.neg_sub]
theorem sub_le0 {a b : Nat} (h : a ≤ b) (hb : b < 2 ^ 30) : nI a - nI b ≤ 0 := by
  rw [Int32.le_iff_toInt_le, pk_sub_toInt (by omega) hb, Int32.toInt_zero]
  omega

set_option maxHeartbeats 4000000 in
set_option maxRecDepth 100000 in
theorem k_rforget (l : Launch) {D : va_G} {cI cJ cZ cD : ClassId} {ad : Nat → Nat} {w : Nat → va_E} {sz : Nat} (en kp bas : Int32) (msg : Int64) (hR : w 72 = .inr (1, [.ref (ad 73), .ref (ad 74), .ref (ad 75), .int en, .int kp, .long msg, .int bas])) : MW l yX2_forget (.code yX2_forget cX2_forget 1 none) ({ frames := 0, cells := 0, slots := 0, locals := 0 }) [.ref (ad 72)] D (tyL cI cJ cZ cD) ad 89 w sz none (fun u => u = va_up w 72 (.inr (1, [.ref (ad 73), .ref (ad 74), .ref (ad 75), .int (nI 0), .int (nI 0), .long msg, .int bas]))) := by
  refine MW.of (by decide) (Nat.le_of_ble_eq_true rfl) ?_
  intro p e s m below meth c ls hC hr hlocks hl hw
  obtain ⟨hx, hb, hml, hown, hts⟩ := id hC
  have hA : ∀ q, s.heap.size ≤ q → xA ad 89 s.heap.size q := fun q h => Or.inr h
  have hl : lv_has ls 1 [(0, .ref (ad 72))] := hl
  refine lv_aload_n hx hb dX2_forget_0 rfl (lv_at hl 0 rfl) ?_
  refine lv_iconst (v := nI 0) hx hb dX2_forget_1 (by decide) ?_
  refine pf_X2_29 (v := .int (nI 0)) hx hb hts hown hw (by decide) hR rfl rfl (Nat.le_of_ble_eq_true rfl) dX2_forget_2 (fun w_1 H locs ew_2 hw => ?_)
  have hc_3 : w_1 72 = .inr (1, [.ref (ad 73), .ref (ad 74), .ref (ad 75), .int (nI 0), .int kp, .long msg, .int bas]) := by rw [ew_2]; exact va_up_self _ _ _
  refine lv_aload_n hx hb dX2_forget_5 rfl (lv_at hl 0 rfl) ?_
  refine lv_iconst (v := nI 0) hx hb dX2_forget_6 (by decide) ?_
  refine pf_X2_33 (v := .int (nI 0)) hx hb hts hown hw (by decide) hc_3 rfl rfl (Nat.le_of_ble_eq_true rfl) dX2_forget_7 (fun w_4 H locs ew_5 hw => ?_)
  have hc_6 : w_4 72 = .inr (1, [.ref (ad 73), .ref (ad 74), .ref (ad 75), .int (nI 0), .int (nI 0), .long msg, .int bas]) := by rw [ew_5]; exact va_up_self _ _ _
  exact x_wretV hx hb hr hlocks hw (by rw [ew_5, ew_2, bx_uu] <;> rfl) dX2_forget_10
set_option maxHeartbeats 4000000 in
set_option maxRecDepth 100000 in
theorem k_startNext (l : Launch) {D : va_G} {cI cJ cZ cD : ClassId} {ad : Nat → Nat} {w : Nat → va_E} {sz : Nat} (en : Nat) (kp bas : Int32) (msg : Int64) (vf : Nat → Int64) (v : Int64) (hen : en ≤ 300) (hv : vf en = v) (hR : w 72 = .inr (1, [.ref (ad 73), .ref (ad 74), .ref (ad 75), .int (nI en), .int kp, .long msg, .int bas])) (hVs : w 73 = .inl (cJ, 301, .inr (.inl vf))) : MW l yX2_startNext (.code yX2_startNext cX2_startNext 2 none) ({ frames := 2, cells := 0, slots := 0, locals := 64 }) [.ref (ad 72)] D (tyL cI cJ cZ cD) ad 89 w sz none (fun u => u = va_up w 72 (.inr (1, [.ref (ad 73), .ref (ad 74), .ref (ad 75), .int (nI en), .int (nI 0), .long (msgF v en), .int (nI (basF (msgF v en)))]))) := by
  refine MW.of (by decide) (Nat.le_of_ble_eq_true rfl) ?_
  intro p e s m below meth c ls hC hr hlocks hl hw
  obtain ⟨hx, hb, hml, hown, hts⟩ := id hC
  have hA : ∀ q, s.heap.size ≤ q → xA ad 89 s.heap.size q := fun q h => Or.inr h
  have hl : lv_has ls 2 [(0, .ref (ad 72))] := hl
  refine lv_aload_n hx hb dX2_startNext_0 rfl (lv_at hl 0 rfl) ?_
  refine lv_iconst (v := nI 0) hx hb dX2_startNext_1 (by decide) ?_
  refine pf_X2_33 (v := .int (nI 0)) hx hb hts hown hw (by decide) hR rfl rfl (Nat.le_of_ble_eq_true rfl) dX2_startNext_2 (fun w_1 H locs ew_2 hw => ?_)
  have hc_3 : w_1 72 = .inr (1, [.ref (ad 73), .ref (ad 74), .ref (ad 75), .int (nI en), .int (nI 0), .long msg, .int bas]) := by rw [ew_2]; exact va_up_self _ _ _
  have hc_4 : w_1 73 = .inl (cJ, 301, .inr (.inl vf)) := by rw [ew_2]; exact (va_up_ne _ _ (by omega)).trans hVs
  refine lv_aload_n hx hb dX2_startNext_5 rfl (lv_at hl 0 rfl) ?_
  refine lv_aload_n hx hb dX2_startNext_6 rfl (lv_at hl 0 rfl) ?_
  refine gf_X2_9 hx hb hts hown hw (by decide) hc_3 rfl dX2_startNext_7 ?_
  refine lv_aload_n hx hb dX2_startNext_10 rfl (lv_at hl 0 rfl) ?_
  refine gf_X2_29 hx hb hts hown hw (by decide) hc_3 rfl dX2_startNext_11 ?_
  refine x_lald hx hb hw (by decide) 1 hc_4 rfl (j := en) (by omega) (by decide) hv dX2_startNext_14 ?_
  refine lv_aload_n hx hb dX2_startNext_15 rfl (lv_at hl 0 rfl) ?_
  refine gf_X2_29 hx hb hts hown hw (by decide) hc_3 rfl dX2_startNext_16 ?_
  refine lv_iconst (v := nI 1) hx hb dX2_startNext_19 (by decide) ?_
  refine t_iadd hx hb dX2_startNext_20 (v := nI (en + 1)) (nI_add _ _) ?_
  refine lv_i2l hx hb dX2_startNext_21 (nI_l (by omega)) ?_
  refine x_callS (As := [.long v, .long (lN (en + 1))]) (rest := [.ref (ad 72)]) hC sf_X2_39 (k_hash l v (lN (en + 1))) ⟨rfl, rfl, Nat.le_of_ble_eq_true rfl, Nat.le_of_ble_eq_true rfl⟩ hl.1 (Nat.le_of_ble_eq_true rfl) dX2_startNext_22 ⟨Nat.zero_le _, Nat.zero_le _⟩ rfl ?_
  have hmd := md_lt (msgF v en) (show 0 < 2147483578 by decide)
  refine pf_X2_43 (v := .long (msgF v en)) hx hb hts hown hw (by decide) hc_3 rfl rfl (Nat.le_of_ble_eq_true rfl) dX2_startNext_25 (fun w_5 H locs ew_6 hw => ?_)
  have hc_7 : w_5 72 = .inr (1, [.ref (ad 73), .ref (ad 74), .ref (ad 75), .int (nI en), .int (nI 0), .long (msgF v en), .int bas]) := by rw [ew_6]; exact va_up_self _ _ _
  have hc_8 : w_5 73 = .inl (cJ, 301, .inr (.inl vf)) := by rw [ew_6]; exact (va_up_ne _ _ (by omega)).trans hc_4
  refine lv_aload_n hx hb dX2_startNext_28 rfl (lv_at hl 0 rfl) ?_
  refine gf_X2_43 hx hb hts hown hw (by decide) hc_7 rfl dX2_startNext_29 ?_
  refine lv_ldc2 hx hb hown (hts _ ct_X2_47) dX2_startNext_32 ?_
  refine x_callS (As := [.long (msgF v en), .long (lN 2147483578)]) (rest := []) hC sf_X2_49 (k_floorMod l (msgF v en) 2147483578 (by decide) (by decide)) ⟨rfl, rfl, Nat.le_of_ble_eq_true rfl, Nat.le_of_ble_eq_true rfl⟩ hl.1 (Nat.le_of_ble_eq_true rfl) dX2_startNext_35 ⟨Nat.zero_le _, Nat.zero_le _⟩ rfl ?_
  refine lv_l2i hx hb dX2_startNext_38 (lN_i _) ?_
  refine lv_iconst (v := nI 1) hx hb dX2_startNext_39 (by decide) ?_
  refine t_iadd hx hb dX2_startNext_40 (v := nI (md (msgF v en) 2147483578 + 1)) (nI_add _ _) ?_
  refine lv_istore_n (lv' := [(1, .int (nI (md (msgF v en) 2147483578 + 1))), (0, .ref (ad 72))]) hx hb dX2_startNext_41 rfl hl (by decide) rfl (fun ls hl => ?_)
  refine lv_aload_n hx hb dX2_startNext_42 rfl (lv_at hl 1 rfl) ?_
  refine lv_iload_n hx hb dX2_startNext_43 rfl (lv_at hl 0 rfl) ?_
  refine lv_iload_n hx hb dX2_startNext_44 rfl (lv_at hl 0 rfl) ?_
  refine x_callS (As := [.int (nI (md (msgF v en) 2147483578 + 1)), .int (nI (md (msgF v en) 2147483578 + 1))]) (rest := [.ref (ad 72)]) hC sf_X2_54 (k_times l (md (msgF v en) 2147483578 + 1) (md (msgF v en) 2147483578 + 1) (by omega) (by omega)) ⟨rfl, rfl, Nat.le_of_ble_eq_true rfl, Nat.le_of_ble_eq_true rfl⟩ hl.1 (Nat.le_of_ble_eq_true rfl) dX2_startNext_45 ⟨Nat.zero_le _, Nat.zero_le _⟩ rfl ?_
  refine pf_X2_58 (v := .int (nI (basF (msgF v en)))) hx hb hts hown hw (by decide) hc_7 rfl rfl (Nat.le_of_ble_eq_true rfl) dX2_startNext_48 (fun w_9 H locs ew_10 hw => ?_)
  have hc_11 : w_9 72 = .inr (1, [.ref (ad 73), .ref (ad 74), .ref (ad 75), .int (nI en), .int (nI 0), .long (msgF v en), .int (nI (basF (msgF v en)))]) := by rw [ew_10]; exact va_up_self _ _ _
  have hc_12 : w_9 73 = .inl (cJ, 301, .inr (.inl vf)) := by rw [ew_10]; exact (va_up_ne _ _ (by omega)).trans hc_8
  exact x_wretV hx hb hr hlocks hw (by rw [ew_10, ew_6, ew_2, bx_uu, bx_uu] <;> rfl) dX2_startNext_51
set_option maxHeartbeats 4000000 in
set_option maxRecDepth 100000 in
theorem k_startFrom (l : Launch) {D : va_G} {cI cJ cZ cD : ClassId} {ad : Nat → Nat} {w : Nat → va_E} {sz : Nat} (en kp bas : Int32) (msg : Int64) (vf : Nat → Int64) (z : Int64) (hR : w 72 = .inr (1, [.ref (ad 73), .ref (ad 74), .ref (ad 75), .int en, .int kp, .long msg, .int bas])) (hVs : w 73 = .inl (cJ, 301, .inr (.inl vf))) : MW l yX2_startFrom (.code yX2_startFrom cX2_startFrom 3 none) ({ frames := 3, cells := 0, slots := 0, locals := 93 }) [.ref (ad 72), .long z] D (tyL cI cJ cZ cD) ad 89 w sz none (fun u => u = va_up (va_up w 73 (.inl (cJ, 301, .inr (.inl (vp_updL vf 0 z))))) 72 (.inr (1, [.ref (ad 73), .ref (ad 74), .ref (ad 75), .int (nI 0), .int (nI 0), .long (msgF z 0), .int (nI (basF (msgF z 0)))]))) := by
  refine MW.of (by decide) (Nat.le_of_ble_eq_true rfl) ?_
  intro p e s m below meth c ls hC hr hlocks hl hw
  obtain ⟨hx, hb, hml, hown, hts⟩ := id hC
  have hA : ∀ q, s.heap.size ≤ q → xA ad 89 s.heap.size q := fun q h => Or.inr h
  have hl : lv_has ls 3 [(0, .ref (ad 72)), (1, .long z)] := hl
  refine lv_aload_n hx hb dX2_startFrom_0 rfl (lv_at hl 0 rfl) ?_
  refine gf_X2_9 hx hb hts hown hw (by decide) hR rfl dX2_startFrom_1 ?_
  refine lv_iconst (v := nI 0) hx hb dX2_startFrom_4 (by decide) ?_
  refine lv_lload_n hx hb dX2_startFrom_5 rfl (lv_at hl 1 rfl) ?_
  refine x_last hx hb hw (by decide) 1 hVs rfl (j := 0) (by omega) (by decide) dX2_startFrom_6 (fun w_1 H locs ew_2 hw => ?_)
  have hc_3 : w_1 72 = .inr (1, [.ref (ad 73), .ref (ad 74), .ref (ad 75), .int en, .int kp, .long msg, .int bas]) := by rw [ew_2]; exact (va_up_ne _ _ (by omega)).trans hR
  have hc_4 : w_1 73 = .inl (cJ, 301, .inr (.inl (vp_updL vf 0 z))) := by rw [ew_2]; exact va_up_self _ _ _
  refine lv_aload_n hx hb dX2_startFrom_7 rfl (lv_at hl 0 rfl) ?_
  refine lv_iconst (v := nI 0) hx hb dX2_startFrom_8 (by decide) ?_
  refine pf_X2_29 (v := .int (nI 0)) hx hb hts hown hw (by decide) hc_3 rfl rfl (Nat.le_of_ble_eq_true rfl) dX2_startFrom_9 (fun w_5 H locs ew_6 hw => ?_)
  have hc_7 : w_5 72 = .inr (1, [.ref (ad 73), .ref (ad 74), .ref (ad 75), .int (nI 0), .int kp, .long msg, .int bas]) := by rw [ew_6]; exact va_up_self _ _ _
  have hc_8 : w_5 73 = .inl (cJ, 301, .inr (.inl (vp_updL vf 0 z))) := by rw [ew_6]; exact (va_up_ne _ _ (by omega)).trans hc_4
  refine lv_aload_n hx hb dX2_startFrom_12 rfl (lv_at hl 0 rfl) ?_
  refine x_callW0 (As := []) (rest := []) hC vf_X2_36 hw hA (by decide) hc_7 rfl rfl (k_startNext l 0 _ _ _ (vp_updL vf 0 z) z (by decide) pk_uLs hc_7 hc_8) ⟨rfl, rfl, Nat.le_of_ble_eq_true rfl, Nat.le_of_ble_eq_true rfl⟩ hl.1 (Nat.le_of_ble_eq_true rfl) dX2_startFrom_13 ⟨Nat.zero_le _, Nat.zero_le _⟩ rfl (fun w_9 H locs hu hw => ?_)
  exact x_wretV hx hb hr hlocks hw (by rw [hu, ew_6, ew_2, bx_uu] <;> rfl) dX2_startFrom_16
set_option maxHeartbeats 4000000 in
set_option maxRecDepth 100000 in
theorem k_endWith (l : Launch) {D : va_G} {cI cJ cZ cD : ClassId} {ad : Nat → Nat} {w : Nat → va_E} {sz : Nat} (en r : Nat) (hen : en < 300) (hr0 : r < 2 ^ 31) (kp bas : Int32) (msg : Int64) (vf : Nat → Int64) (hR : w 72 = .inr (1, [.ref (ad 73), .ref (ad 74), .ref (ad 75), .int (nI en), .int kp, .long msg, .int bas])) (hVs : w 73 = .inl (cJ, 301, .inr (.inl vf))) : MW l yX2_endWith (.code yX2_endWith cX2_endWith 2 none) ({ frames := 3, cells := 0, slots := 0, locals := 93 }) [.ref (ad 72), .int (nI r)] D (tyL cI cJ cZ cD) ad 89 w sz none (fun u => u = va_up (va_up w 73 (.inl (cJ, 301, .inr (.inl (vp_updL vf (en + 1) (lN r)))))) 72 (.inr (1, [.ref (ad 73), .ref (ad 74), .ref (ad 75), .int (nI (en + 1)), .int (nI 0), .long (msgF (lN r) (en + 1)), .int (nI (basF (msgF (lN r) (en + 1))))]))) := by
  refine MW.of (by decide) (Nat.le_of_ble_eq_true rfl) ?_
  intro p e s m below meth c ls hC hr hlocks hl hw
  obtain ⟨hx, hb, hml, hown, hts⟩ := id hC
  have hA : ∀ q, s.heap.size ≤ q → xA ad 89 s.heap.size q := fun q h => Or.inr h
  have hl : lv_has ls 2 [(0, .ref (ad 72)), (1, .int (nI r))] := hl
  refine lv_aload_n hx hb dX2_endWith_0 rfl (lv_at hl 0 rfl) ?_
  refine lv_dup hx hb dX2_endWith_1 rfl ?_
  refine gf_X2_29 hx hb hts hown hw (by decide) hR rfl dX2_endWith_2 ?_
  refine lv_iconst (v := nI 1) hx hb dX2_endWith_5 (by decide) ?_
  refine t_iadd hx hb dX2_endWith_6 (v := nI (en + 1)) (nI_add _ _) ?_
  refine pf_X2_29 (v := .int (nI (en + 1))) hx hb hts hown hw (by decide) hR rfl rfl (Nat.le_of_ble_eq_true rfl) dX2_endWith_7 (fun w_1 H locs ew_2 hw => ?_)
  have hc_3 : w_1 72 = .inr (1, [.ref (ad 73), .ref (ad 74), .ref (ad 75), .int (nI (en + 1)), .int kp, .long msg, .int bas]) := by rw [ew_2]; exact va_up_self _ _ _
  have hc_4 : w_1 73 = .inl (cJ, 301, .inr (.inl vf)) := by rw [ew_2]; exact (va_up_ne _ _ (by omega)).trans hVs
  refine lv_aload_n hx hb dX2_endWith_10 rfl (lv_at hl 0 rfl) ?_
  refine gf_X2_9 hx hb hts hown hw (by decide) hc_3 rfl dX2_endWith_11 ?_
  refine lv_aload_n hx hb dX2_endWith_14 rfl (lv_at hl 0 rfl) ?_
  refine gf_X2_29 hx hb hts hown hw (by decide) hc_3 rfl dX2_endWith_15 ?_
  refine lv_iload_n hx hb dX2_endWith_18 rfl (lv_at hl 1 rfl) ?_
  refine lv_i2l hx hb dX2_endWith_19 (nI_l (by omega)) ?_
  refine x_last hx hb hw (by decide) 1 hc_4 rfl (j := en + 1) (by omega) (by decide) dX2_endWith_20 (fun w_5 H locs ew_6 hw => ?_)
  have hc_7 : w_5 72 = .inr (1, [.ref (ad 73), .ref (ad 74), .ref (ad 75), .int (nI (en + 1)), .int kp, .long msg, .int bas]) := by rw [ew_6]; exact (va_up_ne _ _ (by omega)).trans hc_3
  have hc_8 : w_5 73 = .inl (cJ, 301, .inr (.inl (vp_updL vf (en + 1) (lN r)))) := by rw [ew_6]; exact va_up_self _ _ _
  refine lv_aload_n hx hb dX2_endWith_21 rfl (lv_at hl 0 rfl) ?_
  refine x_callW0 (As := []) (rest := []) hC vf_X2_36 hw hA (by decide) hc_7 rfl rfl (k_startNext l (en + 1) _ _ _ (vp_updL vf (en + 1) (lN r)) (lN r) (by omega) pk_uLs hc_7 hc_8) ⟨rfl, rfl, Nat.le_of_ble_eq_true rfl, Nat.le_of_ble_eq_true rfl⟩ hl.1 (Nat.le_of_ble_eq_true rfl) dX2_endWith_22 ⟨Nat.zero_le _, Nat.zero_le _⟩ rfl (fun w_9 H locs hu hw => ?_)
  exact x_wretV hx hb hr hlocks hw (by rw [hu, ew_6, ew_2, va_up_comm _ (by decide), bx_uu, va_up_comm _ (i := 72) (j := 73) (by decide)] <;> rfl) dX2_endWith_25
set_option maxHeartbeats 4000000 in
set_option maxRecDepth 100000 in
theorem k_keepsPartOf (l : Launch) {D : va_G} {cI cJ cZ cD : ClassId} {ad : Nat → Nat} {w : Nat → va_E} {sz : Nat} (kp : Nat) (hkp : kp < 2 ^ 31) (en bas : Int32) (msg : Int64) (k : Nat) (hk : k < 32) (hR : w 72 = .inr (1, [.ref (ad 73), .ref (ad 74), .ref (ad 75), .int en, .int (nI kp), .long msg, .int bas])) : MW l yX2_keepsPartOf (.code yX2_keepsPartOf cX2_keepsPartOf 2 (some .boolean)) ({ frames := 1, cells := 0, slots := 0, locals := 29 }) [.ref (ad 72), .int (nI k)] D (tyL cI cJ cZ cD) ad 89 w sz (some (.int (nI (tb kp k)))) (fun u => u = w) := by
  refine MW.of (by decide) (Nat.le_of_ble_eq_true rfl) ?_
  intro p e s m below meth c ls hC hr hlocks hl hw
  obtain ⟨hx, hb, hml, hown, hts⟩ := id hC
  have hA : ∀ q, s.heap.size ≤ q → xA ad 89 s.heap.size q := fun q h => Or.inr h
  have hl : lv_has ls 2 [(0, .ref (ad 72)), (1, .int (nI k))] := hl
  have htb := tb_lt kp k
  refine lv_aload_n hx hb dX2_keepsPartOf_0 rfl (lv_at hl 0 rfl) ?_
  refine gf_X2_33 hx hb hts hown hw (by decide) hR rfl dX2_keepsPartOf_1 ?_
  refine lv_iload_n hx hb dX2_keepsPartOf_4 rfl (lv_at hl 1 rfl) ?_
  refine x_callS (As := [.int (nI kp), .int (nI k)]) (rest := []) hC sf_X2_61 (k_hasBit l kp k hkp hk) ⟨rfl, rfl, Nat.le_of_ble_eq_true rfl, Nat.le_of_ble_eq_true rfl⟩ hl.1 (Nat.le_of_ble_eq_true rfl) dX2_keepsPartOf_5 ⟨Nat.zero_le _, Nat.zero_le _⟩ rfl ?_
  have hn : narrow .boolean (.int (nI (tb kp k))) = .int (nI (tb kp k)) := by rcases (show tb kp k = 0 ∨ tb kp k = 1 by omega) with q | q <;> rw [q] <;> rfl
  exact x_wretZ hx hb hr hlocks hn hw rfl dX2_keepsPartOf_8
set_option maxHeartbeats 4000000 in
set_option maxRecDepth 100000 in
theorem k_keep (l : Launch) {D : va_G} {cI cJ cZ cD : ClassId} {ad : Nat → Nat} {w : Nat → va_E} {sz : Nat} (kp : Nat) (en bas : Int32) (msg : Int64) (ptf : Nat → Int32) (k : Nat) (hk : k < 17) (x : Int32) (hR : w 72 = .inr (1, [.ref (ad 73), .ref (ad 74), .ref (ad 75), .int en, .int (nI kp), .long msg, .int bas])) (hPt : w 74 = .inl (cI, 17, .inl ptf)) : MW l yX2_keep (.code yX2_keep cX2_keep 3 none) ({ frames := 0, cells := 0, slots := 0, locals := 0 }) [.ref (ad 72), .int (nI k), .int x] D (tyL cI cJ cZ cD) ad 89 w sz none (fun u => u = va_up (va_up w 74 (.inl (cI, 17, .inl (upd ptf k x)))) 72 (.inr (1, [.ref (ad 73), .ref (ad 74), .ref (ad 75), .int en, .int (nI (kp ||| 2 ^ k)), .long msg, .int bas]))) := by
  refine MW.of (by decide) (Nat.le_of_ble_eq_true rfl) ?_
  intro p e s m below meth c ls hC hr hlocks hl hw
  obtain ⟨hx, hb, hml, hown, hts⟩ := id hC
  have hA : ∀ q, s.heap.size ≤ q → xA ad 89 s.heap.size q := fun q h => Or.inr h
  have hl : lv_has ls 3 [(0, .ref (ad 72)), (1, .int (nI k)), (2, .int x)] := hl
  refine lv_aload_n hx hb dX2_keep_0 rfl (lv_at hl 0 rfl) ?_
  refine gf_X2_15 hx hb hts hown hw (by decide) hR rfl dX2_keep_1 ?_
  refine lv_iload_n hx hb dX2_keep_4 rfl (lv_at hl 1 rfl) ?_
  refine lv_iload_n hx hb dX2_keep_5 rfl (lv_at hl 2 rfl) ?_
  refine x_iast hx hb hw (by decide) 0 hPt rfl (j := k) (by omega) (by decide) dX2_keep_6 (fun w_1 H locs ew_2 hw => ?_)
  have hc_3 : w_1 72 = .inr (1, [.ref (ad 73), .ref (ad 74), .ref (ad 75), .int en, .int (nI kp), .long msg, .int bas]) := by rw [ew_2]; exact (va_up_ne _ _ (by omega)).trans hR
  have hc_4 : w_1 74 = .inl (cI, 17, .inl (upd ptf k x)) := by rw [ew_2]; exact va_up_self _ _ _
  refine lv_aload_n hx hb dX2_keep_7 rfl (lv_at hl 0 rfl) ?_
  refine lv_dup hx hb dX2_keep_8 rfl ?_
  refine gf_X2_33 hx hb hts hown hw (by decide) hc_3 rfl dX2_keep_9 ?_
  refine lv_iconst (v := nI 1) hx hb dX2_keep_12 (by decide) ?_
  refine lv_iload_n hx hb dX2_keep_13 rfl (lv_at hl 1 rfl) ?_
  refine lv_ishl hx hb dX2_keep_14 ?_
  refine lv_ior hx hb dX2_keep_15 ?_
  rw [or_bit (by omega)]
  refine pf_X2_33 (v := .int (nI (kp ||| 2 ^ k))) hx hb hts hown hw (by decide) hc_3 rfl rfl (Nat.le_of_ble_eq_true rfl) dX2_keep_16 (fun w_5 H locs ew_6 hw => ?_)
  have hc_7 : w_5 72 = .inr (1, [.ref (ad 73), .ref (ad 74), .ref (ad 75), .int en, .int (nI (kp ||| 2 ^ k)), .long msg, .int bas]) := by rw [ew_6]; exact va_up_self _ _ _
  have hc_8 : w_5 74 = .inl (cI, 17, .inl (upd ptf k x)) := by rw [ew_6]; exact (va_up_ne _ _ (by omega)).trans hc_4
  exact x_wretV hx hb hr hlocks hw (by rw [ew_6, ew_2] <;> rfl) dX2_keep_19
set_option maxHeartbeats 4000000 in
set_option maxRecDepth 100000 in
theorem k_least_loop {l : Launch} {p : Program} {e : Env} {s : State} {m : MethodId} {args : Array Value} {below : List Frame} {meth : Method} {c : Code} {Q : State → Prop} {D : va_G} {cI cJ cZ cD : ClassId} {ad : Nat → Nat} {A : Nat → Prop} {H0 : Heap} {w : Nat → va_E} (hC : CallFix p m c cX2_leastKept 5 s args wsL_law RX2) (hA : ∀ q, H0.size ≤ q → A q) (kp t : Nat) (hkp : kp < 2 ^ 31) (ht : t ≤ 16) (en bas : Int32) (msg : Int64) (hR : w 72 = .inr (1, [.ref (ad 73), .ref (ad 74), .ref (ad 75), .int en, .int (nI kp), .long msg, .int bas]))
    (kx : ∀ (ls : Array Slot) (H : Heap) (locs : List Loc), WW D vwCl (tyL cI cJ cZ cD) A H0 ad 89 w s H locs → lv_has ls 5 [(2, .int (nI (lst kp t 16).1))] → W p l e ({ frames := 2, cells := 0, slots := 0, locals := 58 }) s m args below meth c H locs 0 0 Q (F0 m 44 ls [])) :
    ∀ (j q : Nat) (ls : Array Slot) (H : Heap) (locs : List Loc), q + j = 16 → WW D vwCl (tyL cI cJ cZ cD) A H0 ad 89 w s H locs → lv_has ls 5 [(0, .ref (ad 72)), (1, .int (nI t)), (2, .int (nI ((lst kp t q).1))), (3, .int (nI ((lst kp t q).2))), (4, .int (nI (q + 1)))] → W p l e ({ frames := 2, cells := 0, slots := 0, locals := 58 }) s m args below meth c H locs 0 0 Q (F0 m 7 ls []) := by
  obtain ⟨hx, hb, hml, hown, hts⟩ := id hC
  intro j
  induction j with
  | zero =>
    intro q ls H locs hq hw hl
    obtain rfl : q = 16 := by omega
    have hl : lv_has ls 5 [(0, .ref (ad 72)), (1, .int (nI t)), (2, .int (nI ((lst kp t 16).1))), (3, .int (nI ((lst kp t 16).2))), (4, .int (nI 17))] := hl
    refine lv_iload hx hb dX2_leastKept_7 (lv_at hl 4 rfl) ?_
    refine lv_bipush (v := nI 16) hx hb dX2_leastKept_9 (by decide) ?_
    refine lv_icmp_gt (tgt := 44) hx hb dX2_leastKept_11 (by decide) (fun hc => ?_) (fun hc => absurd (by decide) hc)
    exact kx ls H locs hw (lv_sub hl [2] rfl)
  | succ j ih =>
    intro q ls H locs hq hw hl
    obtain ⟨hb1, hb2, hb3⟩ := lst_lt kp t q (by omega)
    refine lv_iload hx hb dX2_leastKept_7 (lv_at hl 4 rfl) ?_
    refine lv_bipush (v := nI 16) hx hb dX2_leastKept_9 (by decide) ?_
    refine lv_icmp_gt (tgt := 44) hx hb dX2_leastKept_11 (by decide) (fun hc => absurd hc (nI_nlt (by omega) (by omega))) (fun hc => ?_)
    refine lv_iload_n hx hb dX2_leastKept_14 rfl (lv_at hl 3 rfl) ?_
    refine lv_iload_n hx hb dX2_leastKept_15 rfl (lv_at hl 1 rfl) ?_
    refine lv_icmp_ge (tgt := 44) hx hb dX2_leastKept_16 (by decide) (fun hc2 => ?_) (fun hc2 => ?_)
    · rw [nI_leI (by omega) (by omega)] at hc2
      have hst := lst_stay (b := kp) (t := t) (k := q) (by omega) (16 - q)
      rw [show q + (16 - q) = 16 by omega] at hst
      exact kx ls H locs hw (lv_sub hl [2] (by rw [hst]; rfl))
    · rw [nI_leI (by omega) (by omega)] at hc2
      refine lv_aload_n hx hb dX2_leastKept_19 rfl (lv_at hl 0 rfl) ?_
      refine lv_iload hx hb dX2_leastKept_20 (lv_at hl 4 rfl) ?_
      have htb := tb_lt kp (q + 1)
      refine x_callW1 (As := [.int (nI (q + 1))]) (rest := []) hC vf_X2_65 hw hA (by decide) hR rfl rfl (k_keepsPartOf l kp hkp _ _ _ (q + 1) (by omega) hR) ⟨rfl, rfl, Nat.le_of_ble_eq_true rfl, Nat.le_of_ble_eq_true rfl⟩ hl.1 (Nat.le_of_ble_eq_true rfl) dX2_leastKept_22 ⟨Nat.zero_le _, Nat.zero_le _⟩ rfl (fun w_1 H locs hu hw => ?_)
      rw [hu] at hw
      refine lv_if_eq (tgt := 38) hx hb dX2_leastKept_25 (by decide) (fun hc3 => ?_) (fun hc3 => ?_)
      · rw [nI_z (by omega)] at hc3
        refine lv_iinc (v := nI (q + 1 + 1)) (lv' := [(4, .int (nI (q + 1 + 1))), (0, .ref (ad 72)), (1, .int (nI t)), (2, .int (nI ((lst kp t q).1))), (3, .int (nI ((lst kp t q).2)))]) hx hb dX2_leastKept_38 hl (k := 4) rfl (nI_1 (q + 1)) (by decide) rfl (fun ls hl => ?_)
        refine lv_goto (tgt := 7) hx hb dX2_leastKept_41 (by decide) ?_
        exact ih (q + 1) ls H locs (by omega) hw (lv_sub hl [1, 2, 3, 4, 0] (by rw [show lst kp t (q + 1) = lst kp t q from if_neg (by omega)]; rfl))
      · rw [nI_z (by omega)] at hc3
        refine lv_iload_n hx hb dX2_leastKept_28 rfl (lv_at hl 2 rfl) ?_
        refine lv_iconst (v := nI 1) hx hb dX2_leastKept_29 (by decide) ?_
        refine lv_iload hx hb dX2_leastKept_30 (lv_at hl 4 rfl) ?_
        refine lv_ishl hx hb dX2_leastKept_32 ?_
        refine lv_ior hx hb dX2_leastKept_33 ?_
        rw [or_bit (by omega)]
        refine lv_istore_n (lv' := [(2, .int (nI ((lst kp t q).1 ||| 2 ^ (q + 1)))), (0, .ref (ad 72)), (1, .int (nI t)), (3, .int (nI ((lst kp t q).2))), (4, .int (nI (q + 1)))]) hx hb dX2_leastKept_34 rfl hl (by decide) rfl (fun ls hl => ?_)
        refine lv_iinc (v := nI ((lst kp t q).2 + 1)) (lv' := [(3, .int (nI ((lst kp t q).2 + 1))), (2, .int (nI ((lst kp t q).1 ||| 2 ^ (q + 1)))), (0, .ref (ad 72)), (1, .int (nI t)), (4, .int (nI (q + 1)))]) hx hb dX2_leastKept_35 hl (k := 3) rfl (nI_1 ((lst kp t q).2)) (by decide) rfl (fun ls hl => ?_)
        refine lv_iinc (v := nI (q + 1 + 1)) (lv' := [(4, .int (nI (q + 1 + 1))), (3, .int (nI ((lst kp t q).2 + 1))), (2, .int (nI ((lst kp t q).1 ||| 2 ^ (q + 1)))), (0, .ref (ad 72)), (1, .int (nI t))]) hx hb dX2_leastKept_38 hl (k := 4) rfl (nI_1 (q + 1)) (by decide) rfl (fun ls hl => ?_)
        refine lv_goto (tgt := 7) hx hb dX2_leastKept_41 (by decide) ?_
        exact ih (q + 1) ls H locs (by omega) hw (lv_sub hl [3, 4, 2, 1, 0] (by rw [show lst kp t (q + 1) = _ from if_pos (by omega)]; rfl))
set_option maxHeartbeats 4000000 in
set_option maxRecDepth 100000 in
theorem k_leastKept (l : Launch) {D : va_G} {cI cJ cZ cD : ClassId} {ad : Nat → Nat} {w : Nat → va_E} {sz : Nat} (kp t : Nat) (hkp : kp < 2 ^ 31) (ht : t ≤ 16) (en bas : Int32) (msg : Int64) (hR : w 72 = .inr (1, [.ref (ad 73), .ref (ad 74), .ref (ad 75), .int en, .int (nI kp), .long msg, .int bas])) : MW l yX2_leastKept (.code yX2_leastKept cX2_leastKept 5 (some .int)) ({ frames := 2, cells := 0, slots := 0, locals := 58 }) [.ref (ad 72), .int (nI t)] D (tyL cI cJ cZ cD) ad 89 w sz (some (.int (nI ((lst kp t 16).1)))) (fun u => u = w) := by
  refine MW.of (by decide) (Nat.le_of_ble_eq_true rfl) ?_
  intro p e s m below meth c ls hC hr hlocks hl hw
  obtain ⟨hx, hb, hml, hown, hts⟩ := id hC
  have hA : ∀ q, s.heap.size ≤ q → xA ad 89 s.heap.size q := fun q h => Or.inr h
  have hl : lv_has ls 5 [(0, .ref (ad 72)), (1, .int (nI t))] := hl
  refine lv_iconst (v := nI 0) hx hb dX2_leastKept_0 (by decide) ?_
  refine lv_istore_n (lv' := [(2, .int (nI 0)), (0, .ref (ad 72)), (1, .int (nI t))]) hx hb dX2_leastKept_1 rfl hl (by decide) rfl (fun ls hl => ?_)
  refine lv_iconst (v := nI 0) hx hb dX2_leastKept_2 (by decide) ?_
  refine lv_istore_n (lv' := [(3, .int (nI 0)), (2, .int (nI 0)), (0, .ref (ad 72)), (1, .int (nI t))]) hx hb dX2_leastKept_3 rfl hl (by decide) rfl (fun ls hl => ?_)
  refine lv_iconst (v := nI 1) hx hb dX2_leastKept_4 (by decide) ?_
  refine lv_istore (lv' := [(4, .int (nI 1)), (3, .int (nI 0)), (2, .int (nI 0)), (0, .ref (ad 72)), (1, .int (nI t))]) hx hb dX2_leastKept_5 hl (by decide) rfl (fun ls hl => ?_)
  refine k_least_loop hC hA kp t hkp ht en bas msg hR (fun ls H locs hw hl => ?_) 16 0 ls s.heap [] (by decide) hw (lv_sub hl [3, 4, 2, 1, 0] rfl)
  refine lv_iload_n hx hb dX2_leastKept_44 rfl (lv_at hl 0 rfl) ?_
  exact x_wretI hx hb hr hlocks hw rfl dX2_leastKept_45
set_option maxHeartbeats 4000000 in
set_option maxRecDepth 100000 in
theorem k_inverseP (l : Launch) {D : va_G} {cI cJ cZ cD : ClassId} {ad : Nat → Nat} {w : Nat → va_E} {sz : Nat} (en kp bas : Int32) (msg : Int64) (ivf : Nat → Int32) (hiv : ∀ d, 1 ≤ d → d < 16 → ivf d = nI (iv d)) (d : Nat) (hd1 : 1 ≤ d) (hd2 : d < 16) (hR : w 72 = .inr (1, [.ref (ad 73), .ref (ad 74), .ref (ad 75), .int en, .int kp, .long msg, .int bas])) (hIv : w 75 = .inl (cI, 16, .inl ivf)) : MW l yX2_inverse (.code yX2_inverse cX2_inverse 2 (some .int)) ({ frames := 0, cells := 0, slots := 0, locals := 0 }) [.ref (ad 72), .int (nI d)] D (tyL cI cJ cZ cD) ad 89 w sz (some (.int (nI (iv d)))) (fun u => u = w) := by
  refine MW.of (by decide) (Nat.le_of_ble_eq_true rfl) ?_
  intro p e s m below meth c ls hC hr hlocks hl hw
  obtain ⟨hx, hb, hml, hown, hts⟩ := id hC
  have hA : ∀ q, s.heap.size ≤ q → xA ad 89 s.heap.size q := fun q h => Or.inr h
  have hl : lv_has ls 2 [(0, .ref (ad 72)), (1, .int (nI d))] := hl
  refine lv_iload_n hx hb dX2_inverse_0 rfl (lv_at hl 1 rfl) ?_
  refine lv_if_le (tgt := 13) hx hb dX2_inverse_1 (by decide) (fun hc => absurd hc (nI_nle (by omega) (by omega))) (fun hc => ?_)
  refine lv_aload_n hx hb dX2_inverse_4 rfl (lv_at hl 0 rfl) ?_
  refine gf_X2_19 hx hb hts hown hw (by decide) hR rfl dX2_inverse_5 ?_
  refine lv_iload_n hx hb dX2_inverse_8 rfl (lv_at hl 1 rfl) ?_
  refine x_iald hx hb hw (by decide) 0 hIv rfl (j := d) (by omega) (by decide) (hiv d hd1 hd2) dX2_inverse_9 ?_
  refine lv_goto (tgt := 23) hx hb dX2_inverse_10 (by decide) ?_
  exact x_wretI hx hb hr hlocks hw rfl dX2_inverse_23
set_option maxHeartbeats 4000000 in
set_option maxRecDepth 100000 in
theorem k_inverseN (l : Launch) {D : va_G} {cI cJ cZ cD : ClassId} {ad : Nat → Nat} {w : Nat → va_E} {sz : Nat} (en kp bas : Int32) (msg : Int64) (ivf : Nat → Int32) (hiv : ∀ d, 1 ≤ d → d < 16 → ivf d = nI (iv d)) (a b : Nat) (hab : a < b) (hb0 : b ≤ 16) (ha : 1 ≤ a) (hR : w 72 = .inr (1, [.ref (ad 73), .ref (ad 74), .ref (ad 75), .int en, .int kp, .long msg, .int bas])) (hIv : w 75 = .inl (cI, 16, .inl ivf)) : MW l yX2_inverse (.code yX2_inverse cX2_inverse 2 (some .int)) ({ frames := 0, cells := 0, slots := 0, locals := 0 }) [.ref (ad 72), .int (nI a - nI b)] D (tyL cI cJ cZ cD) ad 89 w sz (some (.int (nI (1073741789 - iv (b - a))))) (fun u => u = w) := by
  refine MW.of (by decide) (Nat.le_of_ble_eq_true rfl) ?_
  intro p e s m below meth c ls hC hr hlocks hl hw
  obtain ⟨hx, hb, hml, hown, hts⟩ := id hC
  have hA : ∀ q, s.heap.size ≤ q → xA ad 89 s.heap.size q := fun q h => Or.inr h
  have hl : lv_has ls 2 [(0, .ref (ad 72)), (1, .int (nI a - nI b))] := hl
  have hlt := iv_lt (b - a) (by omega)
  refine lv_iload_n hx hb dX2_inverse_0 rfl (lv_at hl 1 rfl) ?_
  refine lv_if_le (tgt := 13) hx hb dX2_inverse_1 (by decide) (fun hc => ?_) (fun hc => absurd (sub_le0 (by omega) (by omega)) hc)
  refine lv_ldc hx hb hown (hts _ ct_X2_24) dX2_inverse_13 ?_
  refine lv_aload_n hx hb dX2_inverse_15 rfl (lv_at hl 0 rfl) ?_
  refine gf_X2_19 hx hb hts hown hw (by decide) hR rfl dX2_inverse_16 ?_
  refine lv_iload_n hx hb dX2_inverse_19 rfl (lv_at hl 1 rfl) ?_
  refine lv_ineg hx hb dX2_inverse_20 ?_
  rw [neg_sub_nI (by omega)]
  refine x_iald hx hb hw (by decide) 0 hIv rfl (j := b - a) (by omega) (by decide) (hiv (b - a) (by omega) (by omega)) dX2_inverse_21 ?_
  refine t_isub hx hb dX2_inverse_22 (v := nI (1073741789 - (iv (b - a)))) (pk_sub (by omega)) ?_
  exact x_wretI hx hb hr hlocks hw rfl dX2_inverse_23
set_option maxHeartbeats 4000000 in
set_option maxRecDepth 100000 in
theorem k_weight_loop {l : Launch} {p : Program} {e : Env} {s : State} {m : MethodId} {args : Array Value} {below : List Frame} {meth : Method} {c : Code} {Q : State → Prop} {D : va_G} {cI cJ cZ cD : ClassId} {ad : Nat → Nat} {A : Nat → Prop} {H0 : Heap} {w : Nat → va_E} (hC : CallFix p m c cX2_weight 6 s args wsL_law RX2) (hA : ∀ q, H0.size ≤ q → A q) (en kp bas : Int32) (msg : Int64) (ivf : Nat → Int32) (hiv : ∀ d, 1 ≤ d → d < 16 → ivf d = nI (iv d)) (k b : Nat) (hk1 : 1 ≤ k) (hk2 : k ≤ 16) (hbb : b < 2 ^ 31) (hR : w 72 = .inr (1, [.ref (ad 73), .ref (ad 74), .ref (ad 75), .int en, .int kp, .long msg, .int bas])) (hIv : w 75 = .inl (cI, 16, .inl ivf))
    (kx : ∀ (ls : Array Slot) (H : Heap) (locs : List Loc), WW D vwCl (tyL cI cJ cZ cD) A H0 ad 89 w s H locs → lv_has ls 6 [(3, .int (nI (wgt b k 16)))] → W p l e ({ frames := 2, cells := 0, slots := 0, locals := 62 }) s m args below meth c H locs 0 0 Q (F0 m 61 ls [])) :
    ∀ (j q : Nat) (ls : Array Slot) (H : Heap) (locs : List Loc), q + j = 16 → WW D vwCl (tyL cI cJ cZ cD) A H0 ad 89 w s H locs → lv_has ls 6 [(0, .ref (ad 72)), (1, .int (nI k)), (2, .int (nI b)), (3, .int (nI (wgt b k q))), (4, .int (nI (q + 1)))] → W p l e ({ frames := 2, cells := 0, slots := 0, locals := 62 }) s m args below meth c H locs 0 0 Q (F0 m 5 ls []) := by
  obtain ⟨hx, hb, hml, hown, hts⟩ := id hC
  intro j
  induction j with
  | zero =>
    intro q ls H locs hq hw hl
    obtain rfl : q = 16 := by omega
    have hl : lv_has ls 6 [(0, .ref (ad 72)), (1, .int (nI k)), (2, .int (nI b)), (3, .int (nI (wgt b k 16))), (4, .int (nI 17))] := hl
    refine lv_iload hx hb dX2_weight_5 (lv_at hl 4 rfl) ?_
    refine lv_bipush (v := nI 16) hx hb dX2_weight_7 (by decide) ?_
    refine lv_icmp_gt (tgt := 61) hx hb dX2_weight_9 (by decide) (fun hc => ?_) (fun hc => absurd (by decide) hc)
    exact kx ls H locs hw (lv_sub hl [3] rfl)
  | succ j ih =>
    intro q ls H locs hq hw hl
    have hwl := wgt_lt b k q
    refine lv_iload hx hb dX2_weight_5 (lv_at hl 4 rfl) ?_
    refine lv_bipush (v := nI 16) hx hb dX2_weight_7 (by decide) ?_
    refine lv_icmp_gt (tgt := 61) hx hb dX2_weight_9 (by decide) (fun hc => absurd hc (nI_nlt (by omega) (by omega))) (fun hc => ?_)
    refine lv_iload hx hb dX2_weight_12 (lv_at hl 4 rfl) ?_
    refine lv_iload_n hx hb dX2_weight_14 rfl (lv_at hl 1 rfl) ?_
    refine lv_icmp_eq (tgt := 55) hx hb dX2_weight_15 (by decide) (fun hc2 => ?_) (fun hc2 => ?_)
    · rw [nI_eq (by omega) (by omega)] at hc2
      refine lv_iinc (v := nI (q + 1 + 1)) (lv' := [(4, .int (nI (q + 1 + 1))), (0, .ref (ad 72)), (1, .int (nI k)), (2, .int (nI b)), (3, .int (nI (wgt b k q)))]) hx hb dX2_weight_55 hl (k := 4) rfl (nI_1 (q + 1)) (by decide) rfl (fun ls hl => ?_)
      refine lv_goto (tgt := 5) hx hb dX2_weight_58 (by decide) ?_
      exact ih (q + 1) ls H locs (by omega) hw (lv_sub hl [1, 2, 3, 4, 0] (by rw [show wgt b k (q + 1) = wgt b k q from if_neg (by omega)]; rfl))
    · rw [nI_eq (by omega) (by omega)] at hc2
      refine lv_iload_n hx hb dX2_weight_18 rfl (lv_at hl 2 rfl) ?_
      refine lv_iload hx hb dX2_weight_19 (lv_at hl 4 rfl) ?_
      have htb := tb_lt b (q + 1)
      refine x_callS (As := [.int (nI b), .int (nI (q + 1))]) (rest := []) hC sf_X2_61 (k_hasBit l b (q + 1) hbb (by omega)) ⟨rfl, rfl, Nat.le_of_ble_eq_true rfl, Nat.le_of_ble_eq_true rfl⟩ hl.1 (Nat.le_of_ble_eq_true rfl) dX2_weight_21 ⟨Nat.zero_le _, Nat.zero_le _⟩ rfl ?_
      refine lv_if_eq (tgt := 55) hx hb dX2_weight_24 (by decide) (fun hc3 => ?_) (fun hc3 => ?_)
      · rw [nI_z (by omega)] at hc3
        refine lv_iinc (v := nI (q + 1 + 1)) (lv' := [(4, .int (nI (q + 1 + 1))), (0, .ref (ad 72)), (1, .int (nI k)), (2, .int (nI b)), (3, .int (nI (wgt b k q)))]) hx hb dX2_weight_55 hl (k := 4) rfl (nI_1 (q + 1)) (by decide) rfl (fun ls hl => ?_)
        refine lv_goto (tgt := 5) hx hb dX2_weight_58 (by decide) ?_
        exact ih (q + 1) ls H locs (by omega) hw (lv_sub hl [1, 2, 3, 4, 0] (by rw [show wgt b k (q + 1) = wgt b k q from if_neg (by omega)]; rfl))
      · rw [nI_z (by omega)] at hc3
        have hic := ivc_lt (k := k) (m := q + 1) (by omega) hk2 (by omega) hk1 (by omega)
        have hmm : (q + 1) * ivc k (q + 1) ≤ 16 * 1073741789 := Nat.mul_le_mul (by omega) (by omega)
        have hml2 : (q + 1) * ivc k (q + 1) % 1073741789 < 1073741789 := Nat.mod_lt _ (by decide)
        have hpp := mul_lt62 (show wgt b k q < 2 ^ 31 by omega) (show (q + 1) * ivc k (q + 1) % 1073741789 < 2 ^ 31 by omega)
        refine lv_iload hx hb dX2_weight_27 (lv_at hl 4 rfl) ?_
        refine lv_i2l hx hb dX2_weight_29 (nI_l (by omega)) ?_
        refine lv_aload_n hx hb dX2_weight_30 rfl (lv_at hl 0 rfl) ?_
        refine lv_iload hx hb dX2_weight_31 (lv_at hl 4 rfl) ?_
        refine lv_iload_n hx hb dX2_weight_33 rfl (lv_at hl 1 rfl) ?_
        by_cases hlt : k < q + 1
        · skip
          refine t_isub hx hb dX2_weight_34 (v := nI (q + 1 - k)) (pk_sub (by omega)) ?_
          refine x_callW1 (As := [.int (nI (q + 1 - k))]) (rest := [.long (lN (q + 1))]) hC vf_X2_75 hw hA (by decide) hR rfl rfl (k_inverseP l _ _ _ _ ivf hiv (q + 1 - k) (by omega) (by omega) hR hIv) ⟨rfl, rfl, Nat.le_of_ble_eq_true rfl, Nat.le_of_ble_eq_true rfl⟩ hl.1 (Nat.le_of_ble_eq_true rfl) dX2_weight_35 ⟨Nat.zero_le _, Nat.zero_le _⟩ rfl (fun w_1 H locs hu hw => ?_)
          rw [hu] at hw
          rw [show iv (q + 1 - k) = ivc k (q + 1) from (if_pos hlt).symm]
          refine lv_i2l hx hb dX2_weight_38 (nI_l (by omega)) ?_
          refine lv_lmul hx hb dX2_weight_39 ?_
          rw [lN_mul]
          refine x_callS (As := [.long (lN ((q + 1) * (ivc k (q + 1))))]) (rest := []) hC sf_X2_25 (k_toExponent l (lN ((q + 1) * ivc k (q + 1)))) ⟨rfl, rfl, Nat.le_of_ble_eq_true rfl, Nat.le_of_ble_eq_true rfl⟩ hl.1 (Nat.le_of_ble_eq_true rfl) dX2_weight_40 ⟨Nat.zero_le _, Nat.zero_le _⟩ rfl ?_
          rw [md_nat (by omega)]
          refine lv_istore (lv' := [(5, .int (nI ((q + 1) * ivc k (q + 1) % 1073741789))), (0, .ref (ad 72)), (1, .int (nI k)), (2, .int (nI b)), (3, .int (nI (wgt b k q))), (4, .int (nI (q + 1)))]) hx hb dX2_weight_43 hl (by decide) rfl (fun ls hl => ?_)
          refine lv_iload_n hx hb dX2_weight_45 rfl (lv_at hl 4 rfl) ?_
          refine lv_i2l hx hb dX2_weight_46 (nI_l (by omega)) ?_
          refine lv_iload hx hb dX2_weight_47 (lv_at hl 0 rfl) ?_
          refine lv_i2l hx hb dX2_weight_49 (nI_l (by omega)) ?_
          refine lv_lmul hx hb dX2_weight_50 ?_
          rw [lN_mul]
          refine x_callS (As := [.long (lN ((wgt b k q) * ((q + 1) * ivc k (q + 1) % 1073741789)))]) (rest := []) hC sf_X2_25 (k_toExponent l (lN (wgt b k q * ((q + 1) * ivc k (q + 1) % 1073741789)))) ⟨rfl, rfl, Nat.le_of_ble_eq_true rfl, Nat.le_of_ble_eq_true rfl⟩ hl.1 (Nat.le_of_ble_eq_true rfl) dX2_weight_51 ⟨Nat.zero_le _, Nat.zero_le _⟩ rfl ?_
          rw [md_nat (by omega)]
          refine lv_istore_n (lv' := [(3, .int (nI (wgt b k q * ((q + 1) * ivc k (q + 1) % 1073741789) % 1073741789))), (5, .int (nI ((q + 1) * ivc k (q + 1) % 1073741789))), (0, .ref (ad 72)), (1, .int (nI k)), (2, .int (nI b)), (4, .int (nI (q + 1)))]) hx hb dX2_weight_54 rfl hl (by decide) rfl (fun ls hl => ?_)
          refine lv_iinc (v := nI (q + 1 + 1)) (lv' := [(4, .int (nI (q + 1 + 1))), (3, .int (nI (wgt b k q * ((q + 1) * ivc k (q + 1) % 1073741789) % 1073741789))), (5, .int (nI ((q + 1) * ivc k (q + 1) % 1073741789))), (0, .ref (ad 72)), (1, .int (nI k)), (2, .int (nI b))]) hx hb dX2_weight_55 hl (k := 5) rfl (nI_1 (q + 1)) (by decide) rfl (fun ls hl => ?_)
          refine lv_goto (tgt := 5) hx hb dX2_weight_58 (by decide) ?_
          exact ih (q + 1) ls H locs (by omega) hw (lv_sub hl [3, 4, 5, 1, 0] (by rw [show wgt b k (q + 1) = _ from if_pos ⟨by omega, by omega⟩]; rfl))
        · skip
          refine lv_isub hx hb dX2_weight_34 ?_
          refine x_callW1 (As := [.int (nI (q + 1) - nI k)]) (rest := [.long (lN (q + 1))]) hC vf_X2_75 hw hA (by decide) hR rfl rfl (k_inverseN l _ _ _ _ ivf hiv (q + 1) k (by omega) (by omega) (by omega) hR hIv) ⟨rfl, rfl, Nat.le_of_ble_eq_true rfl, Nat.le_of_ble_eq_true rfl⟩ hl.1 (Nat.le_of_ble_eq_true rfl) dX2_weight_35 ⟨Nat.zero_le _, Nat.zero_le _⟩ rfl (fun w_2 H locs hu hw => ?_)
          rw [hu] at hw
          rw [show 1073741789 - iv (k - (q + 1)) = ivc k (q + 1) from (if_neg hlt).symm]
          refine lv_i2l hx hb dX2_weight_38 (nI_l (by omega)) ?_
          refine lv_lmul hx hb dX2_weight_39 ?_
          rw [lN_mul]
          refine x_callS (As := [.long (lN ((q + 1) * (ivc k (q + 1))))]) (rest := []) hC sf_X2_25 (k_toExponent l (lN ((q + 1) * ivc k (q + 1)))) ⟨rfl, rfl, Nat.le_of_ble_eq_true rfl, Nat.le_of_ble_eq_true rfl⟩ hl.1 (Nat.le_of_ble_eq_true rfl) dX2_weight_40 ⟨Nat.zero_le _, Nat.zero_le _⟩ rfl ?_
          rw [md_nat (by omega)]
          refine lv_istore (lv' := [(5, .int (nI ((q + 1) * ivc k (q + 1) % 1073741789))), (0, .ref (ad 72)), (1, .int (nI k)), (2, .int (nI b)), (3, .int (nI (wgt b k q))), (4, .int (nI (q + 1)))]) hx hb dX2_weight_43 hl (by decide) rfl (fun ls hl => ?_)
          refine lv_iload_n hx hb dX2_weight_45 rfl (lv_at hl 4 rfl) ?_
          refine lv_i2l hx hb dX2_weight_46 (nI_l (by omega)) ?_
          refine lv_iload hx hb dX2_weight_47 (lv_at hl 0 rfl) ?_
          refine lv_i2l hx hb dX2_weight_49 (nI_l (by omega)) ?_
          refine lv_lmul hx hb dX2_weight_50 ?_
          rw [lN_mul]
          refine x_callS (As := [.long (lN ((wgt b k q) * ((q + 1) * ivc k (q + 1) % 1073741789)))]) (rest := []) hC sf_X2_25 (k_toExponent l (lN (wgt b k q * ((q + 1) * ivc k (q + 1) % 1073741789)))) ⟨rfl, rfl, Nat.le_of_ble_eq_true rfl, Nat.le_of_ble_eq_true rfl⟩ hl.1 (Nat.le_of_ble_eq_true rfl) dX2_weight_51 ⟨Nat.zero_le _, Nat.zero_le _⟩ rfl ?_
          rw [md_nat (by omega)]
          refine lv_istore_n (lv' := [(3, .int (nI (wgt b k q * ((q + 1) * ivc k (q + 1) % 1073741789) % 1073741789))), (5, .int (nI ((q + 1) * ivc k (q + 1) % 1073741789))), (0, .ref (ad 72)), (1, .int (nI k)), (2, .int (nI b)), (4, .int (nI (q + 1)))]) hx hb dX2_weight_54 rfl hl (by decide) rfl (fun ls hl => ?_)
          refine lv_iinc (v := nI (q + 1 + 1)) (lv' := [(4, .int (nI (q + 1 + 1))), (3, .int (nI (wgt b k q * ((q + 1) * ivc k (q + 1) % 1073741789) % 1073741789))), (5, .int (nI ((q + 1) * ivc k (q + 1) % 1073741789))), (0, .ref (ad 72)), (1, .int (nI k)), (2, .int (nI b))]) hx hb dX2_weight_55 hl (k := 5) rfl (nI_1 (q + 1)) (by decide) rfl (fun ls hl => ?_)
          refine lv_goto (tgt := 5) hx hb dX2_weight_58 (by decide) ?_
          exact ih (q + 1) ls H locs (by omega) hw (lv_sub hl [3, 4, 5, 1, 0] (by rw [show wgt b k (q + 1) = _ from if_pos ⟨by omega, by omega⟩]; rfl))
set_option maxHeartbeats 4000000 in
set_option maxRecDepth 100000 in
theorem k_weight (l : Launch) {D : va_G} {cI cJ cZ cD : ClassId} {ad : Nat → Nat} {w : Nat → va_E} {sz : Nat} (en kp bas : Int32) (msg : Int64) (ivf : Nat → Int32) (hiv : ∀ d, 1 ≤ d → d < 16 → ivf d = nI (iv d)) (k b : Nat) (hk1 : 1 ≤ k) (hk2 : k ≤ 16) (hbb : b < 2 ^ 31) (hR : w 72 = .inr (1, [.ref (ad 73), .ref (ad 74), .ref (ad 75), .int en, .int kp, .long msg, .int bas])) (hIv : w 75 = .inl (cI, 16, .inl ivf)) : MW l yX2_weight (.code yX2_weight cX2_weight 6 (some .int)) ({ frames := 2, cells := 0, slots := 0, locals := 62 }) [.ref (ad 72), .int (nI k), .int (nI b)] D (tyL cI cJ cZ cD) ad 89 w sz (some (.int (nI (wgt b k 16)))) (fun u => u = w) := by
  refine MW.of (by decide) (Nat.le_of_ble_eq_true rfl) ?_
  intro p e s m below meth c ls hC hr hlocks hl hw
  obtain ⟨hx, hb, hml, hown, hts⟩ := id hC
  have hA : ∀ q, s.heap.size ≤ q → xA ad 89 s.heap.size q := fun q h => Or.inr h
  have hl : lv_has ls 6 [(0, .ref (ad 72)), (1, .int (nI k)), (2, .int (nI b))] := hl
  refine lv_iconst (v := nI 1) hx hb dX2_weight_0 (by decide) ?_
  refine lv_istore_n (lv' := [(3, .int (nI 1)), (0, .ref (ad 72)), (1, .int (nI k)), (2, .int (nI b))]) hx hb dX2_weight_1 rfl hl (by decide) rfl (fun ls hl => ?_)
  refine lv_iconst (v := nI 1) hx hb dX2_weight_2 (by decide) ?_
  refine lv_istore (lv' := [(4, .int (nI 1)), (3, .int (nI 1)), (0, .ref (ad 72)), (1, .int (nI k)), (2, .int (nI b))]) hx hb dX2_weight_3 hl (by decide) rfl (fun ls hl => ?_)
  refine k_weight_loop hC hA en kp bas msg ivf hiv k b hk1 hk2 hbb hR hIv (fun ls H locs hw hl => ?_) 16 0 ls s.heap [] (by decide) hw (lv_sub hl [2, 3, 4, 1, 0] rfl)
  refine lv_iload_n hx hb dX2_weight_61 rfl (lv_at hl 0 rfl) ?_
  exact x_wretI hx hb hr hlocks hw rfl dX2_weight_62
set_option maxHeartbeats 4000000 in
set_option maxRecDepth 100000 in
theorem k_combine_loop {l : Launch} {p : Program} {e : Env} {s : State} {m : MethodId} {args : Array Value} {below : List Frame} {meth : Method} {c : Code} {Q : State → Prop} {D : va_G} {cI cJ cZ cD : ClassId} {ad : Nat → Nat} {A : Nat → Prop} {H0 : Heap} {w : Nat → va_E} (hC : CallFix p m c cX2_combine 4 s args wsL_law RX2) (hA : ∀ q, H0.size ≤ q → A q) (en kp bas : Int32) (msg : Int64) (ivf : Nat → Int32) (hiv : ∀ d, 1 ≤ d → d < 16 → ivf d = nI (iv d)) (ptf : Nat → Int32) (pt : Nat → Nat) (b : Nat) (hbb : b < 2 ^ 31) (hpt : ∀ k, 1 ≤ k → k ≤ 16 → tb b k = 1 → ptf k = nI (pt k) ∧ pt k < 2147483579) (hR : w 72 = .inr (1, [.ref (ad 73), .ref (ad 74), .ref (ad 75), .int en, .int kp, .long msg, .int bas])) (hPt : w 74 = .inl (cI, 17, .inl ptf)) (hIv : w 75 = .inl (cI, 16, .inl ivf))
    (kx : ∀ (ls : Array Slot) (H : Heap) (locs : List Loc), WW D vwCl (tyL cI cJ cZ cD) A H0 ad 89 w s H locs → lv_has ls 4 [(2, .int (nI (cmb b pt 16)))] → W p l e ({ frames := 3, cells := 0, slots := 0, locals := 95 }) s m args below meth c H locs 0 0 Q (F0 m 44 ls [])) :
    ∀ (j q : Nat) (ls : Array Slot) (H : Heap) (locs : List Loc), q + j = 16 → WW D vwCl (tyL cI cJ cZ cD) A H0 ad 89 w s H locs → lv_has ls 4 [(0, .ref (ad 72)), (1, .int (nI b)), (2, .int (nI (cmb b pt q))), (3, .int (nI (q + 1)))] → W p l e ({ frames := 3, cells := 0, slots := 0, locals := 95 }) s m args below meth c H locs 0 0 Q (F0 m 4 ls []) := by
  obtain ⟨hx, hb, hml, hown, hts⟩ := id hC
  intro j
  induction j with
  | zero =>
    intro q ls H locs hq hw hl
    obtain rfl : q = 16 := by omega
    have hl : lv_has ls 4 [(0, .ref (ad 72)), (1, .int (nI b)), (2, .int (nI (cmb b pt 16))), (3, .int (nI 17))] := hl
    refine lv_iload_n hx hb dX2_combine_4 rfl (lv_at hl 3 rfl) ?_
    refine lv_bipush (v := nI 16) hx hb dX2_combine_5 (by decide) ?_
    refine lv_icmp_gt (tgt := 44) hx hb dX2_combine_7 (by decide) (fun hc => ?_) (fun hc => absurd (by decide) hc)
    exact kx ls H locs hw (lv_sub hl [2] rfl)
  | succ j ih =>
    intro q ls H locs hq hw hl
    have hcl := cmb_lt b pt q
    have hwl := wgt_lt b (q + 1) 16
    refine lv_iload_n hx hb dX2_combine_4 rfl (lv_at hl 3 rfl) ?_
    refine lv_bipush (v := nI 16) hx hb dX2_combine_5 (by decide) ?_
    refine lv_icmp_gt (tgt := 44) hx hb dX2_combine_7 (by decide) (fun hc => absurd hc (nI_nlt (by omega) (by omega))) (fun hc => ?_)
    refine lv_iload_n hx hb dX2_combine_10 rfl (lv_at hl 1 rfl) ?_
    refine lv_iload_n hx hb dX2_combine_11 rfl (lv_at hl 3 rfl) ?_
    have htb := tb_lt b (q + 1)
    refine x_callS (As := [.int (nI b), .int (nI (q + 1))]) (rest := []) hC sf_X2_61 (k_hasBit l b (q + 1) hbb (by omega)) ⟨rfl, rfl, Nat.le_of_ble_eq_true rfl, Nat.le_of_ble_eq_true rfl⟩ hl.1 (Nat.le_of_ble_eq_true rfl) dX2_combine_12 ⟨Nat.zero_le _, Nat.zero_le _⟩ rfl ?_
    refine lv_if_eq (tgt := 38) hx hb dX2_combine_15 (by decide) (fun hc3 => ?_) (fun hc3 => ?_)
    · rw [nI_z (by omega)] at hc3
      refine lv_iinc (v := nI (q + 1 + 1)) (lv' := [(3, .int (nI (q + 1 + 1))), (0, .ref (ad 72)), (1, .int (nI b)), (2, .int (nI (cmb b pt q)))]) hx hb dX2_combine_38 hl (k := 3) rfl (nI_1 (q + 1)) (by decide) rfl (fun ls hl => ?_)
      refine lv_goto (tgt := 4) hx hb dX2_combine_41 (by decide) ?_
      exact ih (q + 1) ls H locs (by omega) hw (lv_sub hl [1, 2, 3, 0] (by rw [show cmb b pt (q + 1) = cmb b pt q from if_neg (by omega)]; rfl))
    · rw [nI_z (by omega)] at hc3
      obtain ⟨hp1, hp2⟩ := hpt (q + 1) (by omega) (by omega) (by omega)
      refine lv_iload_n hx hb dX2_combine_18 rfl (lv_at hl 2 rfl) ?_
      refine lv_aload_n hx hb dX2_combine_19 rfl (lv_at hl 0 rfl) ?_
      refine gf_X2_15 hx hb hts hown hw (by decide) hR rfl dX2_combine_20 ?_
      refine lv_iload_n hx hb dX2_combine_23 rfl (lv_at hl 3 rfl) ?_
      refine x_iald hx hb hw (by decide) 0 hPt rfl (j := q + 1) (by omega) (by decide) hp1 dX2_combine_24 ?_
      refine lv_aload_n hx hb dX2_combine_25 rfl (lv_at hl 0 rfl) ?_
      refine lv_iload_n hx hb dX2_combine_26 rfl (lv_at hl 3 rfl) ?_
      refine lv_iload_n hx hb dX2_combine_27 rfl (lv_at hl 1 rfl) ?_
      refine x_callW1 (As := [.int (nI (q + 1)), .int (nI b)]) (rest := [.int (nI (pt (q + 1))), .int (nI (cmb b pt q))]) hC vf_X2_69 hw hA (by decide) hR rfl rfl (k_weight l _ _ _ _ ivf hiv (q + 1) b (by omega) (by omega) hbb hR hIv) ⟨rfl, rfl, Nat.le_of_ble_eq_true rfl, Nat.le_of_ble_eq_true rfl⟩ hl.1 (Nat.le_of_ble_eq_true rfl) dX2_combine_28 ⟨Nat.zero_le _, Nat.zero_le _⟩ rfl (fun w_1 H locs hu hw => ?_)
      rw [hu] at hw
      refine x_callS (As := [.int (nI (pt (q + 1))), .int (nI (wgt b (q + 1) 16))]) (rest := [.int (nI (cmb b pt q))]) hC sf_X2_72 (k_power l (pt (q + 1)) (wgt b (q + 1) 16) hp2 (by omega)) ⟨rfl, rfl, Nat.le_of_ble_eq_true rfl, Nat.le_of_ble_eq_true rfl⟩ hl.1 (Nat.le_of_ble_eq_true rfl) dX2_combine_31 ⟨Nat.zero_le _, Nat.zero_le _⟩ rfl ?_
      have hpw := pw_lt (pt (q + 1)) (wgt b (q + 1) 16) (show 0 < 2147483579 by decide)
      refine x_callS (As := [.int (nI (cmb b pt q)), .int (nI (pt (q + 1) ^ wgt b (q + 1) 16 % 2147483579))]) (rest := []) hC sf_X2_54 (k_times l (cmb b pt q) (pt (q + 1) ^ wgt b (q + 1) 16 % 2147483579) (by omega) (by omega)) ⟨rfl, rfl, Nat.le_of_ble_eq_true rfl, Nat.le_of_ble_eq_true rfl⟩ hl.1 (Nat.le_of_ble_eq_true rfl) dX2_combine_34 ⟨Nat.zero_le _, Nat.zero_le _⟩ rfl ?_
      refine lv_istore_n (lv' := [(2, .int (nI (cmb b pt q * (pt (q + 1) ^ wgt b (q + 1) 16 % 2147483579) % 2147483579))), (0, .ref (ad 72)), (1, .int (nI b)), (3, .int (nI (q + 1)))]) hx hb dX2_combine_37 rfl hl (by decide) rfl (fun ls hl => ?_)
      refine lv_iinc (v := nI (q + 1 + 1)) (lv' := [(3, .int (nI (q + 1 + 1))), (2, .int (nI (cmb b pt q * (pt (q + 1) ^ wgt b (q + 1) 16 % 2147483579) % 2147483579))), (0, .ref (ad 72)), (1, .int (nI b))]) hx hb dX2_combine_38 hl (k := 3) rfl (nI_1 (q + 1)) (by decide) rfl (fun ls hl => ?_)
      refine lv_goto (tgt := 4) hx hb dX2_combine_41 (by decide) ?_
      exact ih (q + 1) ls H locs (by omega) hw (lv_sub hl [2, 3, 1, 0] (by rw [show cmb b pt (q + 1) = _ from if_pos (by omega)]; rfl))
set_option maxHeartbeats 4000000 in
set_option maxRecDepth 100000 in
theorem k_combine (l : Launch) {D : va_G} {cI cJ cZ cD : ClassId} {ad : Nat → Nat} {w : Nat → va_E} {sz : Nat} (en kp bas : Int32) (msg : Int64) (ivf : Nat → Int32) (hiv : ∀ d, 1 ≤ d → d < 16 → ivf d = nI (iv d)) (ptf : Nat → Int32) (pt : Nat → Nat) (b : Nat) (hbb : b < 2 ^ 31) (hpt : ∀ k, 1 ≤ k → k ≤ 16 → tb b k = 1 → ptf k = nI (pt k) ∧ pt k < 2147483579) (hR : w 72 = .inr (1, [.ref (ad 73), .ref (ad 74), .ref (ad 75), .int en, .int kp, .long msg, .int bas])) (hPt : w 74 = .inl (cI, 17, .inl ptf)) (hIv : w 75 = .inl (cI, 16, .inl ivf)) : MW l yX2_combine (.code yX2_combine cX2_combine 4 (some .int)) ({ frames := 3, cells := 0, slots := 0, locals := 95 }) [.ref (ad 72), .int (nI b)] D (tyL cI cJ cZ cD) ad 89 w sz (some (.int (nI (cmb b pt 16)))) (fun u => u = w) := by
  refine MW.of (by decide) (Nat.le_of_ble_eq_true rfl) ?_
  intro p e s m below meth c ls hC hr hlocks hl hw
  obtain ⟨hx, hb, hml, hown, hts⟩ := id hC
  have hA : ∀ q, s.heap.size ≤ q → xA ad 89 s.heap.size q := fun q h => Or.inr h
  have hl : lv_has ls 4 [(0, .ref (ad 72)), (1, .int (nI b))] := hl
  refine lv_iconst (v := nI 1) hx hb dX2_combine_0 (by decide) ?_
  refine lv_istore_n (lv' := [(2, .int (nI 1)), (0, .ref (ad 72)), (1, .int (nI b))]) hx hb dX2_combine_1 rfl hl (by decide) rfl (fun ls hl => ?_)
  refine lv_iconst (v := nI 1) hx hb dX2_combine_2 (by decide) ?_
  refine lv_istore_n (lv' := [(3, .int (nI 1)), (2, .int (nI 1)), (0, .ref (ad 72)), (1, .int (nI b))]) hx hb dX2_combine_3 rfl hl (by decide) rfl (fun ls hl => ?_)
  refine k_combine_loop hC hA en kp bas msg ivf hiv ptf pt b hbb hpt hR hPt hIv (fun ls H locs hw hl => ?_) 16 0 ls s.heap [] (by decide) hw (lv_sub hl [2, 3, 1, 0] rfl)
  refine lv_iload_n hx hb dX2_combine_44 rfl (lv_at hl 0 rfl) ?_
  exact x_wretI hx hb hr hlocks hw rfl dX2_combine_45
