/-! the ring: keys; all dealers in a row -/
theorem up0 {w0 w : Nat → va_E} {e1 e2 : va_E} {k : Nat} (h : w = va_up w0 k e1) : va_up w k e2 = va_up w0 k e2 := by rw [h, bx_uu]
/-- the dealers 1 .. q have become F, all else is as it was -/
def DU (w0 w : Nat → va_E) (q : Nat) (F : Nat → va_E) : Prop := (∀ i, 1 ≤ i → i ≤ q → w (2 + 4 * i) = F i) ∧ ∀ z, (∀ i, 1 ≤ i → i ≤ q → z ≠ 2 + 4 * i) → w z = w0 z
theorem DU.zero {w0 : Nat → va_E} {F : Nat → va_E} : DU w0 w0 0 F := ⟨fun i h1 h2 => absurd h1 (by omega), fun _ _ => rfl⟩
theorem DU.step {w0 w : Nat → va_E} {q : Nat} {F : Nat → va_E} (h : DU w0 w q F) : DU w0 (va_up w (2 + 4 * (q + 1)) (F (q + 1))) (q + 1) F := by
  refine ⟨fun i h1 h2 => ?_, fun z hz => ?_⟩
  · by_cases hi : i = q + 1
    · subst hi; exact va_up_self _ _ _
    · rw [va_up_ne _ _ (by omega)]; exact h.1 i h1 (by omega)
  · rw [va_up_ne _ _ (hz (q + 1) (by omega) (by omega))]
    exact h.2 z (fun i h1 h2 => hz i h1 (by omega))
theorem DU.same {w0 w : Nat → va_E} {q : Nat} {F : Nat → va_E} (h : DU w0 w q F) (he : w0 (2 + 4 * (q + 1)) = F (q + 1)) : DU w0 w (q + 1) F := by
  refine ⟨fun i h1 h2 => ?_, fun z hz => h.2 z (fun i h1 h2 => hz i h1 (by omega))⟩
  by_cases hi : i = q + 1
  · subst hi; rw [h.2 _ (fun i h1 h2 => by omega)]; exact he
  · exact h.1 i h1 (by omega)

set_option maxHeartbeats 4000000 in
set_option maxRecDepth 100000 in
theorem k_mk1 {l : Launch} {p : Program} {e : Env} {s : State} {m : MethodId} {args : Array Value} {below : List Frame} {meth : Method} {c : Code} {Q : State → Prop} {D : va_G} {cI cJ cZ cD : ClassId} {ad : Nat → Nat} {A : Nat → Prop} {H0 : Heap} {w0 : Nat → va_E} (hC : CallFix p m c cX4_makeKeys 2 s args wsL_law RX4) (hA : ∀ q, H0.size ≤ q → A q) (n t cl qu : Nat) (hn : n ≤ 16) (df : Nat → Option Nat) (hdf : ∀ i, i < 17 → df i = some (ad (2 + 4 * i))) (dl ou cp : Nat → Nat) (co sh : Nat → Nat → Nat) (hRd : RCd ad cI w0 n t dl ou cp co sh) (hDa : w0 1 = .inl (cD, 17, .inr (.inr (.inr (.inr df))))) (hqu : qu < 2 ^ 17) (ht1 : 1 ≤ t) (hqd : ∀ i, 1 ≤ i → i ≤ n → tb qu i = 1 → dl i = 1) (hsh : ∀ i k, 1 ≤ i → i ≤ n → 1 ≤ k → k ≤ n → dl i = 1 → sh i k < 1073741789)
    (kx : ∀ (w : Nat → va_E) (ls : Array Slot) (H : Heap) (locs : List Loc), w = va_up w0 0 (.inr (3, [.ref (ad 1), .ref (ad 70), .ref (ad 71), .ref (ad 72), .ref (ad 76), .int (nI n), .int (nI t), .int (nI cl), .int (nI qu), .int (nI (wpk qu co n))])) → WW D vwCl (tyL cI cJ cZ cD) A H0 ad 89 w s H locs → lv_has ls 2 [(0, .ref (ad 0))] → W p l e ({ frames := 3, cells := 0, slots := 0, locals := 94 }) s m args below meth c H locs 0 0 Q (F0 m 54 ls [])) :
    ∀ (j q : Nat) (w : Nat → va_E) (ls : Array Slot) (H : Heap) (locs : List Loc), q + j = n → w = va_up w0 0 (.inr (3, [.ref (ad 1), .ref (ad 70), .ref (ad 71), .ref (ad 72), .ref (ad 76), .int (nI n), .int (nI t), .int (nI cl), .int (nI qu), .int (nI (wpk qu co q))])) → WW D vwCl (tyL cI cJ cZ cD) A H0 ad 89 w s H locs → lv_has ls 2 [(0, .ref (ad 0)), (1, .int (nI (q + 1)))] → W p l e ({ frames := 3, cells := 0, slots := 0, locals := 94 }) s m args below meth c H locs 0 0 Q (F0 m 7 ls []) := by
  obtain ⟨hx, hb, hml, hown, hts⟩ := id hC
  intro j
  induction j with
  | zero =>
    intro q w ls H locs hq ew hw hl
    obtain rfl : q = n := by omega
    have h0 : w 0 = .inr (3, [.ref (ad 1), .ref (ad 70), .ref (ad 71), .ref (ad 72), .ref (ad 76), .int (nI q), .int (nI t), .int (nI cl), .int (nI qu), .int (nI (wpk qu co q))]) := by rw [ew]; exact va_up_self _ _ _
    refine lv_iload_n hx hb dX4_makeKeys_7 rfl (lv_at hl 1 rfl) ?_
    refine lv_aload_n hx hb dX4_makeKeys_8 rfl (lv_at hl 0 rfl) ?_
    refine gf_X4_44 hx hb hts hown hw (by decide) h0 rfl dX4_makeKeys_9 ?_
    refine lv_icmp_gt (tgt := 54) hx hb dX4_makeKeys_12 (by decide) (fun hc => ?_) (fun hc => absurd (nI_lt (by omega) (by omega)) hc)
    exact kx w ls H locs ew hw (lv_sub hl [0] rfl)
  | succ j ih =>
    intro q w ls H locs hq ew hw hl
    have h0 : w 0 = .inr (3, [.ref (ad 1), .ref (ad 70), .ref (ad 71), .ref (ad 72), .ref (ad 76), .int (nI n), .int (nI t), .int (nI cl), .int (nI qu), .int (nI (wpk qu co q))]) := by rw [ew]; exact va_up_self _ _ _
    have hDa : w 1 = .inl (cD, 17, .inr (.inr (.inr (.inr df)))) := by rw [ew]; exact (va_up_ne _ _ (by decide)).trans hDa
    have hRd := hRd.of (u := w) (fun z h1 h2 => by rw [ew]; exact va_up_ne _ _ (by omega))
    obtain ⟨cm, rt, gv, hD, hCm, hRt, hGv, hval⟩ := hRd (q + 1) (by omega)
    have hwl := wpk_lt qu co q
    have htb := tb_lt qu (q + 1)
    refine lv_iload_n hx hb dX4_makeKeys_7 rfl (lv_at hl 1 rfl) ?_
    refine lv_aload_n hx hb dX4_makeKeys_8 rfl (lv_at hl 0 rfl) ?_
    refine gf_X4_44 hx hb hts hown hw (by decide) h0 rfl dX4_makeKeys_9 ?_
    refine lv_icmp_gt (tgt := 54) hx hb dX4_makeKeys_12 (by decide) (fun hc => absurd hc (nI_nlt (by omega) (by omega))) (fun hc => ?_)
    refine lv_aload_n hx hb dX4_makeKeys_15 rfl (lv_at hl 0 rfl) ?_
    refine gf_X4_55 hx hb hts hown hw (by decide) h0 rfl dX4_makeKeys_16 ?_
    refine lv_iload_n hx hb dX4_makeKeys_19 rfl (lv_at hl 1 rfl) ?_
    refine x_callS (As := [.int (nI qu), .int (nI (q + 1))]) (rest := []) hC sf_X4_251 (k_hasBit l qu (q + 1) (by omega) (by omega)) ⟨rfl, rfl, Nat.le_of_ble_eq_true rfl, Nat.le_of_ble_eq_true rfl⟩ hl.1 (Nat.le_of_ble_eq_true rfl) dX4_makeKeys_20 ⟨Nat.zero_le _, Nat.zero_le _⟩ rfl ?_
    refine lv_if_eq (tgt := 48) hx hb dX4_makeKeys_23 (by decide) (fun hc2 => ?_) (fun hc2 => ?_)
    · rw [nI_z (by omega)] at hc2
      refine lv_iinc (v := nI (q + 1 + 1)) (lv' := [(1, .int (nI (q + 1 + 1))), (0, .ref (ad 0))]) hx hb dX4_makeKeys_48 hl (k := 1) rfl (nI_1 (q + 1)) (by decide) rfl (fun ls hl => ?_)
      refine lv_goto (tgt := 7) hx hb dX4_makeKeys_51 (by decide) ?_
      exact ih (q + 1) w ls H locs (by omega) (by rw [ew, show wpk qu co (q + 1) = wpk qu co q from if_neg (by omega)]) hw (lv_sub hl [1, 0] rfl)
    · rw [nI_z (by omega)] at hc2
      have hdq := hqd (q + 1) (by omega) (by omega) (by omega)
      obtain ⟨hcm9, hv9⟩ := hval (by omega) (by omega) hdq
      have hp9 := pw_lt 4 (co (q + 1) 0) (show 0 < 2147483579 by decide)
      refine lv_aload_n hx hb dX4_makeKeys_26 rfl (lv_at hl 0 rfl) ?_
      refine lv_aload_n hx hb dX4_makeKeys_27 rfl (lv_at hl 0 rfl) ?_
      refine gf_X4_144 hx hb hts hown hw (by decide) h0 rfl dX4_makeKeys_28 ?_
      refine lv_aload_n hx hb dX4_makeKeys_31 rfl (lv_at hl 0 rfl) ?_
      refine gf_X4_11 hx hb hts hown hw (by decide) h0 rfl dX4_makeKeys_32 ?_
      refine lv_iload_n hx hb dX4_makeKeys_35 rfl (lv_at hl 1 rfl) ?_
      refine x_aald hx hb hw (by decide) 3 hDa rfl (j := q + 1) (by omega) (by decide) (hdf _ (by omega)) dX4_makeKeys_36 ?_
      refine gf_X4_93 hx hb hts hown hw (by omega) hD rfl dX4_makeKeys_37 ?_
      refine lv_iconst (v := nI 0) hx hb dX4_makeKeys_40 (by decide) ?_
      refine x_iald hx hb hw (by omega) 0 hCm rfl (j := 0) (by decide) (by decide) (hcm9 0 (by omega)) dX4_makeKeys_41 ?_
      refine x_callS (As := [.int (nI (wpk qu co q)), .int (nI (4 ^ co (q + 1) 0 % 2147483579))]) (rest := [.ref (ad 0)]) hC sf_X4_254 (k_times l (wpk qu co q) (4 ^ co (q + 1) 0 % 2147483579) (by omega) (by omega)) ⟨rfl, rfl, Nat.le_of_ble_eq_true rfl, Nat.le_of_ble_eq_true rfl⟩ hl.1 (Nat.le_of_ble_eq_true rfl) dX4_makeKeys_42 ⟨Nat.zero_le _, Nat.zero_le _⟩ rfl ?_
      refine pf_X4_144 (v := .int (nI (wpk qu co q * (4 ^ co (q + 1) 0 % 2147483579) % 2147483579))) hx hb hts hown hw (by decide) h0 rfl rfl (Nat.le_of_ble_eq_true rfl) dX4_makeKeys_45 (fun w_1 H locs ew_2 hw => ?_)
      have hc_3 : w_1 0 = .inr (3, [.ref (ad 1), .ref (ad 70), .ref (ad 71), .ref (ad 72), .ref (ad 76), .int (nI n), .int (nI t), .int (nI cl), .int (nI qu), .int (nI (wpk qu co q * (4 ^ co (q + 1) 0 % 2147483579) % 2147483579))]) := by rw [ew_2]; exact va_up_self _ _ _
      have hc_4 : w_1 1 = .inl (cD, 17, .inr (.inr (.inr (.inr df)))) := by rw [ew_2]; exact (va_up_ne _ _ (by omega)).trans hDa
      have hc_5 : w_1 (2 + 4 * (q + 1)) = .inr (0, [.ref (ad (3 + 4 * (q + 1))), .ref (ad (4 + 4 * (q + 1))), .ref (ad (5 + 4 * (q + 1))), .int (nI (cp (q + 1))), .int (nI (dl (q + 1))), .int (nI (ou (q + 1)))]) := by rw [ew_2]; exact (va_up_ne _ _ (by omega)).trans hD
      have hc_6 : w_1 (3 + 4 * (q + 1)) = .inl (cI, 16, .inl cm) := by rw [ew_2]; exact (va_up_ne _ _ (by omega)).trans hCm
      have hc_7 : w_1 (4 + 4 * (q + 1)) = .inl (cI, 17, .inl rt) := by rw [ew_2]; exact (va_up_ne _ _ (by omega)).trans hRt
      have hc_8 : w_1 (5 + 4 * (q + 1)) = .inl (cI, 17, .inl gv) := by rw [ew_2]; exact (va_up_ne _ _ (by omega)).trans hGv
      refine lv_iinc (v := nI (q + 1 + 1)) (lv' := [(1, .int (nI (q + 1 + 1))), (0, .ref (ad 0))]) hx hb dX4_makeKeys_48 hl (k := 1) rfl (nI_1 (q + 1)) (by decide) rfl (fun ls hl => ?_)
      refine lv_goto (tgt := 7) hx hb dX4_makeKeys_51 (by decide) ?_
      exact ih (q + 1) _ ls H locs (by omega) (by rw [ew_2, ew, bx_uu, show wpk qu co (q + 1) = _ from if_pos (by omega)] <;> rfl) hw (lv_sub hl [1, 0] rfl)
set_option maxHeartbeats 4000000 in
set_option maxRecDepth 100000 in
theorem k_mk2 {l : Launch} {p : Program} {e : Env} {s : State} {m : MethodId} {args : Array Value} {below : List Frame} {meth : Method} {c : Code} {Q : State → Prop} {D : va_G} {cI cJ cZ cD : ClassId} {ad : Nat → Nat} {A : Nat → Prop} {H0 : Heap} {w0 : Nat → va_E} (hC : CallFix p m c cX4_makeKeys 2 s args wsL_law RX4) (hA : ∀ q, H0.size ≤ q → A q) (n t cl qu : Nat) (wh : Int32) (hn : n ≤ 16) (df : Nat → Option Nat) (hdf : ∀ i, i < 17 → df i = some (ad (2 + 4 * i))) (dl ou cp : Nat → Nat) (co sh : Nat → Nat → Nat) (hRd : RCd ad cI w0 n t dl ou cp co sh) (hDa : w0 1 = .inl (cD, 17, .inr (.inr (.inr (.inr df))))) (hqu : qu < 2 ^ 17) (ht1 : 1 ≤ t) (hqd : ∀ i, 1 ≤ i → i ≤ n → tb qu i = 1 → dl i = 1) (hsh : ∀ i k, 1 ≤ i → i ≤ n → 1 ≤ k → k ≤ n → dl i = 1 → sh i k < 1073741789) (h0 : w0 0 = .inr (3, [.ref (ad 1), .ref (ad 70), .ref (ad 71), .ref (ad 72), .ref (ad 76), .int (nI n), .int (nI t), .int (nI cl), .int (nI qu), .int wh]))
    (kx : ∀ (kf pf : Nat → Int32) (w : Nat → va_E) (ls : Array Slot) (H : Heap) (locs : List Loc), (∀ k, 1 ≤ k → k ≤ n → kf k = nI (ssm qu sh k n % 1073741789) ∧ pf k = nI (4 ^ (ssm qu sh k n % 1073741789) % 2147483579)) → w = va_up (va_up w0 70 (.inl (cI, 17, .inl kf))) 71 (.inl (cI, 17, .inl pf)) → WW D vwCl (tyL cI cJ cZ cD) A H0 ad 89 w s H locs → W p l e ({ frames := 3, cells := 0, slots := 0, locals := 94 }) s m args below meth c H locs 0 0 Q (F0 m 97 ls [])) :
    ∀ (j q : Nat) (kf pf : Nat → Int32) (w : Nat → va_E) (ls : Array Slot) (H : Heap) (locs : List Loc), q + j = n → (∀ k, 1 ≤ k → k ≤ q → kf k = nI (ssm qu sh k n % 1073741789) ∧ pf k = nI (4 ^ (ssm qu sh k n % 1073741789) % 2147483579)) → w = va_up (va_up w0 70 (.inl (cI, 17, .inl kf))) 71 (.inl (cI, 17, .inl pf)) → WW D vwCl (tyL cI cJ cZ cD) A H0 ad 89 w s H locs → lv_has ls 2 [(0, .ref (ad 0)), (1, .int (nI (q + 1)))] → W p l e ({ frames := 3, cells := 0, slots := 0, locals := 94 }) s m args below meth c H locs 0 0 Q (F0 m 56 ls []) := by
  obtain ⟨hx, hb, hml, hown, hts⟩ := id hC
  intro j
  induction j with
  | zero =>
    intro q kf pf w ls H locs hq hk0 ew hw hl
    obtain rfl : q = n := by omega
    have h0 : w 0 = .inr (3, [.ref (ad 1), .ref (ad 70), .ref (ad 71), .ref (ad 72), .ref (ad 76), .int (nI q), .int (nI t), .int (nI cl), .int (nI qu), .int wh]) := by rw [ew]; exact (va_up_ne _ _ (by decide)).trans ((va_up_ne _ _ (by decide)).trans h0)
    refine lv_iload_n hx hb dX4_makeKeys_56 rfl (lv_at hl 1 rfl) ?_
    refine lv_aload_n hx hb dX4_makeKeys_57 rfl (lv_at hl 0 rfl) ?_
    refine gf_X4_44 hx hb hts hown hw (by decide) h0 rfl dX4_makeKeys_58 ?_
    refine lv_icmp_gt (tgt := 97) hx hb dX4_makeKeys_61 (by decide) (fun hc => ?_) (fun hc => absurd (nI_lt (by omega) (by omega)) hc)
    exact kx kf pf w ls H locs hk0 ew hw
  | succ j ih =>
    intro q kf pf w ls H locs hq hk0 ew hw hl
    have h0 : w 0 = .inr (3, [.ref (ad 1), .ref (ad 70), .ref (ad 71), .ref (ad 72), .ref (ad 76), .int (nI n), .int (nI t), .int (nI cl), .int (nI qu), .int wh]) := by rw [ew]; exact (va_up_ne _ _ (by decide)).trans ((va_up_ne _ _ (by decide)).trans h0)
    have hDa : w 1 = .inl (cD, 17, .inr (.inr (.inr (.inr df)))) := by rw [ew]; exact (va_up_ne _ _ (by decide)).trans ((va_up_ne _ _ (by decide)).trans hDa)
    have hKf : w 70 = .inl (cI, 17, .inl kf) := by rw [ew]; exact (va_up_ne _ _ (by decide)).trans (va_up_self _ _ _)
    have hPf : w 71 = .inl (cI, 17, .inl pf) := by rw [ew]; exact va_up_self _ _ _
    have hRd := hRd.of (u := w) (fun z h1 h2 => by rw [ew]; exact (va_up_ne _ _ (by omega)).trans (va_up_ne _ _ (by omega)))
    refine lv_iload_n hx hb dX4_makeKeys_56 rfl (lv_at hl 1 rfl) ?_
    refine lv_aload_n hx hb dX4_makeKeys_57 rfl (lv_at hl 0 rfl) ?_
    refine gf_X4_44 hx hb hts hown hw (by decide) h0 rfl dX4_makeKeys_58 ?_
    refine lv_icmp_gt (tgt := 97) hx hb dX4_makeKeys_61 (by decide) (fun hc => absurd hc (nI_nlt (by omega) (by omega))) (fun hc => ?_)
    have hkl : ssm qu sh (q + 1) n % 1073741789 < 1073741789 := Nat.mod_lt _ (by decide)
    refine lv_aload_n hx hb dX4_makeKeys_64 rfl (lv_at hl 0 rfl) ?_
    refine gf_X4_16 hx hb hts hown hw (by decide) h0 rfl dX4_makeKeys_65 ?_
    refine lv_iload_n hx hb dX4_makeKeys_68 rfl (lv_at hl 1 rfl) ?_
    refine lv_aload_n hx hb dX4_makeKeys_69 rfl (lv_at hl 0 rfl) ?_
    refine lv_iload_n hx hb dX4_makeKeys_70 rfl (lv_at hl 1 rfl) ?_
    refine x_callW1 (As := [.int (nI (q + 1))]) (rest := [.int (nI (q + 1)), .ref (ad 70)]) hC vf_X4_257 hw hA (by decide) h0 rfl rfl (k_sumOfShares l n t cl qu wh hn df hdf dl ou cp co sh hRd hqu hqd (q + 1) (by omega) (by omega) (fun i g1 g2 g3 => hsh i (q + 1) g1 g2 (by omega) (by omega) g3) h0 hDa) ⟨rfl, rfl, Nat.le_of_ble_eq_true rfl, Nat.le_of_ble_eq_true rfl⟩ hl.1 (Nat.le_of_ble_eq_true rfl) dX4_makeKeys_71 ⟨Nat.zero_le _, Nat.zero_le _⟩ rfl (fun w_1 H locs hu hw => ?_)
    rw [hu] at hw
    refine x_iast hx hb hw (by decide) 0 hKf rfl (j := q + 1) (by omega) (by decide) dX4_makeKeys_74 (fun w_2 H locs ew_3 hw => ?_)
    have hc_4 : w_2 0 = .inr (3, [.ref (ad 1), .ref (ad 70), .ref (ad 71), .ref (ad 72), .ref (ad 76), .int (nI n), .int (nI t), .int (nI cl), .int (nI qu), .int wh]) := by rw [ew_3]; exact (va_up_ne _ _ (by omega)).trans h0
    have hc_5 : w_2 1 = .inl (cD, 17, .inr (.inr (.inr (.inr df)))) := by rw [ew_3]; exact (va_up_ne _ _ (by omega)).trans hDa
    have hc_6 : w_2 70 = .inl (cI, 17, .inl (upd kf (q + 1) (nI (ssm qu sh (q + 1) n % 1073741789)))) := by rw [ew_3]; exact va_up_self _ _ _
    have hc_7 : w_2 71 = .inl (cI, 17, .inl pf) := by rw [ew_3]; exact (va_up_ne _ _ (by omega)).trans hPf
    refine lv_aload_n hx hb dX4_makeKeys_75 rfl (lv_at hl 0 rfl) ?_
    refine gf_X4_20 hx hb hts hown hw (by decide) hc_4 rfl dX4_makeKeys_76 ?_
    refine lv_iload_n hx hb dX4_makeKeys_79 rfl (lv_at hl 1 rfl) ?_
    refine lv_iconst (v := nI 4) hx hb dX4_makeKeys_80 (by decide) ?_
    refine lv_aload_n hx hb dX4_makeKeys_81 rfl (lv_at hl 0 rfl) ?_
    refine gf_X4_16 hx hb hts hown hw (by decide) hc_4 rfl dX4_makeKeys_82 ?_
    refine lv_iload_n hx hb dX4_makeKeys_85 rfl (lv_at hl 1 rfl) ?_
    refine x_iald hx hb hw (by decide) 0 hc_6 rfl (j := q + 1) (by omega) (by decide) (upd_s _ _ _) dX4_makeKeys_86 ?_
    refine x_callS (As := [.int (nI 4), .int (nI (ssm qu sh (q + 1) n % 1073741789))]) (rest := [.int (nI (q + 1)), .ref (ad 71)]) hC sf_X4_260 (k_power l 4 (ssm qu sh (q + 1) n % 1073741789) (by decide) (by omega)) ⟨rfl, rfl, Nat.le_of_ble_eq_true rfl, Nat.le_of_ble_eq_true rfl⟩ hl.1 (Nat.le_of_ble_eq_true rfl) dX4_makeKeys_87 ⟨Nat.zero_le _, Nat.zero_le _⟩ rfl ?_
    refine x_iast hx hb hw (by decide) 0 hc_7 rfl (j := q + 1) (by omega) (by decide) dX4_makeKeys_90 (fun w_8 H locs ew_9 hw => ?_)
    have hc_10 : w_8 0 = .inr (3, [.ref (ad 1), .ref (ad 70), .ref (ad 71), .ref (ad 72), .ref (ad 76), .int (nI n), .int (nI t), .int (nI cl), .int (nI qu), .int wh]) := by rw [ew_9]; exact (va_up_ne _ _ (by omega)).trans hc_4
    have hc_11 : w_8 1 = .inl (cD, 17, .inr (.inr (.inr (.inr df)))) := by rw [ew_9]; exact (va_up_ne _ _ (by omega)).trans hc_5
    have hc_12 : w_8 70 = .inl (cI, 17, .inl (upd kf (q + 1) (nI (ssm qu sh (q + 1) n % 1073741789)))) := by rw [ew_9]; exact (va_up_ne _ _ (by omega)).trans hc_6
    have hc_13 : w_8 71 = .inl (cI, 17, .inl (upd pf (q + 1) (nI (4 ^ (ssm qu sh (q + 1) n % 1073741789) % 2147483579)))) := by rw [ew_9]; exact va_up_self _ _ _
    refine lv_iinc (v := nI (q + 1 + 1)) (lv' := [(1, .int (nI (q + 1 + 1))), (0, .ref (ad 0))]) hx hb dX4_makeKeys_91 hl (k := 1) rfl (nI_1 (q + 1)) (by decide) rfl (fun ls hl => ?_)
    refine lv_goto (tgt := 56) hx hb dX4_makeKeys_94 (by decide) ?_
    refine ih (q + 1) _ _ _ ls H locs (by omega) (fun k g1 g2 => ?_) (by rw [ew_9, ew_3, ew, va_up_comm _ (i := 71) (j := 70) (by decide), bx_uu, bx_uu]) hw (lv_sub hl [1, 0] rfl)
    by_cases hk9 : k = q + 1
    · subst hk9; exact ⟨upd_s _ _ _, upd_s _ _ _⟩
    · rw [upd_n _ _ hk9, upd_n _ _ hk9]; exact hk0 k g1 (by omega)
set_option maxHeartbeats 4000000 in
set_option maxRecDepth 100000 in
theorem k_makeKeys (l : Launch) {D : va_G} {cI cJ cZ cD : ClassId} {ad : Nat → Nat} {w : Nat → va_E} {sz : Nat} (n t cl qu : Nat) (wh : Int32) (hn : n ≤ 16) (df : Nat → Option Nat) (hdf : ∀ i, i < 17 → df i = some (ad (2 + 4 * i))) (dl ou cp : Nat → Nat) (co sh : Nat → Nat → Nat) (hRd : RCd ad cI w n t dl ou cp co sh) (hqu : qu < 2 ^ 17) (ht1 : 1 ≤ t) (hqd : ∀ i, 1 ≤ i → i ≤ n → tb qu i = 1 → dl i = 1) (hsh : ∀ i k, 1 ≤ i → i ≤ n → 1 ≤ k → k ≤ n → dl i = 1 → sh i k < 1073741789) (kf pf : Nat → Int32) (h0 : w 0 = .inr (3, [.ref (ad 1), .ref (ad 70), .ref (ad 71), .ref (ad 72), .ref (ad 76), .int (nI n), .int (nI t), .int (nI cl), .int (nI qu), .int wh])) (hDa : w 1 = .inl (cD, 17, .inr (.inr (.inr (.inr df))))) (hKf : w 70 = .inl (cI, 17, .inl kf)) (hPf : w 71 = .inl (cI, 17, .inl pf)) : MW l yX4_makeKeys (.code yX4_makeKeys cX4_makeKeys 2 none) ({ frames := 3, cells := 0, slots := 0, locals := 94 }) [.ref (ad 0)] D (tyL cI cJ cZ cD) ad 89 w sz none (fun u => ∃ kf2 pf2 : Nat → Int32, (∀ k, 1 ≤ k → k ≤ n → kf2 k = nI (ssm qu sh k n % 1073741789) ∧ pf2 k = nI (4 ^ (ssm qu sh k n % 1073741789) % 2147483579)) ∧ u = va_up (va_up (va_up w 0 (.inr (3, [.ref (ad 1), .ref (ad 70), .ref (ad 71), .ref (ad 72), .ref (ad 76), .int (nI n), .int (nI t), .int (nI cl), .int (nI qu), .int (nI (wpk qu co n))]))) 70 (.inl (cI, 17, .inl kf2))) 71 (.inl (cI, 17, .inl pf2))) := by
  refine MW.of (by decide) (Nat.le_of_ble_eq_true rfl) ?_
  intro p e s m below meth c ls hC hr hlocks hl hw
  obtain ⟨hx, hb, hml, hown, hts⟩ := id hC
  have hA : ∀ q, s.heap.size ≤ q → xA ad 89 s.heap.size q := fun q h => Or.inr h
  have hl : lv_has ls 2 [(0, .ref (ad 0))] := hl
  refine lv_aload_n hx hb dX4_makeKeys_0 rfl (lv_at hl 0 rfl) ?_
  refine lv_iconst (v := nI 1) hx hb dX4_makeKeys_1 (by decide) ?_
  refine pf_X4_144 (v := .int (nI 1)) hx hb hts hown hw (by decide) h0 rfl rfl (Nat.le_of_ble_eq_true rfl) dX4_makeKeys_2 (fun w_1 H locs ew_2 hw => ?_)
  have hc_3 : w_1 0 = .inr (3, [.ref (ad 1), .ref (ad 70), .ref (ad 71), .ref (ad 72), .ref (ad 76), .int (nI n), .int (nI t), .int (nI cl), .int (nI qu), .int (nI 1)]) := by rw [ew_2]; exact va_up_self _ _ _
  have hc_4 : w_1 1 = .inl (cD, 17, .inr (.inr (.inr (.inr df)))) := by rw [ew_2]; exact (va_up_ne _ _ (by omega)).trans hDa
  have hc_5 : w_1 70 = .inl (cI, 17, .inl kf) := by rw [ew_2]; exact (va_up_ne _ _ (by omega)).trans hKf
  have hc_6 : w_1 71 = .inl (cI, 17, .inl pf) := by rw [ew_2]; exact (va_up_ne _ _ (by omega)).trans hPf
  refine lv_iconst (v := nI 1) hx hb dX4_makeKeys_5 (by decide) ?_
  refine lv_istore_n (lv' := [(1, .int (nI 1)), (0, .ref (ad 0))]) hx hb dX4_makeKeys_6 rfl hl (by decide) rfl (fun ls hl => ?_)
  refine k_mk1 (w0 := w) hC hA n t cl qu hn df hdf dl ou cp co sh hRd hDa hqu ht1 hqd hsh (fun w1 ls H locs ew hw hl => ?_) n 0 _ ls H locs (by omega) (by rw [ew_2] <;> rfl) hw (lv_sub hl [1, 0] rfl)
  refine lv_iconst (v := nI 1) hx hb dX4_makeKeys_54 (by decide) ?_
  refine lv_istore_n (lv' := [(1, .int (nI 1)), (0, .ref (ad 0))]) hx hb dX4_makeKeys_55 rfl hl (by decide) rfl (fun ls hl => ?_)
  have hK1 : w1 70 = .inl (cI, 17, .inl kf) := by rw [ew]; exact (va_up_ne _ _ (by decide)).trans hKf
  have hP1 : w1 71 = .inl (cI, 17, .inl pf) := by rw [ew]; exact (va_up_ne _ _ (by decide)).trans hPf
  refine k_mk2 (w0 := w1) hC hA n t cl qu _ hn df hdf dl ou cp co sh (hRd.of (fun z h1 h2 => by rw [ew]; exact va_up_ne _ _ (by omega))) (by rw [ew]; exact (va_up_ne _ _ (by decide)).trans hDa) hqu ht1 hqd hsh (by rw [ew]; exact va_up_self _ _ _) (fun kf2 pf2 w2 ls H locs hk2 ew2 hw => ?_) n 0 kf pf w1 ls H locs (by omega) (fun k g1 g2 => absurd g1 (by omega)) (by rw [va_up_id _ hK1, va_up_id _ hP1]) hw (lv_sub hl [1, 0] rfl)
  exact x_wretV hx hb hr hlocks hw ⟨kf2, pf2, hk2, by rw [ew2, ew]⟩ dX4_makeKeys_97
set_option maxHeartbeats 4000000 in
set_option maxRecDepth 100000 in
theorem k_begin_loop {l : Launch} {p : Program} {e : Env} {s : State} {m : MethodId} {args : Array Value} {below : List Frame} {meth : Method} {c : Code} {Q : State → Prop} {D : va_G} {cI cJ cZ cD : ClassId} {ad : Nat → Nat} {A : Nat → Prop} {H0 : Heap} {w0 : Nat → va_E} (hC : CallFix p m c cX4_begin 4 s args wsL_law RX4) (hA : ∀ q, H0.size ≤ q → A q) (n t cl qu : Nat) (wh : Int32) (n9 t9 : Nat) (df : Nat → Option Nat) (hdf : ∀ i, i < 17 → df i = some (ad (2 + 4 * i))) (dl ou cp : Nat → Nat) (co sh : Nat → Nat → Nat) (hRd : RCd ad cI w0 n9 t9 dl ou cp co sh) (hDa : w0 1 = .inl (cD, 17, .inr (.inr (.inr (.inr df))))) (h0 : w0 0 = .inr (3, [.ref (ad 1), .ref (ad 70), .ref (ad 71), .ref (ad 72), .ref (ad 76), .int (nI n), .int (nI t), .int (nI cl), .int (nI qu), .int wh]))
    (kx : ∀ (w : Nat → va_E) (ls : Array Slot) (H : Heap) (locs : List Loc), DU w0 w 16 (fun i => .inr (0, [.ref (ad (3 + 4 * i)), .ref (ad (4 + 4 * i)), .ref (ad (5 + 4 * i)), .int (nI 0), .int (nI 0), .int (nI 0)])) → WW D vwCl (tyL cI cJ cZ cD) A H0 ad 89 w s H locs → lv_has ls 4 [(0, .ref (ad 0))] → W p l e ({ frames := 1, cells := 0, slots := 0, locals := 28 }) s m args below meth c H locs 0 0 Q (F0 m 74 ls [])) :
    ∀ (j q : Nat) (w : Nat → va_E) (ls : Array Slot) (H : Heap) (locs : List Loc), q + j = 16 → DU w0 w q (fun i => .inr (0, [.ref (ad (3 + 4 * i)), .ref (ad (4 + 4 * i)), .ref (ad (5 + 4 * i)), .int (nI 0), .int (nI 0), .int (nI 0)])) → WW D vwCl (tyL cI cJ cZ cD) A H0 ad 89 w s H locs → lv_has ls 4 [(0, .ref (ad 0)), (3, .int (nI (q + 1)))] → W p l e ({ frames := 1, cells := 0, slots := 0, locals := 28 }) s m args below meth c H locs 0 0 Q (F0 m 53 ls []) := by
  obtain ⟨hx, hb, hml, hown, hts⟩ := id hC
  intro j
  induction j with
  | zero =>
    intro q w ls H locs hq hu hw hl
    obtain rfl : q = 16 := by omega
    have hl : lv_has ls 4 [(0, .ref (ad 0)), (3, .int (nI 17))] := hl
    refine lv_iload_n hx hb dX4_begin_53 rfl (lv_at hl 1 rfl) ?_
    refine lv_bipush (v := nI 16) hx hb dX4_begin_54 (by decide) ?_
    refine lv_icmp_gt (tgt := 74) hx hb dX4_begin_56 (by decide) (fun hc => ?_) (fun hc => absurd (by decide) hc)
    exact kx w ls H locs hu hw (lv_sub hl [0] rfl)
  | succ j ih =>
    intro q w ls H locs hq hu hw hl
    have h0 : w 0 = .inr (3, [.ref (ad 1), .ref (ad 70), .ref (ad 71), .ref (ad 72), .ref (ad 76), .int (nI n), .int (nI t), .int (nI cl), .int (nI qu), .int wh]) := (hu.2 0 (fun i h1 h2 => by omega)).trans h0
    have hDa : w 1 = .inl (cD, 17, .inr (.inr (.inr (.inr df)))) := (hu.2 1 (fun i h1 h2 => by omega)).trans hDa
    obtain ⟨cm, rt, gv, hD, hCm, hRt, hGv, hval⟩ := hRd (q + 1) (by omega)
    have hD : w (2 + 4 * (q + 1)) = .inr (0, [.ref (ad (3 + 4 * (q + 1))), .ref (ad (4 + 4 * (q + 1))), .ref (ad (5 + 4 * (q + 1))), .int (nI (cp ((q + 1)))), .int (nI (dl ((q + 1)))), .int (nI (ou ((q + 1))))]) := (hu.2 _ (fun i h1 h2 => by omega)).trans hD
    refine lv_iload_n hx hb dX4_begin_53 rfl (lv_at hl 1 rfl) ?_
    refine lv_bipush (v := nI 16) hx hb dX4_begin_54 (by decide) ?_
    refine lv_icmp_gt (tgt := 74) hx hb dX4_begin_56 (by decide) (fun hc => absurd hc (nI_nlt (by omega) (by omega))) (fun hc => ?_)
    refine lv_aload_n hx hb dX4_begin_59 rfl (lv_at hl 0 rfl) ?_
    refine gf_X4_11 hx hb hts hown hw (by decide) h0 rfl dX4_begin_60 ?_
    refine lv_iload_n hx hb dX4_begin_63 rfl (lv_at hl 1 rfl) ?_
    refine x_aald hx hb hw (by decide) 3 hDa rfl (j := q + 1) (by omega) (by decide) (hdf _ (by omega)) dX4_begin_64 ?_
    refine x_callW0 (As := []) (rest := []) hC vf_X4_58 hw hA (by omega) hD rfl rfl (k_forget l (q + 1) (by omega) _ _ _ hD) ⟨rfl, rfl, Nat.le_of_ble_eq_true rfl, Nat.le_of_ble_eq_true rfl⟩ hl.1 (Nat.le_of_ble_eq_true rfl) dX4_begin_65 ⟨Nat.zero_le _, Nat.zero_le _⟩ rfl (fun w_1 H locs hu2 hw => ?_)
    refine lv_iinc (v := nI (q + 1 + 1)) (lv' := [(3, .int (nI (q + 1 + 1))), (0, .ref (ad 0))]) hx hb dX4_begin_68 hl (k := 1) rfl (nI_1 (q + 1)) (by decide) rfl (fun ls hl => ?_)
    refine lv_goto (tgt := 53) hx hb dX4_begin_71 (by decide) ?_
    exact ih (q + 1) _ ls H locs (by omega) (by rw [hu2]; exact DU.step hu) hw (lv_sub hl [1, 0] rfl)
set_option maxHeartbeats 4000000 in
set_option maxRecDepth 100000 in
theorem k_complain_loop {l : Launch} {p : Program} {e : Env} {s : State} {m : MethodId} {args : Array Value} {below : List Frame} {meth : Method} {c : Code} {Q : State → Prop} {D : va_G} {cI cJ cZ cD : ClassId} {ad : Nat → Nat} {A : Nat → Prop} {H0 : Heap} {w0 : Nat → va_E} (hC : CallFix p m c cX4_complain 2 s args wsL_law RX4) (hA : ∀ q, H0.size ≤ q → A q) (n t cl qu : Nat) (wh : Int32) (hn : n ≤ 16) (df : Nat → Option Nat) (hdf : ∀ i, i < 17 → df i = some (ad (2 + 4 * i))) (dl ou cp : Nat → Nat) (co sh : Nat → Nat → Nat) (hRd : RCd ad cI w0 n t dl ou cp co sh) (hDa : w0 1 = .inl (cD, 17, .inr (.inr (.inr (.inr df))))) (hle : ∀ i, dl i ≤ 1 ∧ ou i ≤ 1 ∧ cp i < 2 ^ 17) (hsh : ∀ i k, 1 ≤ i → i ≤ n → 1 ≤ k → k ≤ n → dl i = 1 → sh i k < 1073741789) (h0 : w0 0 = .inr (3, [.ref (ad 1), .ref (ad 70), .ref (ad 71), .ref (ad 72), .ref (ad 76), .int (nI n), .int (nI t), .int (nI cl), .int (nI qu), .int wh]))
    (kx : ∀ (w : Nat → va_E) (ls : Array Slot) (H : Heap) (locs : List Loc), DU w0 w n (fun i => .inr (0, [.ref (ad (3 + 4 * i)), .ref (ad (4 + 4 * i)), .ref (ad (5 + 4 * i)), .int (nI (if dl i = 1 then gath (cp i) (sh i) (rgt (co i) t) n else cp i)), .int (nI (dl i)), .int (nI (ou i))])) → WW D vwCl (tyL cI cJ cZ cD) A H0 ad 89 w s H locs → lv_has ls 2 [(0, .ref (ad 0))] → W p l e ({ frames := 2, cells := 0, slots := 0, locals := 60 }) s m args below meth c H locs 0 0 Q (F0 m 33 ls [])) :
    ∀ (j q : Nat) (w : Nat → va_E) (ls : Array Slot) (H : Heap) (locs : List Loc), q + j = n → DU w0 w q (fun i => .inr (0, [.ref (ad (3 + 4 * i)), .ref (ad (4 + 4 * i)), .ref (ad (5 + 4 * i)), .int (nI (if dl i = 1 then gath (cp i) (sh i) (rgt (co i) t) n else cp i)), .int (nI (dl i)), .int (nI (ou i))])) → WW D vwCl (tyL cI cJ cZ cD) A H0 ad 89 w s H locs → lv_has ls 2 [(0, .ref (ad 0)), (1, .int (nI (q + 1)))] → W p l e ({ frames := 2, cells := 0, slots := 0, locals := 60 }) s m args below meth c H locs 0 0 Q (F0 m 6 ls []) := by
  obtain ⟨hx, hb, hml, hown, hts⟩ := id hC
  intro j
  induction j with
  | zero =>
    intro q w ls H locs hq hu hw hl
    obtain rfl : q = n := by omega
    have h0 : w 0 = .inr (3, [.ref (ad 1), .ref (ad 70), .ref (ad 71), .ref (ad 72), .ref (ad 76), .int (nI q), .int (nI t), .int (nI cl), .int (nI qu), .int wh]) := (hu.2 0 (fun i h1 h2 => by omega)).trans h0
    refine lv_iload_n hx hb dX4_complain_6 rfl (lv_at hl 1 rfl) ?_
    refine lv_aload_n hx hb dX4_complain_7 rfl (lv_at hl 0 rfl) ?_
    refine gf_X4_44 hx hb hts hown hw (by decide) h0 rfl dX4_complain_8 ?_
    refine lv_icmp_gt (tgt := 33) hx hb dX4_complain_11 (by decide) (fun hc => ?_) (fun hc => absurd (nI_lt (by omega) (by omega)) hc)
    exact kx w ls H locs hu hw (lv_sub hl [0] rfl)
  | succ j ih =>
    intro q w ls H locs hq hu hw hl
    have h0 : w 0 = .inr (3, [.ref (ad 1), .ref (ad 70), .ref (ad 71), .ref (ad 72), .ref (ad 76), .int (nI n), .int (nI t), .int (nI cl), .int (nI qu), .int wh]) := (hu.2 0 (fun i h1 h2 => by omega)).trans h0
    have hDa : w 1 = .inl (cD, 17, .inr (.inr (.inr (.inr df)))) := (hu.2 1 (fun i h1 h2 => by omega)).trans hDa
    obtain ⟨cm, rt, gv, hD, hCm, hRt, hGv, hval⟩ := hRd (q + 1) (by omega)
    have hD0 := hD
    have hD : w (2 + 4 * (q + 1)) = .inr (0, [.ref (ad (3 + 4 * (q + 1))), .ref (ad (4 + 4 * (q + 1))), .ref (ad (5 + 4 * (q + 1))), .int (nI (cp ((q + 1)))), .int (nI (dl ((q + 1)))), .int (nI (ou ((q + 1))))]) := (hu.2 _ (fun i h1 h2 => by omega)).trans hD
    have hRt : w (4 + 4 * (q + 1)) = .inl (cI, 17, .inl rt) := (hu.2 _ (fun i h1 h2 => by omega)).trans hRt
    have hGv : w (5 + 4 * (q + 1)) = .inl (cI, 17, .inl gv) := (hu.2 _ (fun i h1 h2 => by omega)).trans hGv
    obtain ⟨g1, g2, g3⟩ := hle (q + 1)
    refine lv_iload_n hx hb dX4_complain_6 rfl (lv_at hl 1 rfl) ?_
    refine lv_aload_n hx hb dX4_complain_7 rfl (lv_at hl 0 rfl) ?_
    refine gf_X4_44 hx hb hts hown hw (by decide) h0 rfl dX4_complain_8 ?_
    refine lv_icmp_gt (tgt := 33) hx hb dX4_complain_11 (by decide) (fun hc => absurd hc (nI_nlt (by omega) (by omega))) (fun hc => ?_)
    refine lv_aload_n hx hb dX4_complain_14 rfl (lv_at hl 0 rfl) ?_
    refine gf_X4_11 hx hb hts hown hw (by decide) h0 rfl dX4_complain_15 ?_
    refine lv_iload_n hx hb dX4_complain_18 rfl (lv_at hl 1 rfl) ?_
    refine x_aald hx hb hw (by decide) 3 hDa rfl (j := q + 1) (by omega) (by decide) (hdf _ (by omega)) dX4_complain_19 ?_
    refine lv_aload_n hx hb dX4_complain_20 rfl (lv_at hl 0 rfl) ?_
    refine gf_X4_44 hx hb hts hown hw (by decide) h0 rfl dX4_complain_21 ?_
    by_cases hd1 : dl (q + 1) = 1
    · skip
      obtain ⟨hcm9, hv9⟩ := hval (by omega) (by omega) hd1
      have hDe := hD
      rw [hd1] at hDe
      refine x_callW0 (As := [.int (nI n)]) (rest := []) hC vf_X4_103 hw hA (by omega) hD rfl rfl (k_gather l (q + 1) (by omega) (cp (q + 1)) n g3 hn _ rt gv (sh (q + 1)) (rgt (co (q + 1)) t) (fun k h1 h2 => ⟨(hv9 k h1 h2).1, rgt_lt _ _ _⟩) (fun k h1 h2 => ⟨(hv9 k h1 h2).2, hsh (q + 1) k (by omega) (by omega) h1 h2 hd1⟩) hDe hRt hGv) ⟨rfl, rfl, Nat.le_of_ble_eq_true rfl, Nat.le_of_ble_eq_true rfl⟩ hl.1 (Nat.le_of_ble_eq_true rfl) dX4_complain_24 ⟨Nat.zero_le _, Nat.zero_le _⟩ rfl (fun w_1 H locs hu2 hw => ?_)
      refine lv_iinc (v := nI (q + 1 + 1)) (lv' := [(1, .int (nI (q + 1 + 1))), (0, .ref (ad 0))]) hx hb dX4_complain_27 hl (k := 1) rfl (nI_1 (q + 1)) (by decide) rfl (fun ls hl => ?_)
      refine lv_goto (tgt := 6) hx hb dX4_complain_30 (by decide) ?_
      have hF : (.inr (0, [.ref (ad (3 + 4 * (q + 1))), .ref (ad (4 + 4 * (q + 1))), .ref (ad (5 + 4 * (q + 1))), .int (nI (if dl ((q + 1)) = 1 then gath (cp ((q + 1))) (sh ((q + 1))) (rgt (co ((q + 1))) t) n else cp ((q + 1)))), .int (nI (dl ((q + 1)))), .int (nI (ou ((q + 1))))]) : va_E) = .inr (0, [.ref (ad (3 + 4 * (q + 1))), .ref (ad (4 + 4 * (q + 1))), .ref (ad (5 + 4 * (q + 1))), .int (nI (gath (cp (q + 1)) (sh (q + 1)) (rgt (co (q + 1)) t) n)), .int (nI 1), .int (nI (ou (q + 1)))]) := by rw [if_pos hd1, hd1]
      exact ih (q + 1) _ ls H locs (by omega) (by rw [hu2, ← hF]; exact DU.step hu) hw (lv_sub hl [1, 0] rfl)
    · skip
      have hDe := hD
      rw [show dl (q + 1) = 0 by omega] at hDe
      refine x_callW0 (As := [.int (nI n)]) (rest := []) hC vf_X4_103 hw hA (by omega) hD rfl rfl (k_gather_not l (q + 1) (by omega) _ _ n hDe) ⟨rfl, rfl, Nat.le_of_ble_eq_true rfl, Nat.le_of_ble_eq_true rfl⟩ hl.1 (Nat.le_of_ble_eq_true rfl) dX4_complain_24 ⟨Nat.zero_le _, Nat.zero_le _⟩ rfl (fun w_2 H locs hu2 hw => ?_)
      rw [hu2] at hw
      refine lv_iinc (v := nI (q + 1 + 1)) (lv' := [(1, .int (nI (q + 1 + 1))), (0, .ref (ad 0))]) hx hb dX4_complain_27 hl (k := 1) rfl (nI_1 (q + 1)) (by decide) rfl (fun ls hl => ?_)
      refine lv_goto (tgt := 6) hx hb dX4_complain_30 (by decide) ?_
      exact ih (q + 1) _ ls H locs (by omega) (DU.same hu (by rw [hD0, if_neg hd1])) hw (lv_sub hl [1, 0] rfl)
