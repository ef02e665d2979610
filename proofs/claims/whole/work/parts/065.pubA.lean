/-! the ring's calls: begin, deal, spoil, commitment, share, isRight, complain, answer -/
theorem tb_zero (k : Nat) : tb 0 k = 0 := by unfold tb; rw [Nat.zero_div]
def bgOk (x y : Int32) : Prop := nI 1 ≤ x ∧ x ≤ nI 16 ∧ nI 1 ≤ y ∧ y ≤ x
theorem nle_of {x y : Int32} (h : ¬ x < y) : y ≤ x := Int32.not_lt.mp h
theorem nlt_of {x y : Int32} (h : ¬ x ≤ y) : y < x := Int32.not_le.mp h

set_option maxHeartbeats 4000000 in
set_option maxRecDepth 100000 in
theorem c_begin (l : Launch) {D : va_G} {cI cJ cZ cD : ClassId} {ad : Nat → Nat} {w : Nat → va_E} {sz : Nat} (n t cl qu en kp : Nat) (dl ou cp ks pt : Nat → Nat) (co sh : Nat → Nat → Nat) (vs : Nat → Int64) (hok : OkS n t cl qu en kp dl ou cp ks pt co sh) (hRC : RC ad cI cJ cD w n t cl qu en kp dl ou cp ks pt co sh vs) (n2 t2 : Nat) (g1 : 1 ≤ n2) (g2 : n2 ≤ 16) (g3 : 1 ≤ t2) (g4 : t2 ≤ n2)  : MW l yX4_begin (.code yX4_begin cX4_begin 4 none) ({ frames := 1, cells := 0, slots := 0, locals := 28 }) [.ref (ad 0), .int (nI n2), .int (nI t2)] D (tyL cI cJ cZ cD) ad 89 w sz none (fun u => (∀ z, 76 < z → u z = w z) ∧ RC ad cI cJ cD u n2 t2 0 0 0 0 (fun _ => 0) (fun _ => 0) (fun _ => 0) ks pt co sh vs) := by
  refine MW.of (by decide) (Nat.le_of_ble_eq_true rfl) ?_
  intro p e s m below meth c ls hC hr hlocks hl hw
  obtain ⟨hx, hb, hml, hown, hts⟩ := id hC
  have hA : ∀ q, s.heap.size ≤ q → xA ad 89 s.heap.size q := fun q h => Or.inr h
  have hl : lv_has ls 4 [(0, .ref (ad 0)), (1, .int (nI n2)), (2, .int (nI t2))] := hl
  obtain ⟨⟨wh, h0, hwh⟩, ⟨df, hDa, hdf⟩, hRd, ⟨kf, pf, hKf, hPf, hky⟩, ⟨msg, bas, vf, ptf, ivf, hR, hVs, hPt, hIv, hmsg, hptv, hiv⟩, ⟨sa0, sx0, sy0, hSt⟩⟩ := id hRC
  obtain ⟨⟨hn, ht, hcl, hqu, hen, hkp⟩, hle, ⟨hqb, hkb, hcb⟩, hvals, hclv, hptl, ⟨hz1, hz2, hz3⟩⟩ := id hok
  refine lv_iload_n hx hb dX4_begin_0 rfl (lv_at hl 1 rfl) ?_
  refine lv_iconst (v := nI 1) hx hb dX4_begin_1 (by decide) ?_
  refine lv_icmp_lt (tgt := 21) hx hb dX4_begin_2 (by decide) (fun q1 => absurd q1 (nI_nlt (by omega) (by omega))) (fun q1 => ?_)
  refine lv_iload_n hx hb dX4_begin_5 rfl (lv_at hl 1 rfl) ?_
  refine lv_bipush (v := nI 16) hx hb dX4_begin_6 (by decide) ?_
  refine lv_icmp_gt (tgt := 21) hx hb dX4_begin_8 (by decide) (fun q2 => absurd q2 (nI_nlt (by omega) (by omega))) (fun q2 => ?_)
  refine lv_iload_n hx hb dX4_begin_11 rfl (lv_at hl 2 rfl) ?_
  refine lv_iconst (v := nI 1) hx hb dX4_begin_12 (by decide) ?_
  refine lv_icmp_lt (tgt := 21) hx hb dX4_begin_13 (by decide) (fun q3 => absurd q3 (nI_nlt (by omega) (by omega))) (fun q3 => ?_)
  refine lv_iload_n hx hb dX4_begin_16 rfl (lv_at hl 2 rfl) ?_
  refine lv_iload_n hx hb dX4_begin_17 rfl (lv_at hl 1 rfl) ?_
  refine lv_icmp_le (tgt := 31) hx hb dX4_begin_18 (by decide) (fun q4 => ?_) (fun q4 => absurd (nI_le (by omega) (by omega)) q4)
  refine lv_aload_n hx hb dX4_begin_31 rfl (lv_at hl 0 rfl) ?_
  refine lv_iload_n hx hb dX4_begin_32 rfl (lv_at hl 1 rfl) ?_
  refine pf_X4_44 (v := .int (nI n2)) hx hb hts hown hw (by decide) h0 rfl rfl (Nat.le_of_ble_eq_true rfl) dX4_begin_33 (fun w_1 H locs ew_2 hw => ?_)
  have hc_3 : w_1 0 = .inr (3, [.ref (ad 1), .ref (ad 70), .ref (ad 71), .ref (ad 72), .ref (ad 76), .int (nI n2), .int (nI t), .int (nI cl), .int (nI qu), .int wh]) := by rw [ew_2]; exact va_up_self _ _ _
  refine lv_aload_n hx hb dX4_begin_36 rfl (lv_at hl 0 rfl) ?_
  refine lv_iload_n hx hb dX4_begin_37 rfl (lv_at hl 2 rfl) ?_
  refine pf_X4_48 (v := .int (nI t2)) hx hb hts hown hw (by decide) hc_3 rfl rfl (Nat.le_of_ble_eq_true rfl) dX4_begin_38 (fun w_4 H locs ew_5 hw => ?_)
  have hc_6 : w_4 0 = .inr (3, [.ref (ad 1), .ref (ad 70), .ref (ad 71), .ref (ad 72), .ref (ad 76), .int (nI n2), .int (nI t2), .int (nI cl), .int (nI qu), .int wh]) := by rw [ew_5]; exact va_up_self _ _ _
  refine lv_aload_n hx hb dX4_begin_41 rfl (lv_at hl 0 rfl) ?_
  refine lv_iconst (v := nI 0) hx hb dX4_begin_42 (by decide) ?_
  refine pf_X4_51 (v := .int (nI 0)) hx hb hts hown hw (by decide) hc_6 rfl (by decide) (Nat.le_of_ble_eq_true rfl) dX4_begin_43 (fun w_7 H locs ew_8 hw => ?_)
  have hc_9 : w_7 0 = .inr (3, [.ref (ad 1), .ref (ad 70), .ref (ad 71), .ref (ad 72), .ref (ad 76), .int (nI n2), .int (nI t2), .int (nI 0), .int (nI qu), .int wh]) := by rw [ew_8]; exact va_up_self _ _ _
  refine lv_aload_n hx hb dX4_begin_46 rfl (lv_at hl 0 rfl) ?_
  refine lv_iconst (v := nI 0) hx hb dX4_begin_47 (by decide) ?_
  refine pf_X4_55 (v := .int (nI 0)) hx hb hts hown hw (by decide) hc_9 rfl rfl (Nat.le_of_ble_eq_true rfl) dX4_begin_48 (fun w_10 H locs ew_11 hw => ?_)
  have hc_12 : w_10 0 = .inr (3, [.ref (ad 1), .ref (ad 70), .ref (ad 71), .ref (ad 72), .ref (ad 76), .int (nI n2), .int (nI t2), .int (nI 0), .int (nI 0), .int wh]) := by rw [ew_11]; exact va_up_self _ _ _
  refine lv_iconst (v := nI 1) hx hb dX4_begin_51 (by decide) ?_
  refine lv_istore_n (lv' := [(3, .int (nI 1)), (0, .ref (ad 0)), (1, .int (nI n2)), (2, .int (nI t2))]) hx hb dX4_begin_52 rfl hl (by decide) rfl (fun ls hl => ?_)
  have hwz : ∀ z, z ≠ 0 → w_10 z = w z := fun z hz => by rw [ew_11, ew_8, ew_5, ew_2, va_up_ne _ _ hz, va_up_ne _ _ hz, va_up_ne _ _ hz, va_up_ne _ _ hz]
  have hRd4 := hRd.of (u := w_10) (fun z h1 h2 => hwz z (by omega))
  refine k_begin_loop (w0 := w_10) hC hA n2 t2 0 0 wh n t df hdf dl ou cp co sh hRd4 ((hwz 1 (by decide)).trans hDa) hc_12 (fun w5 ls H locs hdu hw hl => ?_) 16 0 w_10 ls H locs (by decide) DU.zero hw (lv_sub hl [1, 0] rfl)
  have h05 : w5 0 = .inr (3, [.ref (ad 1), .ref (ad 70), .ref (ad 71), .ref (ad 72), .ref (ad 76), .int (nI n2), .int (nI t2), .int (nI 0), .int (nI 0), .int wh]) := (hdu.2 0 (fun i h1 h2 => by omega)).trans hc_12
  have hR5 : w5 72 = .inr (1, [.ref (ad 73), .ref (ad 74), .ref (ad 75), .int (nI en), .int (nI kp), .long msg, .int bas]) := (hdu.2 72 (fun i h1 h2 => by omega)).trans ((hwz 72 (by decide)).trans hR)
  refine lv_aload_n hx hb dX4_begin_74 rfl (lv_at hl 0 rfl) ?_
  refine gf_X4_26 hx hb hts hown hw (by decide) h05 rfl dX4_begin_75 ?_
  refine x_callW0 (As := []) (rest := []) hC vf_X4_61 hw hA (by decide) hR5 rfl rfl (k_rforget l _ _ _ _ hR5) ⟨rfl, rfl, Nat.le_of_ble_eq_true rfl, Nat.le_of_ble_eq_true rfl⟩ hl.1 (Nat.le_of_ble_eq_true rfl) dX4_begin_78 ⟨Nat.zero_le _, Nat.zero_le _⟩ rfl (fun w_13 H locs hu hw => ?_)
  have hu5 : ∀ z, z ≠ 72 → w_13 z = w5 z := fun z hz => by rw [hu]; exact va_up_ne _ _ hz
  have hu4 : ∀ z, z ≠ 0 → z ≠ 72 → (∀ i, 1 ≤ i → i ≤ 16 → z ≠ 2 + 4 * i) → w_13 z = w z := fun z h1 h2 h3 => (hu5 z h2).trans ((hdu.2 z h3).trans (hwz z h1))
  refine x_wretV hx hb hr hlocks hw ⟨fun z hz => hu4 z (by omega) (by omega) (fun i _ _ => by omega), ⟨wh, (hu5 0 (by decide)).trans h05, fun q => absurd q (by decide)⟩, ⟨df, (hu4 1 (by decide) (by decide) (fun i _ _ => by omega)).trans hDa, hdf⟩, fun i hi => ?_, ⟨kf, pf, (hu4 70 (by decide) (by decide) (fun i _ _ => by omega)).trans hKf, (hu4 71 (by decide) (by decide) (fun i _ _ => by omega)).trans hPf, fun q => absurd q (by decide)⟩, ⟨msg, bas, vf, ptf, ivf, by rw [hu]; exact va_up_self _ _ _, (hu4 73 (by decide) (by decide) (fun i _ _ => by omega)).trans hVs, (hu4 74 (by decide) (by decide) (fun i _ _ => by omega)).trans hPt, (hu4 75 (by decide) (by decide) (fun i _ _ => by omega)).trans hIv, fun q => absurd q (by decide), fun k q => absurd q (by rw [tb_zero]; decide), hiv⟩, ⟨sa0, sx0, sy0, (hu4 76 (by decide) (by decide) (fun i _ _ => by omega)).trans hSt⟩⟩ dX4_begin_81
  obtain ⟨cm, rt, gv, e1, e2, e3, e4, -⟩ := hRd i hi
  refine ⟨cm, rt, gv, ?_, (hu4 _ (by omega) (by omega) (fun i _ _ => by omega)).trans e2, (hu4 _ (by omega) (by omega) (fun i _ _ => by omega)).trans e3, (hu4 _ (by omega) (by omega) (fun i _ _ => by omega)).trans e4, fun _ _ (q : (0 : Nat) = 1) => absurd q (by decide)⟩
  by_cases hi0 : i = 0
  · subst hi0; rw [hu4 _ (by omega) (by omega) (fun i _ _ => by omega), e1, hz1, hz2, hz3]
  · exact (hu5 _ (by omega)).trans (hdu.1 i (by omega) (by omega))
set_option maxHeartbeats 4000000 in
set_option maxRecDepth 100000 in
theorem c_beginT (l : Launch) (hl0 : l.stackTraces = false) {D : va_G} {cI cJ cZ cD : ClassId} {ad : Nat → Nat} {sa : Nat → Nat} {w : Nat → va_E} {sz : Nat} (n t cl qu en kp : Nat) (dl ou cp ks pt : Nat → Nat) (co sh : Nat → Nat → Nat) (vs : Nat → Int64) (hok : OkS n t cl qu en kp dl ou cp ks pt co sh) (hRC : RC ad cI cJ cD w n t cl qu en kp dl ou cp ks pt co sh vs) (x y : Int32) (hbad : ¬ bgOk x y)  : MT l yX4_begin (.code yX4_begin cX4_begin 4 none) ({ frames := 6, cells := 1, slots := 6, locals := 82 }) [.ref (ad 0), .int x, .int y] D (tyL cI cJ cZ cD) ad 89 w sz sa "java/lang/IllegalArgumentException" := by
  refine MT.of (by decide) (Nat.le_of_ble_eq_true rfl) ?_
  intro p e s m below meth c ls hC hlocks htab hl hw hT
  obtain ⟨hx, hb, hml, hown, hts⟩ := id hC
  have hA : ∀ q, s.heap.size ≤ q → xA ad 89 s.heap.size q := fun q h => Or.inr h
  have hl : lv_has ls 4 [(0, .ref (ad 0)), (1, .int x), (2, .int y)] := hl
  obtain ⟨⟨wh, h0, hwh⟩, ⟨df, hDa, hdf⟩, hRd, ⟨kf, pf, hKf, hPf, hky⟩, ⟨msg, bas, vf, ptf, ivf, hR, hVs, hPt, hIv, hmsg, hptv, hiv⟩, ⟨sa0, sx0, sy0, hSt⟩⟩ := id hRC
  obtain ⟨⟨hn, ht, hcl, hqu, hen, hkp⟩, hle, ⟨hqb, hkb, hcb⟩, hvals, hclv, hptl, ⟨hz1, hz2, hz3⟩⟩ := id hok
  refine lv_iload_n hx hb dX4_begin_0 rfl (lv_at hl 1 rfl) ?_
  refine lv_iconst (v := nI 1) hx hb dX4_begin_1 (by decide) ?_
  refine lv_icmp_lt (tgt := 21) hx hb dX4_begin_2 (by decide) (fun q1 => ?_) (fun q1 => ?_)
  · skip
    exact x_throwIAE (is := 39) (text := "n is not 1 .. 16, or t not 1 .. n") hl0 hC hlocks htab hw hT (by decide +kernel) hl.1 dX4_begin_21 dX4_begin_24 dX4_begin_25 dX4_begin_27 dX4_begin_30 (Nat.le_of_ble_eq_true rfl) (Nat.le_of_ble_eq_true rfl) ⟨Nat.le_of_ble_eq_true rfl, Nat.le_of_ble_eq_true rfl⟩
  · skip
    refine lv_iload_n hx hb dX4_begin_5 rfl (lv_at hl 1 rfl) ?_
    refine lv_bipush (v := nI 16) hx hb dX4_begin_6 (by decide) ?_
    refine lv_icmp_gt (tgt := 21) hx hb dX4_begin_8 (by decide) (fun q2 => ?_) (fun q2 => ?_)
    · skip
      exact x_throwIAE (is := 39) (text := "n is not 1 .. 16, or t not 1 .. n") hl0 hC hlocks htab hw hT (by decide +kernel) hl.1 dX4_begin_21 dX4_begin_24 dX4_begin_25 dX4_begin_27 dX4_begin_30 (Nat.le_of_ble_eq_true rfl) (Nat.le_of_ble_eq_true rfl) ⟨Nat.le_of_ble_eq_true rfl, Nat.le_of_ble_eq_true rfl⟩
    · skip
      refine lv_iload_n hx hb dX4_begin_11 rfl (lv_at hl 2 rfl) ?_
      refine lv_iconst (v := nI 1) hx hb dX4_begin_12 (by decide) ?_
      refine lv_icmp_lt (tgt := 21) hx hb dX4_begin_13 (by decide) (fun q3 => ?_) (fun q3 => ?_)
      · skip
        exact x_throwIAE (is := 39) (text := "n is not 1 .. 16, or t not 1 .. n") hl0 hC hlocks htab hw hT (by decide +kernel) hl.1 dX4_begin_21 dX4_begin_24 dX4_begin_25 dX4_begin_27 dX4_begin_30 (Nat.le_of_ble_eq_true rfl) (Nat.le_of_ble_eq_true rfl) ⟨Nat.le_of_ble_eq_true rfl, Nat.le_of_ble_eq_true rfl⟩
      · skip
        refine lv_iload_n hx hb dX4_begin_16 rfl (lv_at hl 2 rfl) ?_
        refine lv_iload_n hx hb dX4_begin_17 rfl (lv_at hl 1 rfl) ?_
        refine lv_icmp_le (tgt := 31) hx hb dX4_begin_18 (by decide) (fun q4 => absurd q4 (fun q => hbad ⟨nle_of q1, nle_of q2, nle_of q3, q⟩)) (fun q4 => ?_)
        exact x_throwIAE (is := 39) (text := "n is not 1 .. 16, or t not 1 .. n") hl0 hC hlocks htab hw hT (by decide +kernel) hl.1 dX4_begin_21 dX4_begin_24 dX4_begin_25 dX4_begin_27 dX4_begin_30 (Nat.le_of_ble_eq_true rfl) (Nat.le_of_ble_eq_true rfl) ⟨Nat.le_of_ble_eq_true rfl, Nat.le_of_ble_eq_true rfl⟩
set_option maxHeartbeats 4000000 in
set_option maxRecDepth 100000 in
theorem c_deal (l : Launch) {D : va_G} {cI cJ cZ cD : ClassId} {ad : Nat → Nat} {w : Nat → va_E} {sz : Nat} (n t cl qu en kp : Nat) (dl ou cp ks pt : Nat → Nat) (co sh : Nat → Nat → Nat) (vs : Nat → Int64) (hok : OkS n t cl qu en kp dl ou cp ks pt co sh) (hRC : RC ad cI cJ cD w n t cl qu en kp dl ou cp ks pt co sh vs) (i : Nat) (hi1 : 1 ≤ i) (hi2 : i ≤ n) (seed : Int64) (hcl0 : cl = 0) (hdl : dl i = 0)  : MW l yX4_deal (.code yX4_deal cX4_deal 4 none) ({ frames := 3, cells := 0, slots := 0, locals := 100 }) [.ref (ad 0), .int (nI i), .long seed] D (tyL cI cJ cZ cD) ad 89 w sz none (fun u => (∀ z, 76 < z → u z = w z) ∧ RC ad cI cJ cD u n t cl qu en kp (va_up dl i 1) ou cp ks pt (va_up co i (coF seed i)) (va_up sh i (rgt (coF seed i) t)) vs) := by
  refine MW.of (by decide) (Nat.le_of_ble_eq_true rfl) ?_
  intro p e s m below meth c ls hC hr hlocks hl hw
  obtain ⟨hx, hb, hml, hown, hts⟩ := id hC
  have hA : ∀ q, s.heap.size ≤ q → xA ad 89 s.heap.size q := fun q h => Or.inr h
  have hl : lv_has ls 4 [(0, .ref (ad 0)), (1, .int (nI i)), (2, .long seed)] := hl
  obtain ⟨⟨wh, h0, hwh⟩, ⟨df, hDa, hdf⟩, hRd, ⟨kf, pf, hKf, hPf, hky⟩, ⟨msg, bas, vf, ptf, ivf, hR, hVs, hPt, hIv, hmsg, hptv, hiv⟩, ⟨sa0, sx0, sy0, hSt⟩⟩ := id hRC
  obtain ⟨⟨hn, ht, hcl, hqu, hen, hkp⟩, hle, ⟨hqb, hkb, hcb⟩, hvals, hclv, hptl, ⟨hz1, hz2, hz3⟩⟩ := id hok
  subst hcl0
  refine lv_aload_n hx hb dX4_deal_0 rfl (lv_at hl 0 rfl) ?_
  refine lv_iload_n hx hb dX4_deal_1 rfl (lv_at hl 1 rfl) ?_
  refine x_callW0 (As := [.int (nI i)]) (rest := []) hC vf_X4_62 hw hA (by decide) h0 rfl rfl (k_needNode l n t _ qu wh hn i hi1 hi2 h0) ⟨rfl, rfl, Nat.le_of_ble_eq_true rfl, Nat.le_of_ble_eq_true rfl⟩ hl.1 (Nat.le_of_ble_eq_true rfl) dX4_deal_2 ⟨Nat.zero_le _, Nat.zero_le _⟩ rfl (fun w_1 H locs hu hw => ?_)
  rw [hu] at hw
  refine lv_aload_n hx hb dX4_deal_5 rfl (lv_at hl 0 rfl) ?_
  refine x_callW0 (As := []) (rest := []) hC vf_X4_66 hw hA (by decide) h0 rfl rfl (k_needOpen l n t qu wh h0) ⟨rfl, rfl, Nat.le_of_ble_eq_true rfl, Nat.le_of_ble_eq_true rfl⟩ hl.1 (Nat.le_of_ble_eq_true rfl) dX4_deal_6 ⟨Nat.zero_le _, Nat.zero_le _⟩ rfl (fun w_2 H locs hu hw => ?_)
  rw [hu] at hw
  obtain ⟨cm, rt, gv, hD, hCm, hRt, hGv, hval⟩ := hRd (i) (by omega)
  have hDe := hD
  rw [hdl] at hDe
  refine lv_aload_n hx hb dX4_deal_9 rfl (lv_at hl 0 rfl) ?_
  refine gf_X4_11 hx hb hts hown hw (by decide) h0 rfl dX4_deal_10 ?_
  refine lv_iload_n hx hb dX4_deal_13 rfl (lv_at hl 1 rfl) ?_
  refine x_aald hx hb hw (by decide) 3 hDa rfl (j := i) (by omega) (by decide) (hdf _ (by omega)) dX4_deal_14 ?_
  refine gf_X4_69 hx hb hts hown hw (by omega) hDe rfl dX4_deal_15 ?_
  refine lv_if_eq (tgt := 31) hx hb dX4_deal_18 (by decide) (fun q1 => ?_) (fun q1 => absurd (by decide) q1)
  refine lv_aload_n hx hb dX4_deal_31 rfl (lv_at hl 0 rfl) ?_
  refine gf_X4_11 hx hb hts hown hw (by decide) h0 rfl dX4_deal_32 ?_
  refine lv_iload_n hx hb dX4_deal_35 rfl (lv_at hl 1 rfl) ?_
  refine x_aald hx hb hw (by decide) 3 hDa rfl (j := i) (by omega) (by decide) (hdf _ (by omega)) dX4_deal_36 ?_
  refine lv_iload_n hx hb dX4_deal_37 rfl (lv_at hl 1 rfl) ?_
  refine lv_lload_n hx hb dX4_deal_38 rfl (lv_at hl 2 rfl) ?_
  refine lv_aload_n hx hb dX4_deal_39 rfl (lv_at hl 0 rfl) ?_
  refine gf_X4_44 hx hb hts hown hw (by decide) h0 rfl dX4_deal_40 ?_
  refine lv_aload_n hx hb dX4_deal_43 rfl (lv_at hl 0 rfl) ?_
  refine gf_X4_48 hx hb hts hown hw (by decide) h0 rfl dX4_deal_44 ?_
  refine x_callW0 (As := [.int (nI i), .long seed, .int (nI n), .int (nI t)]) (rest := []) hC vf_X4_77 hw hA (by omega) hDe rfl rfl (k_dealBySeed l i (by omega) n t hn ht seed cm rt gv _ _ _ hDe hCm hRt hGv) ⟨rfl, rfl, Nat.le_of_ble_eq_true rfl, Nat.le_of_ble_eq_true rfl⟩ hl.1 (Nat.le_of_ble_eq_true rfl) dX4_deal_47 ⟨Nat.zero_le _, Nat.zero_le _⟩ rfl (fun w_3 H locs hu hw => ?_)
  obtain ⟨cm2, rt2, gv2, f1, f2, f3, rfl⟩ := hu
  refine x_wretV hx hb hr hlocks hw ⟨fun z hz => setD_ne (by omega), RCo.of ⟨wh, h0, hwh⟩ (setD_ne (by omega)), RCa.of ⟨df, hDa, hdf⟩ (setD_ne (by omega)), RCd.set hRd (i := i) (fun z _ _ hz => setD_ne hz) (fun j hj => ⟨va_up_ne _ _ hj, rfl, rfl, va_up_ne _ _ hj, va_up_ne _ _ hj⟩) ⟨cm2, rt2, gv2, ?_, setD_cm, setD_rt, setD_gv, fun _ _ _ => ?_⟩, RCk.of ⟨kf, pf, hKf, hPf, hky⟩ (setD_ne (by omega)) (setD_ne (by omega)), RCr.of ⟨msg, bas, vf, ptf, ivf, hR, hVs, hPt, hIv, hmsg, hptv, hiv⟩ (fun z _ _ => setD_ne (by omega)), RCs.of ⟨sa0, sx0, sy0, hSt⟩ (setD_ne (by omega))⟩ dX4_deal_50
  · rw [va_up_self]; exact setD_D
  · rw [va_up_self, va_up_self]; exact ⟨f1, fun k h1 h2 => ⟨f2 k h1 h2, f3 k h1 h2⟩⟩
set_option maxHeartbeats 4000000 in
set_option maxRecDepth 100000 in
theorem c_dealA (l : Launch) (hl0 : l.stackTraces = false) {D : va_G} {cI cJ cZ cD : ClassId} {ad : Nat → Nat} {sa : Nat → Nat} {w : Nat → va_E} {sz : Nat} (n t cl qu en kp : Nat) (dl ou cp ks pt : Nat → Nat) (co sh : Nat → Nat → Nat) (vs : Nat → Int64) (hok : OkS n t cl qu en kp dl ou cp ks pt co sh) (hRC : RC ad cI cJ cD w n t cl qu en kp dl ou cp ks pt co sh vs) (x : Int32) (seed : Int64) (hbad : ¬ isNd n x)  : MT l yX4_deal (.code yX4_deal cX4_deal 4 none) ({ frames := 7, cells := 1, slots := 6, locals := 111 }) [.ref (ad 0), .int x, .long seed] D (tyL cI cJ cZ cD) ad 89 w sz sa "java/lang/IllegalArgumentException" := by
  refine MT.of (by decide) (Nat.le_of_ble_eq_true rfl) ?_
  intro p e s m below meth c ls hC hlocks htab hl hw hT
  obtain ⟨hx, hb, hml, hown, hts⟩ := id hC
  have hA : ∀ q, s.heap.size ≤ q → xA ad 89 s.heap.size q := fun q h => Or.inr h
  have hl : lv_has ls 4 [(0, .ref (ad 0)), (1, .int x), (2, .long seed)] := hl
  obtain ⟨⟨wh, h0, hwh⟩, ⟨df, hDa, hdf⟩, hRd, ⟨kf, pf, hKf, hPf, hky⟩, ⟨msg, bas, vf, ptf, ivf, hR, hVs, hPt, hIv, hmsg, hptv, hiv⟩, ⟨sa0, sx0, sy0, hSt⟩⟩ := id hRC
  obtain ⟨⟨hn, ht, hcl, hqu, hen, hkp⟩, hle, ⟨hqb, hkb, hcb⟩, hvals, hclv, hptl, ⟨hz1, hz2, hz3⟩⟩ := id hok
  refine lv_aload_n hx hb dX4_deal_0 rfl (lv_at hl 0 rfl) ?_
  refine lv_iload_n hx hb dX4_deal_1 rfl (lv_at hl 1 rfl) ?_
  exact x_prop (As := [.int x]) (rest := []) hC vf_X4_62 hlocks htab hw hT (by decide) h0 rfl rfl (k_needNodeT l hl0 n t cl qu wh hn x hbad h0) ⟨rfl, rfl, Nat.le_of_ble_eq_true rfl, Nat.le_of_ble_eq_true rfl⟩ hl.1 (Nat.le_of_ble_eq_true rfl) dX4_deal_2 ⟨Nat.le_of_ble_eq_true rfl, Nat.le_of_ble_eq_true rfl⟩ rfl
set_option maxHeartbeats 4000000 in
set_option maxRecDepth 100000 in
theorem c_dealS1 (l : Launch) (hl0 : l.stackTraces = false) {D : va_G} {cI cJ cZ cD : ClassId} {ad : Nat → Nat} {sa : Nat → Nat} {w : Nat → va_E} {sz : Nat} (n t cl qu en kp : Nat) (dl ou cp ks pt : Nat → Nat) (co sh : Nat → Nat → Nat) (vs : Nat → Int64) (hok : OkS n t cl qu en kp dl ou cp ks pt co sh) (hRC : RC ad cI cJ cD w n t cl qu en kp dl ou cp ks pt co sh vs) (i : Nat) (hi1 : 1 ≤ i) (hi2 : i ≤ n) (seed : Int64) (hcl0 : cl = 1)  : MT l yX4_deal (.code yX4_deal cX4_deal 4 none) ({ frames := 7, cells := 1, slots := 6, locals := 110 }) [.ref (ad 0), .int (nI i), .long seed] D (tyL cI cJ cZ cD) ad 89 w sz sa "java/lang/IllegalStateException" := by
  refine MT.of (by decide) (Nat.le_of_ble_eq_true rfl) ?_
  intro p e s m below meth c ls hC hlocks htab hl hw hT
  obtain ⟨hx, hb, hml, hown, hts⟩ := id hC
  have hA : ∀ q, s.heap.size ≤ q → xA ad 89 s.heap.size q := fun q h => Or.inr h
  have hl : lv_has ls 4 [(0, .ref (ad 0)), (1, .int (nI i)), (2, .long seed)] := hl
  obtain ⟨⟨wh, h0, hwh⟩, ⟨df, hDa, hdf⟩, hRd, ⟨kf, pf, hKf, hPf, hky⟩, ⟨msg, bas, vf, ptf, ivf, hR, hVs, hPt, hIv, hmsg, hptv, hiv⟩, ⟨sa0, sx0, sy0, hSt⟩⟩ := id hRC
  obtain ⟨⟨hn, ht, hcl, hqu, hen, hkp⟩, hle, ⟨hqb, hkb, hcb⟩, hvals, hclv, hptl, ⟨hz1, hz2, hz3⟩⟩ := id hok
  subst hcl0
  refine lv_aload_n hx hb dX4_deal_0 rfl (lv_at hl 0 rfl) ?_
  refine lv_iload_n hx hb dX4_deal_1 rfl (lv_at hl 1 rfl) ?_
  refine x_callW0 (As := [.int (nI i)]) (rest := []) hC vf_X4_62 hw hA (by decide) h0 rfl rfl (k_needNode l n t _ qu wh hn i hi1 hi2 h0) ⟨rfl, rfl, Nat.le_of_ble_eq_true rfl, Nat.le_of_ble_eq_true rfl⟩ hl.1 (Nat.le_of_ble_eq_true rfl) dX4_deal_2 ⟨Nat.zero_le _, Nat.zero_le _⟩ rfl (fun w_1 H locs hu hw => ?_)
  rw [hu] at hw
  refine lv_aload_n hx hb dX4_deal_5 rfl (lv_at hl 0 rfl) ?_
  exact x_prop (As := []) (rest := []) hC vf_X4_66 hlocks htab hw hT (by decide) h0 rfl rfl (k_needOpenT l hl0 n t qu wh h0) ⟨rfl, rfl, Nat.le_of_ble_eq_true rfl, Nat.le_of_ble_eq_true rfl⟩ hl.1 (Nat.le_of_ble_eq_true rfl) dX4_deal_6 ⟨Nat.le_of_ble_eq_true rfl, Nat.le_of_ble_eq_true rfl⟩ rfl
set_option maxHeartbeats 4000000 in
set_option maxRecDepth 100000 in
theorem c_dealS2 (l : Launch) (hl0 : l.stackTraces = false) {D : va_G} {cI cJ cZ cD : ClassId} {ad : Nat → Nat} {sa : Nat → Nat} {w : Nat → va_E} {sz : Nat} (n t cl qu en kp : Nat) (dl ou cp ks pt : Nat → Nat) (co sh : Nat → Nat → Nat) (vs : Nat → Int64) (hok : OkS n t cl qu en kp dl ou cp ks pt co sh) (hRC : RC ad cI cJ cD w n t cl qu en kp dl ou cp ks pt co sh vs) (i : Nat) (hi1 : 1 ≤ i) (hi2 : i ≤ n) (seed : Int64) (hcl0 : cl = 0) (hdl : dl i = 1)  : MT l yX4_deal (.code yX4_deal cX4_deal 4 none) ({ frames := 6, cells := 1, slots := 6, locals := 82 }) [.ref (ad 0), .int (nI i), .long seed] D (tyL cI cJ cZ cD) ad 89 w sz sa "java/lang/IllegalStateException" := by
  refine MT.of (by decide) (Nat.le_of_ble_eq_true rfl) ?_
  intro p e s m below meth c ls hC hlocks htab hl hw hT
  obtain ⟨hx, hb, hml, hown, hts⟩ := id hC
  have hA : ∀ q, s.heap.size ≤ q → xA ad 89 s.heap.size q := fun q h => Or.inr h
  have hl : lv_has ls 4 [(0, .ref (ad 0)), (1, .int (nI i)), (2, .long seed)] := hl
  obtain ⟨⟨wh, h0, hwh⟩, ⟨df, hDa, hdf⟩, hRd, ⟨kf, pf, hKf, hPf, hky⟩, ⟨msg, bas, vf, ptf, ivf, hR, hVs, hPt, hIv, hmsg, hptv, hiv⟩, ⟨sa0, sx0, sy0, hSt⟩⟩ := id hRC
  obtain ⟨⟨hn, ht, hcl, hqu, hen, hkp⟩, hle, ⟨hqb, hkb, hcb⟩, hvals, hclv, hptl, ⟨hz1, hz2, hz3⟩⟩ := id hok
  subst hcl0
  refine lv_aload_n hx hb dX4_deal_0 rfl (lv_at hl 0 rfl) ?_
  refine lv_iload_n hx hb dX4_deal_1 rfl (lv_at hl 1 rfl) ?_
  refine x_callW0 (As := [.int (nI i)]) (rest := []) hC vf_X4_62 hw hA (by decide) h0 rfl rfl (k_needNode l n t _ qu wh hn i hi1 hi2 h0) ⟨rfl, rfl, Nat.le_of_ble_eq_true rfl, Nat.le_of_ble_eq_true rfl⟩ hl.1 (Nat.le_of_ble_eq_true rfl) dX4_deal_2 ⟨Nat.zero_le _, Nat.zero_le _⟩ rfl (fun w_1 H locs hu hw => ?_)
  rw [hu] at hw
  refine lv_aload_n hx hb dX4_deal_5 rfl (lv_at hl 0 rfl) ?_
  refine x_callW0 (As := []) (rest := []) hC vf_X4_66 hw hA (by decide) h0 rfl rfl (k_needOpen l n t qu wh h0) ⟨rfl, rfl, Nat.le_of_ble_eq_true rfl, Nat.le_of_ble_eq_true rfl⟩ hl.1 (Nat.le_of_ble_eq_true rfl) dX4_deal_6 ⟨Nat.zero_le _, Nat.zero_le _⟩ rfl (fun w_2 H locs hu hw => ?_)
  rw [hu] at hw
  obtain ⟨cm, rt, gv, hD, hCm, hRt, hGv, hval⟩ := hRd (i) (by omega)
  have hDe := hD
  rw [hdl] at hDe
  refine lv_aload_n hx hb dX4_deal_9 rfl (lv_at hl 0 rfl) ?_
  refine gf_X4_11 hx hb hts hown hw (by decide) h0 rfl dX4_deal_10 ?_
  refine lv_iload_n hx hb dX4_deal_13 rfl (lv_at hl 1 rfl) ?_
  refine x_aald hx hb hw (by decide) 3 hDa rfl (j := i) (by omega) (by decide) (hdf _ (by omega)) dX4_deal_14 ?_
  refine gf_X4_69 hx hb hts hown hw (by omega) hDe rfl dX4_deal_15 ?_
  refine lv_if_eq (tgt := 31) hx hb dX4_deal_18 (by decide) (fun q1 => absurd q1 (by decide)) (fun q1 => ?_)
  exact x_throwISE (is := 74) (text := "the node has dealt") hl0 hC hlocks htab hw hT (by decide +kernel) hl.1 dX4_deal_21 dX4_deal_24 dX4_deal_25 dX4_deal_27 dX4_deal_30 (Nat.le_of_ble_eq_true rfl) (Nat.le_of_ble_eq_true rfl) ⟨Nat.le_of_ble_eq_true rfl, Nat.le_of_ble_eq_true rfl⟩
set_option maxHeartbeats 4000000 in
set_option maxRecDepth 100000 in
theorem c_spoilA (l : Launch) (hl0 : l.stackTraces = false) {D : va_G} {cI cJ cZ cD : ClassId} {ad : Nat → Nat} {sa : Nat → Nat} {w : Nat → va_E} {sz : Nat} (n t cl qu en kp : Nat) (dl ou cp ks pt : Nat → Nat) (co sh : Nat → Nat → Nat) (vs : Nat → Int64) (hok : OkS n t cl qu en kp dl ou cp ks pt co sh) (hRC : RC ad cI cJ cD w n t cl qu en kp dl ou cp ks pt co sh vs) (x y z : Int32) (hbad : ¬ (isNd n x ∧ isNd n y ∧ isEx z))  : MT l yX4_spoil (.code yX4_spoil cX4_spoil 4 (some .int)) ({ frames := 7, cells := 1, slots := 6, locals := 111 }) [.ref (ad 0), .int x, .int y, .int z] D (tyL cI cJ cZ cD) ad 89 w sz sa "java/lang/IllegalArgumentException" := by
  refine MT.of (by decide) (Nat.le_of_ble_eq_true rfl) ?_
  intro p e s m below meth c ls hC hlocks htab hl hw hT
  obtain ⟨hx, hb, hml, hown, hts⟩ := id hC
  have hA : ∀ q, s.heap.size ≤ q → xA ad 89 s.heap.size q := fun q h => Or.inr h
  have hl : lv_has ls 4 [(0, .ref (ad 0)), (1, .int x), (2, .int y), (3, .int z)] := hl
  obtain ⟨⟨wh, h0, hwh⟩, ⟨df, hDa, hdf⟩, hRd, ⟨kf, pf, hKf, hPf, hky⟩, ⟨msg, bas, vf, ptf, ivf, hR, hVs, hPt, hIv, hmsg, hptv, hiv⟩, ⟨sa0, sx0, sy0, hSt⟩⟩ := id hRC
  obtain ⟨⟨hn, ht, hcl, hqu, hen, hkp⟩, hle, ⟨hqb, hkb, hcb⟩, hvals, hclv, hptl, ⟨hz1, hz2, hz3⟩⟩ := id hok
  by_cases c1 : isNd n x
  · skip
    obtain ⟨i, hi1, hi2, rfl⟩ := isNd_of hn c1
    refine lv_aload_n hx hb dX4_spoil_0 rfl (lv_at hl 0 rfl) ?_
    refine lv_iload_n hx hb dX4_spoil_1 rfl (lv_at hl 1 rfl) ?_
    refine x_callW0 (As := [.int (nI i)]) (rest := []) hC vf_X4_62 hw hA (by decide) h0 rfl rfl (k_needNode l n t _ qu wh hn i hi1 hi2 h0) ⟨rfl, rfl, Nat.le_of_ble_eq_true rfl, Nat.le_of_ble_eq_true rfl⟩ hl.1 (Nat.le_of_ble_eq_true rfl) dX4_spoil_2 ⟨Nat.zero_le _, Nat.zero_le _⟩ rfl (fun w_1 H locs hu hw => ?_)
    rw [hu] at hw
    by_cases c2 : isNd n y
    · skip
      obtain ⟨k, hk1, hk2, rfl⟩ := isNd_of hn c2
      refine lv_aload_n hx hb dX4_spoil_5 rfl (lv_at hl 0 rfl) ?_
      refine lv_iload_n hx hb dX4_spoil_6 rfl (lv_at hl 2 rfl) ?_
      refine x_callW0 (As := [.int (nI k)]) (rest := []) hC vf_X4_62 hw hA (by decide) h0 rfl rfl (k_needNode l n t _ qu wh hn k hk1 hk2 h0) ⟨rfl, rfl, Nat.le_of_ble_eq_true rfl, Nat.le_of_ble_eq_true rfl⟩ hl.1 (Nat.le_of_ble_eq_true rfl) dX4_spoil_7 ⟨Nat.zero_le _, Nat.zero_le _⟩ rfl (fun w_2 H locs hu hw => ?_)
      rw [hu] at hw
      refine lv_aload_n hx hb dX4_spoil_10 rfl (lv_at hl 0 rfl) ?_
      refine lv_iload_n hx hb dX4_spoil_11 rfl (lv_at hl 3 rfl) ?_
      exact x_prop (As := [.int z]) (rest := []) hC vf_X4_81 hlocks htab hw hT (by decide) h0 rfl rfl (k_needExponentT l hl0 n t cl qu wh z (fun q => hbad ⟨c1, c2, q⟩) h0) ⟨rfl, rfl, Nat.le_of_ble_eq_true rfl, Nat.le_of_ble_eq_true rfl⟩ hl.1 (Nat.le_of_ble_eq_true rfl) dX4_spoil_12 ⟨Nat.le_of_ble_eq_true rfl, Nat.le_of_ble_eq_true rfl⟩ rfl
    · skip
      refine lv_aload_n hx hb dX4_spoil_5 rfl (lv_at hl 0 rfl) ?_
      refine lv_iload_n hx hb dX4_spoil_6 rfl (lv_at hl 2 rfl) ?_
      exact x_prop (As := [.int y]) (rest := []) hC vf_X4_62 hlocks htab hw hT (by decide) h0 rfl rfl (k_needNodeT l hl0 n t cl qu wh hn y c2 h0) ⟨rfl, rfl, Nat.le_of_ble_eq_true rfl, Nat.le_of_ble_eq_true rfl⟩ hl.1 (Nat.le_of_ble_eq_true rfl) dX4_spoil_7 ⟨Nat.le_of_ble_eq_true rfl, Nat.le_of_ble_eq_true rfl⟩ rfl
  · skip
    refine lv_aload_n hx hb dX4_spoil_0 rfl (lv_at hl 0 rfl) ?_
    refine lv_iload_n hx hb dX4_spoil_1 rfl (lv_at hl 1 rfl) ?_
    exact x_prop (As := [.int x]) (rest := []) hC vf_X4_62 hlocks htab hw hT (by decide) h0 rfl rfl (k_needNodeT l hl0 n t cl qu wh hn x c1 h0) ⟨rfl, rfl, Nat.le_of_ble_eq_true rfl, Nat.le_of_ble_eq_true rfl⟩ hl.1 (Nat.le_of_ble_eq_true rfl) dX4_spoil_2 ⟨Nat.le_of_ble_eq_true rfl, Nat.le_of_ble_eq_true rfl⟩ rfl
set_option maxHeartbeats 4000000 in
set_option maxRecDepth 100000 in
theorem c_spoil (l : Launch) {D : va_G} {cI cJ cZ cD : ClassId} {ad : Nat → Nat} {w : Nat → va_E} {sz : Nat} (n t cl qu en kp : Nat) (dl ou cp ks pt : Nat → Nat) (co sh : Nat → Nat → Nat) (vs : Nat → Int64) (hok : OkS n t cl qu en kp dl ou cp ks pt co sh) (hRC : RC ad cI cJ cD w n t cl qu en kp dl ou cp ks pt co sh vs) (i k : Nat) (hi1 : 1 ≤ i) (hi2 : i ≤ n) (hk1 : 1 ≤ k) (hk2 : k ≤ n) (x : Nat) (hx0 : x < 1073741789) (hdl : dl i = 1) (hcl0 : cl = 0)  : MW l yX4_spoil (.code yX4_spoil cX4_spoil 4 (some .int)) ({ frames := 3, cells := 0, slots := 0, locals := 93 }) [.ref (ad 0), .int (nI i), .int (nI k), .int (nI x)] D (tyL cI cJ cZ cD) ad 89 w sz (some (.int (nI (sh i k)))) (fun u => (∀ z, 76 < z → u z = w z) ∧ RC ad cI cJ cD u n t cl qu en kp dl ou cp ks pt co (va_up sh i (va_up (sh i) k ((sh i k + x) % 1073741789))) vs) := by
  refine MW.of (by decide) (Nat.le_of_ble_eq_true rfl) ?_
  intro p e s m below meth c ls hC hr hlocks hl hw
  obtain ⟨hx, hb, hml, hown, hts⟩ := id hC
  have hA : ∀ q, s.heap.size ≤ q → xA ad 89 s.heap.size q := fun q h => Or.inr h
  have hl : lv_has ls 4 [(0, .ref (ad 0)), (1, .int (nI i)), (2, .int (nI k)), (3, .int (nI x))] := hl
  obtain ⟨⟨wh, h0, hwh⟩, ⟨df, hDa, hdf⟩, hRd, ⟨kf, pf, hKf, hPf, hky⟩, ⟨msg, bas, vf, ptf, ivf, hR, hVs, hPt, hIv, hmsg, hptv, hiv⟩, ⟨sa0, sx0, sy0, hSt⟩⟩ := id hRC
  obtain ⟨⟨hn, ht, hcl, hqu, hen, hkp⟩, hle, ⟨hqb, hkb, hcb⟩, hvals, hclv, hptl, ⟨hz1, hz2, hz3⟩⟩ := id hok
  subst hcl0
  refine lv_aload_n hx hb dX4_spoil_0 rfl (lv_at hl 0 rfl) ?_
  refine lv_iload_n hx hb dX4_spoil_1 rfl (lv_at hl 1 rfl) ?_
  refine x_callW0 (As := [.int (nI i)]) (rest := []) hC vf_X4_62 hw hA (by decide) h0 rfl rfl (k_needNode l n t _ qu wh hn i hi1 hi2 h0) ⟨rfl, rfl, Nat.le_of_ble_eq_true rfl, Nat.le_of_ble_eq_true rfl⟩ hl.1 (Nat.le_of_ble_eq_true rfl) dX4_spoil_2 ⟨Nat.zero_le _, Nat.zero_le _⟩ rfl (fun w_1 H locs hu hw => ?_)
  rw [hu] at hw
  refine lv_aload_n hx hb dX4_spoil_5 rfl (lv_at hl 0 rfl) ?_
  refine lv_iload_n hx hb dX4_spoil_6 rfl (lv_at hl 2 rfl) ?_
  refine x_callW0 (As := [.int (nI k)]) (rest := []) hC vf_X4_62 hw hA (by decide) h0 rfl rfl (k_needNode l n t _ qu wh hn k hk1 hk2 h0) ⟨rfl, rfl, Nat.le_of_ble_eq_true rfl, Nat.le_of_ble_eq_true rfl⟩ hl.1 (Nat.le_of_ble_eq_true rfl) dX4_spoil_7 ⟨Nat.zero_le _, Nat.zero_le _⟩ rfl (fun w_2 H locs hu hw => ?_)
  rw [hu] at hw
  refine lv_aload_n hx hb dX4_spoil_10 rfl (lv_at hl 0 rfl) ?_
  refine lv_iload_n hx hb dX4_spoil_11 rfl (lv_at hl 3 rfl) ?_
  refine x_callW0 (As := [.int (nI x)]) (rest := []) hC vf_X4_81 hw hA (by decide) h0 rfl rfl (k_needExponent l n t _ qu wh x hx0 h0) ⟨rfl, rfl, Nat.le_of_ble_eq_true rfl, Nat.le_of_ble_eq_true rfl⟩ hl.1 (Nat.le_of_ble_eq_true rfl) dX4_spoil_12 ⟨Nat.zero_le _, Nat.zero_le _⟩ rfl (fun w_3 H locs hu hw => ?_)
  rw [hu] at hw
  obtain ⟨cm, rt, gv, hD, hCm, hRt, hGv, hval⟩ := hRd (i) (by omega)
  have hDe := hD
  rw [hdl] at hDe
  refine lv_aload_n hx hb dX4_spoil_15 rfl (lv_at hl 0 rfl) ?_
  refine lv_iload_n hx hb dX4_spoil_16 rfl (lv_at hl 1 rfl) ?_
  refine x_callW0 (As := [.int (nI i)]) (rest := []) hC vf_X4_84 hw hA (by decide) h0 rfl rfl (k_needDealt l n t _ qu wh i (by omega) df hdf _ _ h0 hDa hDe) ⟨rfl, rfl, Nat.le_of_ble_eq_true rfl, Nat.le_of_ble_eq_true rfl⟩ hl.1 (Nat.le_of_ble_eq_true rfl) dX4_spoil_17 ⟨Nat.zero_le _, Nat.zero_le _⟩ rfl (fun w_4 H locs hu hw => ?_)
  rw [hu] at hw
  refine lv_aload_n hx hb dX4_spoil_20 rfl (lv_at hl 0 rfl) ?_
  refine x_callW0 (As := []) (rest := []) hC vf_X4_66 hw hA (by decide) h0 rfl rfl (k_needOpen l n t qu wh h0) ⟨rfl, rfl, Nat.le_of_ble_eq_true rfl, Nat.le_of_ble_eq_true rfl⟩ hl.1 (Nat.le_of_ble_eq_true rfl) dX4_spoil_21 ⟨Nat.zero_le _, Nat.zero_le _⟩ rfl (fun w_5 H locs hu hw => ?_)
  rw [hu] at hw
  refine lv_aload_n hx hb dX4_spoil_24 rfl (lv_at hl 0 rfl) ?_
  refine gf_X4_11 hx hb hts hown hw (by decide) h0 rfl dX4_spoil_25 ?_
  refine lv_iload_n hx hb dX4_spoil_28 rfl (lv_at hl 1 rfl) ?_
  refine x_aald hx hb hw (by decide) 3 hDa rfl (j := i) (by omega) (by decide) (hdf _ (by omega)) dX4_spoil_29 ?_
  refine lv_iload_n hx hb dX4_spoil_30 rfl (lv_at hl 2 rfl) ?_
  refine lv_iload_n hx hb dX4_spoil_31 rfl (lv_at hl 3 rfl) ?_
  obtain ⟨f1, f2⟩ := hval hi1 hi2 hdl
  have hshl := (hvals i hi1 hi2 hdl).2 k hk1 hk2
  refine x_callW1 (As := [.int (nI k), .int (nI x)]) (rest := []) hC vf_X4_87 hw hA (by omega) hDe rfl rfl (k_addToGiven l i (by omega) _ _ _ gv k x (sh i k) (by omega) hx0 hshl (f2 k hk1 hk2).2 hDe hGv) ⟨rfl, rfl, Nat.le_of_ble_eq_true rfl, Nat.le_of_ble_eq_true rfl⟩ hl.1 (Nat.le_of_ble_eq_true rfl) dX4_spoil_32 ⟨Nat.zero_le _, Nat.zero_le _⟩ rfl (fun w_6 H locs hu hw => ?_)
  have hne : ∀ z, z ≠ 5 + 4 * i → w_6 z = w z := fun z hz => by rw [hu]; exact va_up_ne _ _ hz
  refine x_wretI hx hb hr hlocks hw ⟨fun z hz => hne z (by omega), RCo.of ⟨wh, h0, hwh⟩ (hne 0 (by omega)), RCa.of ⟨df, hDa, hdf⟩ (hne 1 (by omega)), RCd.set hRd (i := i) (fun z _ _ hz => hne z (by omega)) (fun j hj => ⟨rfl, rfl, rfl, rfl, va_up_ne _ _ hj⟩) ⟨cm, rt, _, (hne _ (by omega)).trans hD, (hne _ (by omega)).trans hCm, (hne _ (by omega)).trans hRt, by rw [hu]; exact va_up_self _ _ _, fun _ _ _ => ⟨f1, fun k9 h1 h2 => ⟨(f2 k9 h1 h2).1, ?_⟩⟩⟩, RCk.of ⟨kf, pf, hKf, hPf, hky⟩ (hne 70 (by omega)) (hne 71 (by omega)), RCr.of ⟨msg, bas, vf, ptf, ivf, hR, hVs, hPt, hIv, hmsg, hptv, hiv⟩ (fun z _ _ => hne z (by omega)), RCs.of ⟨sa0, sx0, sy0, hSt⟩ (hne 76 (by omega))⟩ dX4_spoil_35
  rw [va_up_self]
  by_cases hk9 : k9 = k
  · subst hk9; rw [upd_s, va_up_self]
  · rw [upd_n _ _ hk9, va_up_ne _ _ hk9]; exact (f2 k9 h1 h2).2
set_option maxHeartbeats 4000000 in
set_option maxRecDepth 100000 in
theorem c_spoilS1 (l : Launch) (hl0 : l.stackTraces = false) {D : va_G} {cI cJ cZ cD : ClassId} {ad : Nat → Nat} {sa : Nat → Nat} {w : Nat → va_E} {sz : Nat} (n t cl qu en kp : Nat) (dl ou cp ks pt : Nat → Nat) (co sh : Nat → Nat → Nat) (vs : Nat → Int64) (hok : OkS n t cl qu en kp dl ou cp ks pt co sh) (hRC : RC ad cI cJ cD w n t cl qu en kp dl ou cp ks pt co sh vs) (i k : Nat) (hi1 : 1 ≤ i) (hi2 : i ≤ n) (hk1 : 1 ≤ k) (hk2 : k ≤ n) (x : Nat) (hx0 : x < 1073741789) (hdl : dl i = 0)  : MT l yX4_spoil (.code yX4_spoil cX4_spoil 4 (some .int)) ({ frames := 7, cells := 1, slots := 6, locals := 111 }) [.ref (ad 0), .int (nI i), .int (nI k), .int (nI x)] D (tyL cI cJ cZ cD) ad 89 w sz sa "java/lang/IllegalStateException" := by
  refine MT.of (by decide) (Nat.le_of_ble_eq_true rfl) ?_
  intro p e s m below meth c ls hC hlocks htab hl hw hT
  obtain ⟨hx, hb, hml, hown, hts⟩ := id hC
  have hA : ∀ q, s.heap.size ≤ q → xA ad 89 s.heap.size q := fun q h => Or.inr h
  have hl : lv_has ls 4 [(0, .ref (ad 0)), (1, .int (nI i)), (2, .int (nI k)), (3, .int (nI x))] := hl
  obtain ⟨⟨wh, h0, hwh⟩, ⟨df, hDa, hdf⟩, hRd, ⟨kf, pf, hKf, hPf, hky⟩, ⟨msg, bas, vf, ptf, ivf, hR, hVs, hPt, hIv, hmsg, hptv, hiv⟩, ⟨sa0, sx0, sy0, hSt⟩⟩ := id hRC
  obtain ⟨⟨hn, ht, hcl, hqu, hen, hkp⟩, hle, ⟨hqb, hkb, hcb⟩, hvals, hclv, hptl, ⟨hz1, hz2, hz3⟩⟩ := id hok
  refine lv_aload_n hx hb dX4_spoil_0 rfl (lv_at hl 0 rfl) ?_
  refine lv_iload_n hx hb dX4_spoil_1 rfl (lv_at hl 1 rfl) ?_
  refine x_callW0 (As := [.int (nI i)]) (rest := []) hC vf_X4_62 hw hA (by decide) h0 rfl rfl (k_needNode l n t _ qu wh hn i hi1 hi2 h0) ⟨rfl, rfl, Nat.le_of_ble_eq_true rfl, Nat.le_of_ble_eq_true rfl⟩ hl.1 (Nat.le_of_ble_eq_true rfl) dX4_spoil_2 ⟨Nat.zero_le _, Nat.zero_le _⟩ rfl (fun w_1 H locs hu hw => ?_)
  rw [hu] at hw
  refine lv_aload_n hx hb dX4_spoil_5 rfl (lv_at hl 0 rfl) ?_
  refine lv_iload_n hx hb dX4_spoil_6 rfl (lv_at hl 2 rfl) ?_
  refine x_callW0 (As := [.int (nI k)]) (rest := []) hC vf_X4_62 hw hA (by decide) h0 rfl rfl (k_needNode l n t _ qu wh hn k hk1 hk2 h0) ⟨rfl, rfl, Nat.le_of_ble_eq_true rfl, Nat.le_of_ble_eq_true rfl⟩ hl.1 (Nat.le_of_ble_eq_true rfl) dX4_spoil_7 ⟨Nat.zero_le _, Nat.zero_le _⟩ rfl (fun w_2 H locs hu hw => ?_)
  rw [hu] at hw
  refine lv_aload_n hx hb dX4_spoil_10 rfl (lv_at hl 0 rfl) ?_
  refine lv_iload_n hx hb dX4_spoil_11 rfl (lv_at hl 3 rfl) ?_
  refine x_callW0 (As := [.int (nI x)]) (rest := []) hC vf_X4_81 hw hA (by decide) h0 rfl rfl (k_needExponent l n t _ qu wh x hx0 h0) ⟨rfl, rfl, Nat.le_of_ble_eq_true rfl, Nat.le_of_ble_eq_true rfl⟩ hl.1 (Nat.le_of_ble_eq_true rfl) dX4_spoil_12 ⟨Nat.zero_le _, Nat.zero_le _⟩ rfl (fun w_3 H locs hu hw => ?_)
  rw [hu] at hw
  obtain ⟨cm, rt, gv, hD, hCm, hRt, hGv, hval⟩ := hRd (i) (by omega)
  have hDe := hD
  rw [hdl] at hDe
  refine lv_aload_n hx hb dX4_spoil_15 rfl (lv_at hl 0 rfl) ?_
  refine lv_iload_n hx hb dX4_spoil_16 rfl (lv_at hl 1 rfl) ?_
  exact x_prop (As := [.int (nI i)]) (rest := []) hC vf_X4_84 hlocks htab hw hT (by decide) h0 rfl rfl (k_needDealtT l hl0 n t cl qu wh i (by omega) df hdf _ _ h0 hDa hDe) ⟨rfl, rfl, Nat.le_of_ble_eq_true rfl, Nat.le_of_ble_eq_true rfl⟩ hl.1 (Nat.le_of_ble_eq_true rfl) dX4_spoil_17 ⟨Nat.le_of_ble_eq_true rfl, Nat.le_of_ble_eq_true rfl⟩ rfl
set_option maxHeartbeats 4000000 in
set_option maxRecDepth 100000 in
theorem c_spoilS2 (l : Launch) (hl0 : l.stackTraces = false) {D : va_G} {cI cJ cZ cD : ClassId} {ad : Nat → Nat} {sa : Nat → Nat} {w : Nat → va_E} {sz : Nat} (n t cl qu en kp : Nat) (dl ou cp ks pt : Nat → Nat) (co sh : Nat → Nat → Nat) (vs : Nat → Int64) (hok : OkS n t cl qu en kp dl ou cp ks pt co sh) (hRC : RC ad cI cJ cD w n t cl qu en kp dl ou cp ks pt co sh vs) (i k : Nat) (hi1 : 1 ≤ i) (hi2 : i ≤ n) (hk1 : 1 ≤ k) (hk2 : k ≤ n) (x : Nat) (hx0 : x < 1073741789) (hdl : dl i = 1) (hcl0 : cl = 1)  : MT l yX4_spoil (.code yX4_spoil cX4_spoil 4 (some .int)) ({ frames := 7, cells := 1, slots := 6, locals := 110 }) [.ref (ad 0), .int (nI i), .int (nI k), .int (nI x)] D (tyL cI cJ cZ cD) ad 89 w sz sa "java/lang/IllegalStateException" := by
  refine MT.of (by decide) (Nat.le_of_ble_eq_true rfl) ?_
  intro p e s m below meth c ls hC hlocks htab hl hw hT
  obtain ⟨hx, hb, hml, hown, hts⟩ := id hC
  have hA : ∀ q, s.heap.size ≤ q → xA ad 89 s.heap.size q := fun q h => Or.inr h
  have hl : lv_has ls 4 [(0, .ref (ad 0)), (1, .int (nI i)), (2, .int (nI k)), (3, .int (nI x))] := hl
  obtain ⟨⟨wh, h0, hwh⟩, ⟨df, hDa, hdf⟩, hRd, ⟨kf, pf, hKf, hPf, hky⟩, ⟨msg, bas, vf, ptf, ivf, hR, hVs, hPt, hIv, hmsg, hptv, hiv⟩, ⟨sa0, sx0, sy0, hSt⟩⟩ := id hRC
  obtain ⟨⟨hn, ht, hcl, hqu, hen, hkp⟩, hle, ⟨hqb, hkb, hcb⟩, hvals, hclv, hptl, ⟨hz1, hz2, hz3⟩⟩ := id hok
  subst hcl0
  refine lv_aload_n hx hb dX4_spoil_0 rfl (lv_at hl 0 rfl) ?_
  refine lv_iload_n hx hb dX4_spoil_1 rfl (lv_at hl 1 rfl) ?_
  refine x_callW0 (As := [.int (nI i)]) (rest := []) hC vf_X4_62 hw hA (by decide) h0 rfl rfl (k_needNode l n t _ qu wh hn i hi1 hi2 h0) ⟨rfl, rfl, Nat.le_of_ble_eq_true rfl, Nat.le_of_ble_eq_true rfl⟩ hl.1 (Nat.le_of_ble_eq_true rfl) dX4_spoil_2 ⟨Nat.zero_le _, Nat.zero_le _⟩ rfl (fun w_1 H locs hu hw => ?_)
  rw [hu] at hw
  refine lv_aload_n hx hb dX4_spoil_5 rfl (lv_at hl 0 rfl) ?_
  refine lv_iload_n hx hb dX4_spoil_6 rfl (lv_at hl 2 rfl) ?_
  refine x_callW0 (As := [.int (nI k)]) (rest := []) hC vf_X4_62 hw hA (by decide) h0 rfl rfl (k_needNode l n t _ qu wh hn k hk1 hk2 h0) ⟨rfl, rfl, Nat.le_of_ble_eq_true rfl, Nat.le_of_ble_eq_true rfl⟩ hl.1 (Nat.le_of_ble_eq_true rfl) dX4_spoil_7 ⟨Nat.zero_le _, Nat.zero_le _⟩ rfl (fun w_2 H locs hu hw => ?_)
  rw [hu] at hw
  refine lv_aload_n hx hb dX4_spoil_10 rfl (lv_at hl 0 rfl) ?_
  refine lv_iload_n hx hb dX4_spoil_11 rfl (lv_at hl 3 rfl) ?_
  refine x_callW0 (As := [.int (nI x)]) (rest := []) hC vf_X4_81 hw hA (by decide) h0 rfl rfl (k_needExponent l n t _ qu wh x hx0 h0) ⟨rfl, rfl, Nat.le_of_ble_eq_true rfl, Nat.le_of_ble_eq_true rfl⟩ hl.1 (Nat.le_of_ble_eq_true rfl) dX4_spoil_12 ⟨Nat.zero_le _, Nat.zero_le _⟩ rfl (fun w_3 H locs hu hw => ?_)
  rw [hu] at hw
  obtain ⟨cm, rt, gv, hD, hCm, hRt, hGv, hval⟩ := hRd (i) (by omega)
  have hDe := hD
  rw [hdl] at hDe
  refine lv_aload_n hx hb dX4_spoil_15 rfl (lv_at hl 0 rfl) ?_
  refine lv_iload_n hx hb dX4_spoil_16 rfl (lv_at hl 1 rfl) ?_
  refine x_callW0 (As := [.int (nI i)]) (rest := []) hC vf_X4_84 hw hA (by decide) h0 rfl rfl (k_needDealt l n t _ qu wh i (by omega) df hdf _ _ h0 hDa hDe) ⟨rfl, rfl, Nat.le_of_ble_eq_true rfl, Nat.le_of_ble_eq_true rfl⟩ hl.1 (Nat.le_of_ble_eq_true rfl) dX4_spoil_17 ⟨Nat.zero_le _, Nat.zero_le _⟩ rfl (fun w_4 H locs hu hw => ?_)
  rw [hu] at hw
  refine lv_aload_n hx hb dX4_spoil_20 rfl (lv_at hl 0 rfl) ?_
  exact x_prop (As := []) (rest := []) hC vf_X4_66 hlocks htab hw hT (by decide) h0 rfl rfl (k_needOpenT l hl0 n t qu wh h0) ⟨rfl, rfl, Nat.le_of_ble_eq_true rfl, Nat.le_of_ble_eq_true rfl⟩ hl.1 (Nat.le_of_ble_eq_true rfl) dX4_spoil_21 ⟨Nat.le_of_ble_eq_true rfl, Nat.le_of_ble_eq_true rfl⟩ rfl
set_option maxHeartbeats 4000000 in
set_option maxRecDepth 100000 in
theorem c_commitment (l : Launch) {D : va_G} {cI cJ cZ cD : ClassId} {ad : Nat → Nat} {w : Nat → va_E} {sz : Nat} (n t cl qu en kp : Nat) (dl ou cp ks pt : Nat → Nat) (co sh : Nat → Nat → Nat) (vs : Nat → Int64) (hok : OkS n t cl qu en kp dl ou cp ks pt co sh) (hRC : RC ad cI cJ cD w n t cl qu en kp dl ou cp ks pt co sh vs) (i j : Nat) (hi1 : 1 ≤ i) (hi2 : i ≤ n) (hj : j < t) (hdl : dl i = 1)  : MW l yX4_commitment (.code yX4_commitment cX4_commitment 3 (some .int)) ({ frames := 1, cells := 0, slots := 0, locals := 29 }) [.ref (ad 0), .int (nI i), .int (nI j)] D (tyL cI cJ cZ cD) ad 89 w sz (some (.int (nI (4 ^ co i j % 2147483579)))) (fun u => u = w) := by
  refine MW.of (by decide) (Nat.le_of_ble_eq_true rfl) ?_
  intro p e s m below meth c ls hC hr hlocks hl hw
  obtain ⟨hx, hb, hml, hown, hts⟩ := id hC
  have hA : ∀ q, s.heap.size ≤ q → xA ad 89 s.heap.size q := fun q h => Or.inr h
  have hl : lv_has ls 3 [(0, .ref (ad 0)), (1, .int (nI i)), (2, .int (nI j))] := hl
  obtain ⟨⟨wh, h0, hwh⟩, ⟨df, hDa, hdf⟩, hRd, ⟨kf, pf, hKf, hPf, hky⟩, ⟨msg, bas, vf, ptf, ivf, hR, hVs, hPt, hIv, hmsg, hptv, hiv⟩, ⟨sa0, sx0, sy0, hSt⟩⟩ := id hRC
  obtain ⟨⟨hn, ht, hcl, hqu, hen, hkp⟩, hle, ⟨hqb, hkb, hcb⟩, hvals, hclv, hptl, ⟨hz1, hz2, hz3⟩⟩ := id hok
  refine lv_aload_n hx hb dX4_commitment_0 rfl (lv_at hl 0 rfl) ?_
  refine lv_iload_n hx hb dX4_commitment_1 rfl (lv_at hl 1 rfl) ?_
  refine x_callW0 (As := [.int (nI i)]) (rest := []) hC vf_X4_62 hw hA (by decide) h0 rfl rfl (k_needNode l n t _ qu wh hn i hi1 hi2 h0) ⟨rfl, rfl, Nat.le_of_ble_eq_true rfl, Nat.le_of_ble_eq_true rfl⟩ hl.1 (Nat.le_of_ble_eq_true rfl) dX4_commitment_2 ⟨Nat.zero_le _, Nat.zero_le _⟩ rfl (fun w_1 H locs hu hw => ?_)
  rw [hu] at hw
  refine lv_iload_n hx hb dX4_commitment_5 rfl (lv_at hl 2 rfl) ?_
  refine lv_if_lt (tgt := 17) hx hb dX4_commitment_6 (by decide) (fun q1 => absurd q1 (nI_pos (by omega))) (fun q1 => ?_)
  refine lv_iload_n hx hb dX4_commitment_9 rfl (lv_at hl 2 rfl) ?_
  refine lv_aload_n hx hb dX4_commitment_10 rfl (lv_at hl 0 rfl) ?_
  refine gf_X4_48 hx hb hts hown hw (by decide) h0 rfl dX4_commitment_11 ?_
  refine lv_icmp_lt (tgt := 27) hx hb dX4_commitment_14 (by decide) (fun q2 => ?_) (fun q2 => absurd (nI_lt (by omega) (by omega)) q2)
  obtain ⟨cm, rt, gv, hD, hCm, hRt, hGv, hval⟩ := hRd (i) (by omega)
  have hDe := hD
  rw [hdl] at hDe
  refine lv_aload_n hx hb dX4_commitment_27 rfl (lv_at hl 0 rfl) ?_
  refine lv_iload_n hx hb dX4_commitment_28 rfl (lv_at hl 1 rfl) ?_
  refine x_callW0 (As := [.int (nI i)]) (rest := []) hC vf_X4_84 hw hA (by decide) h0 rfl rfl (k_needDealt l n t _ qu wh i (by omega) df hdf _ _ h0 hDa hDe) ⟨rfl, rfl, Nat.le_of_ble_eq_true rfl, Nat.le_of_ble_eq_true rfl⟩ hl.1 (Nat.le_of_ble_eq_true rfl) dX4_commitment_29 ⟨Nat.zero_le _, Nat.zero_le _⟩ rfl (fun w_2 H locs hu hw => ?_)
  rw [hu] at hw
  refine lv_aload_n hx hb dX4_commitment_32 rfl (lv_at hl 0 rfl) ?_
  refine gf_X4_11 hx hb hts hown hw (by decide) h0 rfl dX4_commitment_33 ?_
  refine lv_iload_n hx hb dX4_commitment_36 rfl (lv_at hl 1 rfl) ?_
  refine x_aald hx hb hw (by decide) 3 hDa rfl (j := i) (by omega) (by decide) (hdf _ (by omega)) dX4_commitment_37 ?_
  refine gf_X4_93 hx hb hts hown hw (by omega) hDe rfl dX4_commitment_38 ?_
  refine lv_iload_n hx hb dX4_commitment_41 rfl (lv_at hl 2 rfl) ?_
  obtain ⟨f1, f2⟩ := hval hi1 hi2 hdl
  refine x_iald hx hb hw (by omega) 0 hCm rfl (j := j) (by omega) (by decide) (f1 j hj) dX4_commitment_42 ?_
  exact x_wretI hx hb hr hlocks hw rfl dX4_commitment_43
set_option maxHeartbeats 4000000 in
set_option maxRecDepth 100000 in
theorem c_commitmentA (l : Launch) (hl0 : l.stackTraces = false) {D : va_G} {cI cJ cZ cD : ClassId} {ad : Nat → Nat} {sa : Nat → Nat} {w : Nat → va_E} {sz : Nat} (n t cl qu en kp : Nat) (dl ou cp ks pt : Nat → Nat) (co sh : Nat → Nat → Nat) (vs : Nat → Int64) (hok : OkS n t cl qu en kp dl ou cp ks pt co sh) (hRC : RC ad cI cJ cD w n t cl qu en kp dl ou cp ks pt co sh vs) (x y : Int32) (hbad : ¬ (isNd n x ∧ ¬ y < 0 ∧ y < nI t))  : MT l yX4_commitment (.code yX4_commitment cX4_commitment 3 (some .int)) ({ frames := 7, cells := 1, slots := 6, locals := 111 }) [.ref (ad 0), .int x, .int y] D (tyL cI cJ cZ cD) ad 89 w sz sa "java/lang/IllegalArgumentException" := by
  refine MT.of (by decide) (Nat.le_of_ble_eq_true rfl) ?_
  intro p e s m below meth c ls hC hlocks htab hl hw hT
  obtain ⟨hx, hb, hml, hown, hts⟩ := id hC
  have hA : ∀ q, s.heap.size ≤ q → xA ad 89 s.heap.size q := fun q h => Or.inr h
  have hl : lv_has ls 3 [(0, .ref (ad 0)), (1, .int x), (2, .int y)] := hl
  obtain ⟨⟨wh, h0, hwh⟩, ⟨df, hDa, hdf⟩, hRd, ⟨kf, pf, hKf, hPf, hky⟩, ⟨msg, bas, vf, ptf, ivf, hR, hVs, hPt, hIv, hmsg, hptv, hiv⟩, ⟨sa0, sx0, sy0, hSt⟩⟩ := id hRC
  obtain ⟨⟨hn, ht, hcl, hqu, hen, hkp⟩, hle, ⟨hqb, hkb, hcb⟩, hvals, hclv, hptl, ⟨hz1, hz2, hz3⟩⟩ := id hok
  by_cases c1 : isNd n x
  · skip
    obtain ⟨i, hi1, hi2, rfl⟩ := isNd_of hn c1
    refine lv_aload_n hx hb dX4_commitment_0 rfl (lv_at hl 0 rfl) ?_
    refine lv_iload_n hx hb dX4_commitment_1 rfl (lv_at hl 1 rfl) ?_
    refine x_callW0 (As := [.int (nI i)]) (rest := []) hC vf_X4_62 hw hA (by decide) h0 rfl rfl (k_needNode l n t _ qu wh hn i hi1 hi2 h0) ⟨rfl, rfl, Nat.le_of_ble_eq_true rfl, Nat.le_of_ble_eq_true rfl⟩ hl.1 (Nat.le_of_ble_eq_true rfl) dX4_commitment_2 ⟨Nat.zero_le _, Nat.zero_le _⟩ rfl (fun w_1 H locs hu hw => ?_)
    rw [hu] at hw
    refine lv_iload_n hx hb dX4_commitment_5 rfl (lv_at hl 2 rfl) ?_
    refine lv_if_lt (tgt := 17) hx hb dX4_commitment_6 (by decide) (fun q1 => ?_) (fun q1 => ?_)
    · skip
      exact x_throwIAE (is := 91) (text := "j is not 0 .. t - 1") hl0 hC hlocks htab hw hT (by decide +kernel) hl.1 dX4_commitment_17 dX4_commitment_20 dX4_commitment_21 dX4_commitment_23 dX4_commitment_26 (Nat.le_of_ble_eq_true rfl) (Nat.le_of_ble_eq_true rfl) ⟨Nat.le_of_ble_eq_true rfl, Nat.le_of_ble_eq_true rfl⟩
    · skip
      refine lv_iload_n hx hb dX4_commitment_9 rfl (lv_at hl 2 rfl) ?_
      refine lv_aload_n hx hb dX4_commitment_10 rfl (lv_at hl 0 rfl) ?_
      refine gf_X4_48 hx hb hts hown hw (by decide) h0 rfl dX4_commitment_11 ?_
      refine lv_icmp_lt (tgt := 27) hx hb dX4_commitment_14 (by decide) (fun q2 => absurd q2 (fun q => hbad ⟨c1, q1, q⟩)) (fun q2 => ?_)
      exact x_throwIAE (is := 91) (text := "j is not 0 .. t - 1") hl0 hC hlocks htab hw hT (by decide +kernel) hl.1 dX4_commitment_17 dX4_commitment_20 dX4_commitment_21 dX4_commitment_23 dX4_commitment_26 (Nat.le_of_ble_eq_true rfl) (Nat.le_of_ble_eq_true rfl) ⟨Nat.le_of_ble_eq_true rfl, Nat.le_of_ble_eq_true rfl⟩
  · skip
    refine lv_aload_n hx hb dX4_commitment_0 rfl (lv_at hl 0 rfl) ?_
    refine lv_iload_n hx hb dX4_commitment_1 rfl (lv_at hl 1 rfl) ?_
    exact x_prop (As := [.int x]) (rest := []) hC vf_X4_62 hlocks htab hw hT (by decide) h0 rfl rfl (k_needNodeT l hl0 n t cl qu wh hn x c1 h0) ⟨rfl, rfl, Nat.le_of_ble_eq_true rfl, Nat.le_of_ble_eq_true rfl⟩ hl.1 (Nat.le_of_ble_eq_true rfl) dX4_commitment_2 ⟨Nat.le_of_ble_eq_true rfl, Nat.le_of_ble_eq_true rfl⟩ rfl
set_option maxHeartbeats 4000000 in
set_option maxRecDepth 100000 in
theorem c_commitmentS (l : Launch) (hl0 : l.stackTraces = false) {D : va_G} {cI cJ cZ cD : ClassId} {ad : Nat → Nat} {sa : Nat → Nat} {w : Nat → va_E} {sz : Nat} (n t cl qu en kp : Nat) (dl ou cp ks pt : Nat → Nat) (co sh : Nat → Nat → Nat) (vs : Nat → Int64) (hok : OkS n t cl qu en kp dl ou cp ks pt co sh) (hRC : RC ad cI cJ cD w n t cl qu en kp dl ou cp ks pt co sh vs) (i j : Nat) (hi1 : 1 ≤ i) (hi2 : i ≤ n) (hj : j < t) (hdl : dl i = 0)  : MT l yX4_commitment (.code yX4_commitment cX4_commitment 3 (some .int)) ({ frames := 7, cells := 1, slots := 6, locals := 111 }) [.ref (ad 0), .int (nI i), .int (nI j)] D (tyL cI cJ cZ cD) ad 89 w sz sa "java/lang/IllegalStateException" := by
  refine MT.of (by decide) (Nat.le_of_ble_eq_true rfl) ?_
  intro p e s m below meth c ls hC hlocks htab hl hw hT
  obtain ⟨hx, hb, hml, hown, hts⟩ := id hC
  have hA : ∀ q, s.heap.size ≤ q → xA ad 89 s.heap.size q := fun q h => Or.inr h
  have hl : lv_has ls 3 [(0, .ref (ad 0)), (1, .int (nI i)), (2, .int (nI j))] := hl
  obtain ⟨⟨wh, h0, hwh⟩, ⟨df, hDa, hdf⟩, hRd, ⟨kf, pf, hKf, hPf, hky⟩, ⟨msg, bas, vf, ptf, ivf, hR, hVs, hPt, hIv, hmsg, hptv, hiv⟩, ⟨sa0, sx0, sy0, hSt⟩⟩ := id hRC
  obtain ⟨⟨hn, ht, hcl, hqu, hen, hkp⟩, hle, ⟨hqb, hkb, hcb⟩, hvals, hclv, hptl, ⟨hz1, hz2, hz3⟩⟩ := id hok
  refine lv_aload_n hx hb dX4_commitment_0 rfl (lv_at hl 0 rfl) ?_
  refine lv_iload_n hx hb dX4_commitment_1 rfl (lv_at hl 1 rfl) ?_
  refine x_callW0 (As := [.int (nI i)]) (rest := []) hC vf_X4_62 hw hA (by decide) h0 rfl rfl (k_needNode l n t _ qu wh hn i hi1 hi2 h0) ⟨rfl, rfl, Nat.le_of_ble_eq_true rfl, Nat.le_of_ble_eq_true rfl⟩ hl.1 (Nat.le_of_ble_eq_true rfl) dX4_commitment_2 ⟨Nat.zero_le _, Nat.zero_le _⟩ rfl (fun w_1 H locs hu hw => ?_)
  rw [hu] at hw
  refine lv_iload_n hx hb dX4_commitment_5 rfl (lv_at hl 2 rfl) ?_
  refine lv_if_lt (tgt := 17) hx hb dX4_commitment_6 (by decide) (fun q1 => absurd q1 (nI_pos (by omega))) (fun q1 => ?_)
  refine lv_iload_n hx hb dX4_commitment_9 rfl (lv_at hl 2 rfl) ?_
  refine lv_aload_n hx hb dX4_commitment_10 rfl (lv_at hl 0 rfl) ?_
  refine gf_X4_48 hx hb hts hown hw (by decide) h0 rfl dX4_commitment_11 ?_
  refine lv_icmp_lt (tgt := 27) hx hb dX4_commitment_14 (by decide) (fun q2 => ?_) (fun q2 => absurd (nI_lt (by omega) (by omega)) q2)
  obtain ⟨cm, rt, gv, hD, hCm, hRt, hGv, hval⟩ := hRd (i) (by omega)
  have hDe := hD
  rw [hdl] at hDe
  refine lv_aload_n hx hb dX4_commitment_27 rfl (lv_at hl 0 rfl) ?_
  refine lv_iload_n hx hb dX4_commitment_28 rfl (lv_at hl 1 rfl) ?_
  exact x_prop (As := [.int (nI i)]) (rest := []) hC vf_X4_84 hlocks htab hw hT (by decide) h0 rfl rfl (k_needDealtT l hl0 n t cl qu wh i (by omega) df hdf _ _ h0 hDa hDe) ⟨rfl, rfl, Nat.le_of_ble_eq_true rfl, Nat.le_of_ble_eq_true rfl⟩ hl.1 (Nat.le_of_ble_eq_true rfl) dX4_commitment_29 ⟨Nat.le_of_ble_eq_true rfl, Nat.le_of_ble_eq_true rfl⟩ rfl
set_option maxHeartbeats 4000000 in
set_option maxRecDepth 100000 in
theorem c_share (l : Launch) {D : va_G} {cI cJ cZ cD : ClassId} {ad : Nat → Nat} {w : Nat → va_E} {sz : Nat} (n t cl qu en kp : Nat) (dl ou cp ks pt : Nat → Nat) (co sh : Nat → Nat → Nat) (vs : Nat → Int64) (hok : OkS n t cl qu en kp dl ou cp ks pt co sh) (hRC : RC ad cI cJ cD w n t cl qu en kp dl ou cp ks pt co sh vs) (i k : Nat) (hi1 : 1 ≤ i) (hi2 : i ≤ n) (hk1 : 1 ≤ k) (hk2 : k ≤ n) (hdl : dl i = 1)  : MW l yX4_share (.code yX4_share cX4_share 3 (some .int)) ({ frames := 1, cells := 0, slots := 0, locals := 29 }) [.ref (ad 0), .int (nI i), .int (nI k)] D (tyL cI cJ cZ cD) ad 89 w sz (some (.int (nI (sh i k)))) (fun u => u = w) := by
  refine MW.of (by decide) (Nat.le_of_ble_eq_true rfl) ?_
  intro p e s m below meth c ls hC hr hlocks hl hw
  obtain ⟨hx, hb, hml, hown, hts⟩ := id hC
  have hA : ∀ q, s.heap.size ≤ q → xA ad 89 s.heap.size q := fun q h => Or.inr h
  have hl : lv_has ls 3 [(0, .ref (ad 0)), (1, .int (nI i)), (2, .int (nI k))] := hl
  obtain ⟨⟨wh, h0, hwh⟩, ⟨df, hDa, hdf⟩, hRd, ⟨kf, pf, hKf, hPf, hky⟩, ⟨msg, bas, vf, ptf, ivf, hR, hVs, hPt, hIv, hmsg, hptv, hiv⟩, ⟨sa0, sx0, sy0, hSt⟩⟩ := id hRC
  obtain ⟨⟨hn, ht, hcl, hqu, hen, hkp⟩, hle, ⟨hqb, hkb, hcb⟩, hvals, hclv, hptl, ⟨hz1, hz2, hz3⟩⟩ := id hok
  refine lv_aload_n hx hb dX4_share_0 rfl (lv_at hl 0 rfl) ?_
  refine lv_iload_n hx hb dX4_share_1 rfl (lv_at hl 1 rfl) ?_
  refine x_callW0 (As := [.int (nI i)]) (rest := []) hC vf_X4_62 hw hA (by decide) h0 rfl rfl (k_needNode l n t _ qu wh hn i hi1 hi2 h0) ⟨rfl, rfl, Nat.le_of_ble_eq_true rfl, Nat.le_of_ble_eq_true rfl⟩ hl.1 (Nat.le_of_ble_eq_true rfl) dX4_share_2 ⟨Nat.zero_le _, Nat.zero_le _⟩ rfl (fun w_1 H locs hu hw => ?_)
  rw [hu] at hw
  refine lv_aload_n hx hb dX4_share_5 rfl (lv_at hl 0 rfl) ?_
  refine lv_iload_n hx hb dX4_share_6 rfl (lv_at hl 2 rfl) ?_
  refine x_callW0 (As := [.int (nI k)]) (rest := []) hC vf_X4_62 hw hA (by decide) h0 rfl rfl (k_needNode l n t _ qu wh hn k hk1 hk2 h0) ⟨rfl, rfl, Nat.le_of_ble_eq_true rfl, Nat.le_of_ble_eq_true rfl⟩ hl.1 (Nat.le_of_ble_eq_true rfl) dX4_share_7 ⟨Nat.zero_le _, Nat.zero_le _⟩ rfl (fun w_2 H locs hu hw => ?_)
  rw [hu] at hw
  obtain ⟨cm, rt, gv, hD, hCm, hRt, hGv, hval⟩ := hRd (i) (by omega)
  have hDe := hD
  rw [hdl] at hDe
  refine lv_aload_n hx hb dX4_share_10 rfl (lv_at hl 0 rfl) ?_
  refine lv_iload_n hx hb dX4_share_11 rfl (lv_at hl 1 rfl) ?_
  refine x_callW0 (As := [.int (nI i)]) (rest := []) hC vf_X4_84 hw hA (by decide) h0 rfl rfl (k_needDealt l n t _ qu wh i (by omega) df hdf _ _ h0 hDa hDe) ⟨rfl, rfl, Nat.le_of_ble_eq_true rfl, Nat.le_of_ble_eq_true rfl⟩ hl.1 (Nat.le_of_ble_eq_true rfl) dX4_share_12 ⟨Nat.zero_le _, Nat.zero_le _⟩ rfl (fun w_3 H locs hu hw => ?_)
  rw [hu] at hw
  refine lv_aload_n hx hb dX4_share_15 rfl (lv_at hl 0 rfl) ?_
  refine gf_X4_11 hx hb hts hown hw (by decide) h0 rfl dX4_share_16 ?_
  refine lv_iload_n hx hb dX4_share_19 rfl (lv_at hl 1 rfl) ?_
  refine x_aald hx hb hw (by decide) 3 hDa rfl (j := i) (by omega) (by decide) (hdf _ (by omega)) dX4_share_20 ?_
  refine gf_X4_96 hx hb hts hown hw (by omega) hDe rfl dX4_share_21 ?_
  refine lv_iload_n hx hb dX4_share_24 rfl (lv_at hl 2 rfl) ?_
  obtain ⟨f1, f2⟩ := hval hi1 hi2 hdl
  refine x_iald hx hb hw (by omega) 0 hGv rfl (j := k) (by omega) (by decide) (f2 k hk1 hk2).2 dX4_share_25 ?_
  exact x_wretI hx hb hr hlocks hw rfl dX4_share_26
set_option maxHeartbeats 4000000 in
set_option maxRecDepth 100000 in
theorem c_shareA (l : Launch) (hl0 : l.stackTraces = false) {D : va_G} {cI cJ cZ cD : ClassId} {ad : Nat → Nat} {sa : Nat → Nat} {w : Nat → va_E} {sz : Nat} (n t cl qu en kp : Nat) (dl ou cp ks pt : Nat → Nat) (co sh : Nat → Nat → Nat) (vs : Nat → Int64) (hok : OkS n t cl qu en kp dl ou cp ks pt co sh) (hRC : RC ad cI cJ cD w n t cl qu en kp dl ou cp ks pt co sh vs) (x y : Int32) (hbad : ¬ (isNd n x ∧ isNd n y))  : MT l yX4_share (.code yX4_share cX4_share 3 (some .int)) ({ frames := 7, cells := 1, slots := 6, locals := 111 }) [.ref (ad 0), .int x, .int y] D (tyL cI cJ cZ cD) ad 89 w sz sa "java/lang/IllegalArgumentException" := by
  refine MT.of (by decide) (Nat.le_of_ble_eq_true rfl) ?_
  intro p e s m below meth c ls hC hlocks htab hl hw hT
  obtain ⟨hx, hb, hml, hown, hts⟩ := id hC
  have hA : ∀ q, s.heap.size ≤ q → xA ad 89 s.heap.size q := fun q h => Or.inr h
  have hl : lv_has ls 3 [(0, .ref (ad 0)), (1, .int x), (2, .int y)] := hl
  obtain ⟨⟨wh, h0, hwh⟩, ⟨df, hDa, hdf⟩, hRd, ⟨kf, pf, hKf, hPf, hky⟩, ⟨msg, bas, vf, ptf, ivf, hR, hVs, hPt, hIv, hmsg, hptv, hiv⟩, ⟨sa0, sx0, sy0, hSt⟩⟩ := id hRC
  obtain ⟨⟨hn, ht, hcl, hqu, hen, hkp⟩, hle, ⟨hqb, hkb, hcb⟩, hvals, hclv, hptl, ⟨hz1, hz2, hz3⟩⟩ := id hok
  by_cases c1 : isNd n x
  · skip
    obtain ⟨i, hi1, hi2, rfl⟩ := isNd_of hn c1
    refine lv_aload_n hx hb dX4_share_0 rfl (lv_at hl 0 rfl) ?_
    refine lv_iload_n hx hb dX4_share_1 rfl (lv_at hl 1 rfl) ?_
    refine x_callW0 (As := [.int (nI i)]) (rest := []) hC vf_X4_62 hw hA (by decide) h0 rfl rfl (k_needNode l n t _ qu wh hn i hi1 hi2 h0) ⟨rfl, rfl, Nat.le_of_ble_eq_true rfl, Nat.le_of_ble_eq_true rfl⟩ hl.1 (Nat.le_of_ble_eq_true rfl) dX4_share_2 ⟨Nat.zero_le _, Nat.zero_le _⟩ rfl (fun w_1 H locs hu hw => ?_)
    rw [hu] at hw
    refine lv_aload_n hx hb dX4_share_5 rfl (lv_at hl 0 rfl) ?_
    refine lv_iload_n hx hb dX4_share_6 rfl (lv_at hl 2 rfl) ?_
    exact x_prop (As := [.int y]) (rest := []) hC vf_X4_62 hlocks htab hw hT (by decide) h0 rfl rfl (k_needNodeT l hl0 n t cl qu wh hn y (fun q => hbad ⟨c1, q⟩) h0) ⟨rfl, rfl, Nat.le_of_ble_eq_true rfl, Nat.le_of_ble_eq_true rfl⟩ hl.1 (Nat.le_of_ble_eq_true rfl) dX4_share_7 ⟨Nat.le_of_ble_eq_true rfl, Nat.le_of_ble_eq_true rfl⟩ rfl
  · skip
    refine lv_aload_n hx hb dX4_share_0 rfl (lv_at hl 0 rfl) ?_
    refine lv_iload_n hx hb dX4_share_1 rfl (lv_at hl 1 rfl) ?_
    exact x_prop (As := [.int x]) (rest := []) hC vf_X4_62 hlocks htab hw hT (by decide) h0 rfl rfl (k_needNodeT l hl0 n t cl qu wh hn x c1 h0) ⟨rfl, rfl, Nat.le_of_ble_eq_true rfl, Nat.le_of_ble_eq_true rfl⟩ hl.1 (Nat.le_of_ble_eq_true rfl) dX4_share_2 ⟨Nat.le_of_ble_eq_true rfl, Nat.le_of_ble_eq_true rfl⟩ rfl
set_option maxHeartbeats 4000000 in
set_option maxRecDepth 100000 in
theorem c_shareS (l : Launch) (hl0 : l.stackTraces = false) {D : va_G} {cI cJ cZ cD : ClassId} {ad : Nat → Nat} {sa : Nat → Nat} {w : Nat → va_E} {sz : Nat} (n t cl qu en kp : Nat) (dl ou cp ks pt : Nat → Nat) (co sh : Nat → Nat → Nat) (vs : Nat → Int64) (hok : OkS n t cl qu en kp dl ou cp ks pt co sh) (hRC : RC ad cI cJ cD w n t cl qu en kp dl ou cp ks pt co sh vs) (i k : Nat) (hi1 : 1 ≤ i) (hi2 : i ≤ n) (hk1 : 1 ≤ k) (hk2 : k ≤ n) (hdl : dl i = 0)  : MT l yX4_share (.code yX4_share cX4_share 3 (some .int)) ({ frames := 7, cells := 1, slots := 6, locals := 111 }) [.ref (ad 0), .int (nI i), .int (nI k)] D (tyL cI cJ cZ cD) ad 89 w sz sa "java/lang/IllegalStateException" := by
  refine MT.of (by decide) (Nat.le_of_ble_eq_true rfl) ?_
  intro p e s m below meth c ls hC hlocks htab hl hw hT
  obtain ⟨hx, hb, hml, hown, hts⟩ := id hC
  have hA : ∀ q, s.heap.size ≤ q → xA ad 89 s.heap.size q := fun q h => Or.inr h
  have hl : lv_has ls 3 [(0, .ref (ad 0)), (1, .int (nI i)), (2, .int (nI k))] := hl
  obtain ⟨⟨wh, h0, hwh⟩, ⟨df, hDa, hdf⟩, hRd, ⟨kf, pf, hKf, hPf, hky⟩, ⟨msg, bas, vf, ptf, ivf, hR, hVs, hPt, hIv, hmsg, hptv, hiv⟩, ⟨sa0, sx0, sy0, hSt⟩⟩ := id hRC
  obtain ⟨⟨hn, ht, hcl, hqu, hen, hkp⟩, hle, ⟨hqb, hkb, hcb⟩, hvals, hclv, hptl, ⟨hz1, hz2, hz3⟩⟩ := id hok
  refine lv_aload_n hx hb dX4_share_0 rfl (lv_at hl 0 rfl) ?_
  refine lv_iload_n hx hb dX4_share_1 rfl (lv_at hl 1 rfl) ?_
  refine x_callW0 (As := [.int (nI i)]) (rest := []) hC vf_X4_62 hw hA (by decide) h0 rfl rfl (k_needNode l n t _ qu wh hn i hi1 hi2 h0) ⟨rfl, rfl, Nat.le_of_ble_eq_true rfl, Nat.le_of_ble_eq_true rfl⟩ hl.1 (Nat.le_of_ble_eq_true rfl) dX4_share_2 ⟨Nat.zero_le _, Nat.zero_le _⟩ rfl (fun w_1 H locs hu hw => ?_)
  rw [hu] at hw
  refine lv_aload_n hx hb dX4_share_5 rfl (lv_at hl 0 rfl) ?_
  refine lv_iload_n hx hb dX4_share_6 rfl (lv_at hl 2 rfl) ?_
  refine x_callW0 (As := [.int (nI k)]) (rest := []) hC vf_X4_62 hw hA (by decide) h0 rfl rfl (k_needNode l n t _ qu wh hn k hk1 hk2 h0) ⟨rfl, rfl, Nat.le_of_ble_eq_true rfl, Nat.le_of_ble_eq_true rfl⟩ hl.1 (Nat.le_of_ble_eq_true rfl) dX4_share_7 ⟨Nat.zero_le _, Nat.zero_le _⟩ rfl (fun w_2 H locs hu hw => ?_)
  rw [hu] at hw
  obtain ⟨cm, rt, gv, hD, hCm, hRt, hGv, hval⟩ := hRd (i) (by omega)
  have hDe := hD
  rw [hdl] at hDe
  refine lv_aload_n hx hb dX4_share_10 rfl (lv_at hl 0 rfl) ?_
  refine lv_iload_n hx hb dX4_share_11 rfl (lv_at hl 1 rfl) ?_
  exact x_prop (As := [.int (nI i)]) (rest := []) hC vf_X4_84 hlocks htab hw hT (by decide) h0 rfl rfl (k_needDealtT l hl0 n t cl qu wh i (by omega) df hdf _ _ h0 hDa hDe) ⟨rfl, rfl, Nat.le_of_ble_eq_true rfl, Nat.le_of_ble_eq_true rfl⟩ hl.1 (Nat.le_of_ble_eq_true rfl) dX4_share_12 ⟨Nat.le_of_ble_eq_true rfl, Nat.le_of_ble_eq_true rfl⟩ rfl
set_option maxHeartbeats 4000000 in
set_option maxRecDepth 100000 in
theorem c_isRightA (l : Launch) (hl0 : l.stackTraces = false) {D : va_G} {cI cJ cZ cD : ClassId} {ad : Nat → Nat} {sa : Nat → Nat} {w : Nat → va_E} {sz : Nat} (n t cl qu en kp : Nat) (dl ou cp ks pt : Nat → Nat) (co sh : Nat → Nat → Nat) (vs : Nat → Int64) (hok : OkS n t cl qu en kp dl ou cp ks pt co sh) (hRC : RC ad cI cJ cD w n t cl qu en kp dl ou cp ks pt co sh vs) (x y z : Int32) (hbad : ¬ (isNd n x ∧ isNd n y ∧ isEx z))  : MT l yX4_isRight (.code yX4_isRight cX4_isRight 4 (some .boolean)) ({ frames := 7, cells := 1, slots := 6, locals := 111 }) [.ref (ad 0), .int x, .int y, .int z] D (tyL cI cJ cZ cD) ad 89 w sz sa "java/lang/IllegalArgumentException" := by
  refine MT.of (by decide) (Nat.le_of_ble_eq_true rfl) ?_
  intro p e s m below meth c ls hC hlocks htab hl hw hT
  obtain ⟨hx, hb, hml, hown, hts⟩ := id hC
  have hA : ∀ q, s.heap.size ≤ q → xA ad 89 s.heap.size q := fun q h => Or.inr h
  have hl : lv_has ls 4 [(0, .ref (ad 0)), (1, .int x), (2, .int y), (3, .int z)] := hl
  obtain ⟨⟨wh, h0, hwh⟩, ⟨df, hDa, hdf⟩, hRd, ⟨kf, pf, hKf, hPf, hky⟩, ⟨msg, bas, vf, ptf, ivf, hR, hVs, hPt, hIv, hmsg, hptv, hiv⟩, ⟨sa0, sx0, sy0, hSt⟩⟩ := id hRC
  obtain ⟨⟨hn, ht, hcl, hqu, hen, hkp⟩, hle, ⟨hqb, hkb, hcb⟩, hvals, hclv, hptl, ⟨hz1, hz2, hz3⟩⟩ := id hok
  by_cases c1 : isNd n x
  · skip
    obtain ⟨i, hi1, hi2, rfl⟩ := isNd_of hn c1
    refine lv_aload_n hx hb dX4_isRight_0 rfl (lv_at hl 0 rfl) ?_
    refine lv_iload_n hx hb dX4_isRight_1 rfl (lv_at hl 1 rfl) ?_
    refine x_callW0 (As := [.int (nI i)]) (rest := []) hC vf_X4_62 hw hA (by decide) h0 rfl rfl (k_needNode l n t _ qu wh hn i hi1 hi2 h0) ⟨rfl, rfl, Nat.le_of_ble_eq_true rfl, Nat.le_of_ble_eq_true rfl⟩ hl.1 (Nat.le_of_ble_eq_true rfl) dX4_isRight_2 ⟨Nat.zero_le _, Nat.zero_le _⟩ rfl (fun w_1 H locs hu hw => ?_)
    rw [hu] at hw
    by_cases c2 : isNd n y
    · skip
      obtain ⟨k, hk1, hk2, rfl⟩ := isNd_of hn c2
      refine lv_aload_n hx hb dX4_isRight_5 rfl (lv_at hl 0 rfl) ?_
      refine lv_iload_n hx hb dX4_isRight_6 rfl (lv_at hl 2 rfl) ?_
      refine x_callW0 (As := [.int (nI k)]) (rest := []) hC vf_X4_62 hw hA (by decide) h0 rfl rfl (k_needNode l n t _ qu wh hn k hk1 hk2 h0) ⟨rfl, rfl, Nat.le_of_ble_eq_true rfl, Nat.le_of_ble_eq_true rfl⟩ hl.1 (Nat.le_of_ble_eq_true rfl) dX4_isRight_7 ⟨Nat.zero_le _, Nat.zero_le _⟩ rfl (fun w_2 H locs hu hw => ?_)
      rw [hu] at hw
      refine lv_aload_n hx hb dX4_isRight_10 rfl (lv_at hl 0 rfl) ?_
      refine lv_iload_n hx hb dX4_isRight_11 rfl (lv_at hl 3 rfl) ?_
      exact x_prop (As := [.int z]) (rest := []) hC vf_X4_81 hlocks htab hw hT (by decide) h0 rfl rfl (k_needExponentT l hl0 n t cl qu wh z (fun q => hbad ⟨c1, c2, q⟩) h0) ⟨rfl, rfl, Nat.le_of_ble_eq_true rfl, Nat.le_of_ble_eq_true rfl⟩ hl.1 (Nat.le_of_ble_eq_true rfl) dX4_isRight_12 ⟨Nat.le_of_ble_eq_true rfl, Nat.le_of_ble_eq_true rfl⟩ rfl
    · skip
      refine lv_aload_n hx hb dX4_isRight_5 rfl (lv_at hl 0 rfl) ?_
      refine lv_iload_n hx hb dX4_isRight_6 rfl (lv_at hl 2 rfl) ?_
      exact x_prop (As := [.int y]) (rest := []) hC vf_X4_62 hlocks htab hw hT (by decide) h0 rfl rfl (k_needNodeT l hl0 n t cl qu wh hn y c2 h0) ⟨rfl, rfl, Nat.le_of_ble_eq_true rfl, Nat.le_of_ble_eq_true rfl⟩ hl.1 (Nat.le_of_ble_eq_true rfl) dX4_isRight_7 ⟨Nat.le_of_ble_eq_true rfl, Nat.le_of_ble_eq_true rfl⟩ rfl
  · skip
    refine lv_aload_n hx hb dX4_isRight_0 rfl (lv_at hl 0 rfl) ?_
    refine lv_iload_n hx hb dX4_isRight_1 rfl (lv_at hl 1 rfl) ?_
    exact x_prop (As := [.int x]) (rest := []) hC vf_X4_62 hlocks htab hw hT (by decide) h0 rfl rfl (k_needNodeT l hl0 n t cl qu wh hn x c1 h0) ⟨rfl, rfl, Nat.le_of_ble_eq_true rfl, Nat.le_of_ble_eq_true rfl⟩ hl.1 (Nat.le_of_ble_eq_true rfl) dX4_isRight_2 ⟨Nat.le_of_ble_eq_true rfl, Nat.le_of_ble_eq_true rfl⟩ rfl
set_option maxHeartbeats 4000000 in
set_option maxRecDepth 100000 in
theorem c_isRight (l : Launch) {D : va_G} {cI cJ cZ cD : ClassId} {ad : Nat → Nat} {w : Nat → va_E} {sz : Nat} (n t cl qu en kp : Nat) (dl ou cp ks pt : Nat → Nat) (co sh : Nat → Nat → Nat) (vs : Nat → Int64) (hok : OkS n t cl qu en kp dl ou cp ks pt co sh) (hRC : RC ad cI cJ cD w n t cl qu en kp dl ou cp ks pt co sh vs) (i k : Nat) (hi1 : 1 ≤ i) (hi2 : i ≤ n) (hk1 : 1 ≤ k) (hk2 : k ≤ n) (x : Nat) (hx0 : x < 1073741789) (hdl : dl i = 1)  : MW l yX4_isRight (.code yX4_isRight cX4_isRight 4 (some .boolean)) ({ frames := 2, cells := 0, slots := 0, locals := 57 }) [.ref (ad 0), .int (nI i), .int (nI k), .int (nI x)] D (tyL cI cJ cZ cD) ad 89 w sz (some (.int (if x = rgt (co i) t k then nI 1 else nI 0))) (fun u => u = w) := by
  refine MW.of (by decide) (Nat.le_of_ble_eq_true rfl) ?_
  intro p e s m below meth c ls hC hr hlocks hl hw
  obtain ⟨hx, hb, hml, hown, hts⟩ := id hC
  have hA : ∀ q, s.heap.size ≤ q → xA ad 89 s.heap.size q := fun q h => Or.inr h
  have hl : lv_has ls 4 [(0, .ref (ad 0)), (1, .int (nI i)), (2, .int (nI k)), (3, .int (nI x))] := hl
  obtain ⟨⟨wh, h0, hwh⟩, ⟨df, hDa, hdf⟩, hRd, ⟨kf, pf, hKf, hPf, hky⟩, ⟨msg, bas, vf, ptf, ivf, hR, hVs, hPt, hIv, hmsg, hptv, hiv⟩, ⟨sa0, sx0, sy0, hSt⟩⟩ := id hRC
  obtain ⟨⟨hn, ht, hcl, hqu, hen, hkp⟩, hle, ⟨hqb, hkb, hcb⟩, hvals, hclv, hptl, ⟨hz1, hz2, hz3⟩⟩ := id hok
  refine lv_aload_n hx hb dX4_isRight_0 rfl (lv_at hl 0 rfl) ?_
  refine lv_iload_n hx hb dX4_isRight_1 rfl (lv_at hl 1 rfl) ?_
  refine x_callW0 (As := [.int (nI i)]) (rest := []) hC vf_X4_62 hw hA (by decide) h0 rfl rfl (k_needNode l n t _ qu wh hn i hi1 hi2 h0) ⟨rfl, rfl, Nat.le_of_ble_eq_true rfl, Nat.le_of_ble_eq_true rfl⟩ hl.1 (Nat.le_of_ble_eq_true rfl) dX4_isRight_2 ⟨Nat.zero_le _, Nat.zero_le _⟩ rfl (fun w_1 H locs hu hw => ?_)
  rw [hu] at hw
  refine lv_aload_n hx hb dX4_isRight_5 rfl (lv_at hl 0 rfl) ?_
  refine lv_iload_n hx hb dX4_isRight_6 rfl (lv_at hl 2 rfl) ?_
  refine x_callW0 (As := [.int (nI k)]) (rest := []) hC vf_X4_62 hw hA (by decide) h0 rfl rfl (k_needNode l n t _ qu wh hn k hk1 hk2 h0) ⟨rfl, rfl, Nat.le_of_ble_eq_true rfl, Nat.le_of_ble_eq_true rfl⟩ hl.1 (Nat.le_of_ble_eq_true rfl) dX4_isRight_7 ⟨Nat.zero_le _, Nat.zero_le _⟩ rfl (fun w_2 H locs hu hw => ?_)
  rw [hu] at hw
  refine lv_aload_n hx hb dX4_isRight_10 rfl (lv_at hl 0 rfl) ?_
  refine lv_iload_n hx hb dX4_isRight_11 rfl (lv_at hl 3 rfl) ?_
  refine x_callW0 (As := [.int (nI x)]) (rest := []) hC vf_X4_81 hw hA (by decide) h0 rfl rfl (k_needExponent l n t _ qu wh x hx0 h0) ⟨rfl, rfl, Nat.le_of_ble_eq_true rfl, Nat.le_of_ble_eq_true rfl⟩ hl.1 (Nat.le_of_ble_eq_true rfl) dX4_isRight_12 ⟨Nat.zero_le _, Nat.zero_le _⟩ rfl (fun w_3 H locs hu hw => ?_)
  rw [hu] at hw
  obtain ⟨cm, rt, gv, hD, hCm, hRt, hGv, hval⟩ := hRd (i) (by omega)
  have hDe := hD
  rw [hdl] at hDe
  refine lv_aload_n hx hb dX4_isRight_15 rfl (lv_at hl 0 rfl) ?_
  refine lv_iload_n hx hb dX4_isRight_16 rfl (lv_at hl 1 rfl) ?_
  refine x_callW0 (As := [.int (nI i)]) (rest := []) hC vf_X4_84 hw hA (by decide) h0 rfl rfl (k_needDealt l n t _ qu wh i (by omega) df hdf _ _ h0 hDa hDe) ⟨rfl, rfl, Nat.le_of_ble_eq_true rfl, Nat.le_of_ble_eq_true rfl⟩ hl.1 (Nat.le_of_ble_eq_true rfl) dX4_isRight_17 ⟨Nat.zero_le _, Nat.zero_le _⟩ rfl (fun w_4 H locs hu hw => ?_)
  rw [hu] at hw
  refine lv_aload_n hx hb dX4_isRight_20 rfl (lv_at hl 0 rfl) ?_
  refine gf_X4_11 hx hb hts hown hw (by decide) h0 rfl dX4_isRight_21 ?_
  refine lv_iload_n hx hb dX4_isRight_24 rfl (lv_at hl 1 rfl) ?_
  refine x_aald hx hb hw (by decide) 3 hDa rfl (j := i) (by omega) (by decide) (hdf _ (by omega)) dX4_isRight_25 ?_
  refine lv_iload_n hx hb dX4_isRight_26 rfl (lv_at hl 2 rfl) ?_
  refine lv_iload_n hx hb dX4_isRight_27 rfl (lv_at hl 3 rfl) ?_
  obtain ⟨f1, f2⟩ := hval hi1 hi2 hdl
  have hrl := rgt_lt (co i) t k
  refine x_callW1 (As := [.int (nI k), .int (nI x)]) (rest := []) hC vf_X4_99 hw hA (by omega) hDe rfl rfl (k_isRightShare l i (by omega) _ _ _ rt k x (rgt (co i) t k) (by omega) (by omega) (by omega) (f2 k hk1 hk2).1 hDe hRt) ⟨rfl, rfl, Nat.le_of_ble_eq_true rfl, Nat.le_of_ble_eq_true rfl⟩ hl.1 (Nat.le_of_ble_eq_true rfl) dX4_isRight_28 ⟨Nat.zero_le _, Nat.zero_le _⟩ rfl (fun w_5 H locs hu hw => ?_)
  rw [hu] at hw
  have hn9 : narrow .boolean (.int (if x = rgt (co i) t k then nI 1 else nI 0)) = .int (if x = rgt (co i) t k then nI 1 else nI 0) := by by_cases q : x = rgt (co i) t k <;> simp only [q, if_true, if_false] <;> rfl
  exact x_wretZ hx hb hr hlocks hn9 hw rfl dX4_isRight_31
set_option maxHeartbeats 4000000 in
set_option maxRecDepth 100000 in
theorem c_isRightS (l : Launch) (hl0 : l.stackTraces = false) {D : va_G} {cI cJ cZ cD : ClassId} {ad : Nat → Nat} {sa : Nat → Nat} {w : Nat → va_E} {sz : Nat} (n t cl qu en kp : Nat) (dl ou cp ks pt : Nat → Nat) (co sh : Nat → Nat → Nat) (vs : Nat → Int64) (hok : OkS n t cl qu en kp dl ou cp ks pt co sh) (hRC : RC ad cI cJ cD w n t cl qu en kp dl ou cp ks pt co sh vs) (i k : Nat) (hi1 : 1 ≤ i) (hi2 : i ≤ n) (hk1 : 1 ≤ k) (hk2 : k ≤ n) (x : Nat) (hx0 : x < 1073741789) (hdl : dl i = 0)  : MT l yX4_isRight (.code yX4_isRight cX4_isRight 4 (some .boolean)) ({ frames := 7, cells := 1, slots := 6, locals := 111 }) [.ref (ad 0), .int (nI i), .int (nI k), .int (nI x)] D (tyL cI cJ cZ cD) ad 89 w sz sa "java/lang/IllegalStateException" := by
  refine MT.of (by decide) (Nat.le_of_ble_eq_true rfl) ?_
  intro p e s m below meth c ls hC hlocks htab hl hw hT
  obtain ⟨hx, hb, hml, hown, hts⟩ := id hC
  have hA : ∀ q, s.heap.size ≤ q → xA ad 89 s.heap.size q := fun q h => Or.inr h
  have hl : lv_has ls 4 [(0, .ref (ad 0)), (1, .int (nI i)), (2, .int (nI k)), (3, .int (nI x))] := hl
  obtain ⟨⟨wh, h0, hwh⟩, ⟨df, hDa, hdf⟩, hRd, ⟨kf, pf, hKf, hPf, hky⟩, ⟨msg, bas, vf, ptf, ivf, hR, hVs, hPt, hIv, hmsg, hptv, hiv⟩, ⟨sa0, sx0, sy0, hSt⟩⟩ := id hRC
  obtain ⟨⟨hn, ht, hcl, hqu, hen, hkp⟩, hle, ⟨hqb, hkb, hcb⟩, hvals, hclv, hptl, ⟨hz1, hz2, hz3⟩⟩ := id hok
  refine lv_aload_n hx hb dX4_isRight_0 rfl (lv_at hl 0 rfl) ?_
  refine lv_iload_n hx hb dX4_isRight_1 rfl (lv_at hl 1 rfl) ?_
  refine x_callW0 (As := [.int (nI i)]) (rest := []) hC vf_X4_62 hw hA (by decide) h0 rfl rfl (k_needNode l n t _ qu wh hn i hi1 hi2 h0) ⟨rfl, rfl, Nat.le_of_ble_eq_true rfl, Nat.le_of_ble_eq_true rfl⟩ hl.1 (Nat.le_of_ble_eq_true rfl) dX4_isRight_2 ⟨Nat.zero_le _, Nat.zero_le _⟩ rfl (fun w_1 H locs hu hw => ?_)
  rw [hu] at hw
  refine lv_aload_n hx hb dX4_isRight_5 rfl (lv_at hl 0 rfl) ?_
  refine lv_iload_n hx hb dX4_isRight_6 rfl (lv_at hl 2 rfl) ?_
  refine x_callW0 (As := [.int (nI k)]) (rest := []) hC vf_X4_62 hw hA (by decide) h0 rfl rfl (k_needNode l n t _ qu wh hn k hk1 hk2 h0) ⟨rfl, rfl, Nat.le_of_ble_eq_true rfl, Nat.le_of_ble_eq_true rfl⟩ hl.1 (Nat.le_of_ble_eq_true rfl) dX4_isRight_7 ⟨Nat.zero_le _, Nat.zero_le _⟩ rfl (fun w_2 H locs hu hw => ?_)
  rw [hu] at hw
  refine lv_aload_n hx hb dX4_isRight_10 rfl (lv_at hl 0 rfl) ?_
  refine lv_iload_n hx hb dX4_isRight_11 rfl (lv_at hl 3 rfl) ?_
  refine x_callW0 (As := [.int (nI x)]) (rest := []) hC vf_X4_81 hw hA (by decide) h0 rfl rfl (k_needExponent l n t _ qu wh x hx0 h0) ⟨rfl, rfl, Nat.le_of_ble_eq_true rfl, Nat.le_of_ble_eq_true rfl⟩ hl.1 (Nat.le_of_ble_eq_true rfl) dX4_isRight_12 ⟨Nat.zero_le _, Nat.zero_le _⟩ rfl (fun w_3 H locs hu hw => ?_)
  rw [hu] at hw
  obtain ⟨cm, rt, gv, hD, hCm, hRt, hGv, hval⟩ := hRd (i) (by omega)
  have hDe := hD
  rw [hdl] at hDe
  refine lv_aload_n hx hb dX4_isRight_15 rfl (lv_at hl 0 rfl) ?_
  refine lv_iload_n hx hb dX4_isRight_16 rfl (lv_at hl 1 rfl) ?_
  exact x_prop (As := [.int (nI i)]) (rest := []) hC vf_X4_84 hlocks htab hw hT (by decide) h0 rfl rfl (k_needDealtT l hl0 n t cl qu wh i (by omega) df hdf _ _ h0 hDa hDe) ⟨rfl, rfl, Nat.le_of_ble_eq_true rfl, Nat.le_of_ble_eq_true rfl⟩ hl.1 (Nat.le_of_ble_eq_true rfl) dX4_isRight_17 ⟨Nat.le_of_ble_eq_true rfl, Nat.le_of_ble_eq_true rfl⟩ rfl
theorem gath_lt2 {cp dl : Nat → Nat} {co sh : Nat → Nat → Nat} {n t : Nat} (hn : n ≤ 16) (h : ∀ i, cp i < 2 ^ 17) : ∀ i, (fun i => if 1 ≤ i ∧ i ≤ n ∧ dl i = 1 then gath (cp i) (sh i) (rgt (co i) t) n else cp i) i < 2 ^ 17 := by
  intro i
  show (if _ then _ else _) < _
  by_cases hc : 1 ≤ i ∧ i ≤ n ∧ dl i = 1
  · rw [if_pos hc]; exact gath_lt (h i) n hn
  · rw [if_neg hc]; exact h i
set_option maxHeartbeats 4000000 in
set_option maxRecDepth 100000 in
theorem c_complain (l : Launch) {D : va_G} {cI cJ cZ cD : ClassId} {ad : Nat → Nat} {w : Nat → va_E} {sz : Nat} (n t cl qu en kp : Nat) (dl ou cp ks pt : Nat → Nat) (co sh : Nat → Nat → Nat) (vs : Nat → Int64) (hok : OkS n t cl qu en kp dl ou cp ks pt co sh) (hRC : RC ad cI cJ cD w n t cl qu en kp dl ou cp ks pt co sh vs) (hcl0 : cl = 0)  : MW l yX4_complain (.code yX4_complain cX4_complain 2 (some .int)) ({ frames := 2, cells := 0, slots := 0, locals := 60 }) [.ref (ad 0)] D (tyL cI cJ cZ cD) ad 89 w sz (some (.int (nI (cnt (fun i => pcN ((fun i => if 1 ≤ i ∧ i ≤ n ∧ dl i = 1 then gath (cp i) (sh i) (rgt (co i) t) n else cp i) i)) n)))) (fun u => (∀ z, 76 < z → u z = w z) ∧ RC ad cI cJ cD u n t cl qu en kp dl ou (fun i => if 1 ≤ i ∧ i ≤ n ∧ dl i = 1 then gath (cp i) (sh i) (rgt (co i) t) n else cp i) ks pt co sh vs) := by
  refine MW.of (by decide) (Nat.le_of_ble_eq_true rfl) ?_
  intro p e s m below meth c ls hC hr hlocks hl hw
  obtain ⟨hx, hb, hml, hown, hts⟩ := id hC
  have hA : ∀ q, s.heap.size ≤ q → xA ad 89 s.heap.size q := fun q h => Or.inr h
  have hl : lv_has ls 2 [(0, .ref (ad 0))] := hl
  obtain ⟨⟨wh, h0, hwh⟩, ⟨df, hDa, hdf⟩, hRd, ⟨kf, pf, hKf, hPf, hky⟩, ⟨msg, bas, vf, ptf, ivf, hR, hVs, hPt, hIv, hmsg, hptv, hiv⟩, ⟨sa0, sx0, sy0, hSt⟩⟩ := id hRC
  obtain ⟨⟨hn, ht, hcl, hqu, hen, hkp⟩, hle, ⟨hqb, hkb, hcb⟩, hvals, hclv, hptl, ⟨hz1, hz2, hz3⟩⟩ := id hok
  subst hcl0
  refine lv_aload_n hx hb dX4_complain_0 rfl (lv_at hl 0 rfl) ?_
  refine x_callW0 (As := []) (rest := []) hC vf_X4_66 hw hA (by decide) h0 rfl rfl (k_needOpen l n t qu wh h0) ⟨rfl, rfl, Nat.le_of_ble_eq_true rfl, Nat.le_of_ble_eq_true rfl⟩ hl.1 (Nat.le_of_ble_eq_true rfl) dX4_complain_1 ⟨Nat.zero_le _, Nat.zero_le _⟩ rfl (fun w_1 H locs hu hw => ?_)
  rw [hu] at hw
  refine lv_iconst (v := nI 1) hx hb dX4_complain_4 (by decide) ?_
  refine lv_istore_n (lv' := [(1, .int (nI 1)), (0, .ref (ad 0))]) hx hb dX4_complain_5 rfl hl (by decide) rfl (fun ls hl => ?_)
  refine k_complain_loop (w0 := w) hC hA n t 0 qu wh hn df hdf dl ou cp co sh hRd hDa hle (fun i k h1 h2 h3 h4 h5 => (hvals i h1 h2 h5).2 k h3 h4) h0 (fun w5 ls H locs hdu hw hl => ?_) n 0 w ls H locs (by omega) DU.zero hw (lv_sub hl [1, 0] rfl)
  have hu4 : ∀ z, (∀ i, 1 ≤ i → i ≤ 16 → z ≠ 2 + 4 * i) → w5 z = w z := fun z h3 => hdu.2 z (fun i g1 g2 => h3 i g1 (by omega))
  have hRd5 : RCd ad cI w5 n t dl ou (fun i => if 1 ≤ i ∧ i ≤ n ∧ dl i = 1 then gath (cp i) (sh i) (rgt (co i) t) n else cp i) co sh := by
    intro i hi
    obtain ⟨cm, rt, gv, e1, e2, e3, e4, e5⟩ := hRd i hi
    refine ⟨cm, rt, gv, ?_, (hu4 _ (fun i _ _ => by omega)).trans e2, (hu4 _ (fun i _ _ => by omega)).trans e3, (hu4 _ (fun i _ _ => by omega)).trans e4, e5⟩
    by_cases hin : 1 ≤ i ∧ i ≤ n
    · rw [hdu.1 i hin.1 hin.2]
      dsimp only
      show _ = (Sum.inr (0, [.ref _, .ref _, .ref _, .int (nI (if _ then _ else _)), .int _, .int _]) : va_E)
      by_cases hd9 : dl i = 1
      · rw [if_pos hd9, if_pos ⟨hin.1, hin.2, hd9⟩]
      · rw [if_neg hd9, if_neg (fun q => hd9 q.2.2)]
    · rw [hdu.2 _ (fun j g1 g2 g3 => hin ⟨by omega, by omega⟩), e1]
      show _ = (Sum.inr (0, [.ref _, .ref _, .ref _, .int (nI (if _ then _ else _)), .int _, .int _]) : va_E)
      rw [if_neg (fun q => hin ⟨q.1, q.2.1⟩)]
  have h05 : w5 0 = .inr (3, [.ref (ad 1), .ref (ad 70), .ref (ad 71), .ref (ad 72), .ref (ad 76), .int (nI n), .int (nI t), .int (nI 0), .int (nI qu), .int wh]) := (hu4 0 (fun i _ _ => by omega)).trans h0
  have hDa5 := (hu4 1 (fun i _ _ => by omega)).trans hDa
  refine lv_aload_n hx hb dX4_complain_33 rfl (lv_at hl 0 rfl) ?_
  refine x_callW1 (As := []) (rest := []) hC vf_X4_106 hw hA (by decide) h05 rfl rfl (k_countC l n t 0 qu wh hn df hdf dl ou (fun i => if 1 ≤ i ∧ i ≤ n ∧ dl i = 1 then gath (cp i) (sh i) (rgt (co i) t) n else cp i) co sh hRd5 (gath_lt2 hn (fun i => (hle i).2.2)) h05 hDa5) ⟨rfl, rfl, Nat.le_of_ble_eq_true rfl, Nat.le_of_ble_eq_true rfl⟩ hl.1 (Nat.le_of_ble_eq_true rfl) dX4_complain_34 ⟨Nat.zero_le _, Nat.zero_le _⟩ rfl (fun w_2 H locs hu hw => ?_)
  rw [hu] at hw
  exact x_wretI hx hb hr hlocks hw ⟨fun z hz => hu4 z (fun i _ _ => by omega), RCo.of ⟨wh, h0, hwh⟩ (hu4 0 (fun i _ _ => by omega)), RCa.of ⟨df, hDa, hdf⟩ (hu4 1 (fun i _ _ => by omega)), hRd5, RCk.of ⟨kf, pf, hKf, hPf, hky⟩ (hu4 70 (fun i _ _ => by omega)) (hu4 71 (fun i _ _ => by omega)), RCr.of ⟨msg, bas, vf, ptf, ivf, hR, hVs, hPt, hIv, hmsg, hptv, hiv⟩ (fun z _ _ => hu4 z (fun i _ _ => by omega)), RCs.of ⟨sa0, sx0, sy0, hSt⟩ (hu4 76 (fun i _ _ => by omega))⟩ dX4_complain_37
set_option maxHeartbeats 4000000 in
set_option maxRecDepth 100000 in
theorem c_complainS (l : Launch) (hl0 : l.stackTraces = false) {D : va_G} {cI cJ cZ cD : ClassId} {ad : Nat → Nat} {sa : Nat → Nat} {w : Nat → va_E} {sz : Nat} (n t cl qu en kp : Nat) (dl ou cp ks pt : Nat → Nat) (co sh : Nat → Nat → Nat) (vs : Nat → Int64) (hok : OkS n t cl qu en kp dl ou cp ks pt co sh) (hRC : RC ad cI cJ cD w n t cl qu en kp dl ou cp ks pt co sh vs) (hcl0 : cl = 1)  : MT l yX4_complain (.code yX4_complain cX4_complain 2 (some .int)) ({ frames := 7, cells := 1, slots := 6, locals := 110 }) [.ref (ad 0)] D (tyL cI cJ cZ cD) ad 89 w sz sa "java/lang/IllegalStateException" := by
  refine MT.of (by decide) (Nat.le_of_ble_eq_true rfl) ?_
  intro p e s m below meth c ls hC hlocks htab hl hw hT
  obtain ⟨hx, hb, hml, hown, hts⟩ := id hC
  have hA : ∀ q, s.heap.size ≤ q → xA ad 89 s.heap.size q := fun q h => Or.inr h
  have hl : lv_has ls 2 [(0, .ref (ad 0))] := hl
  obtain ⟨⟨wh, h0, hwh⟩, ⟨df, hDa, hdf⟩, hRd, ⟨kf, pf, hKf, hPf, hky⟩, ⟨msg, bas, vf, ptf, ivf, hR, hVs, hPt, hIv, hmsg, hptv, hiv⟩, ⟨sa0, sx0, sy0, hSt⟩⟩ := id hRC
  obtain ⟨⟨hn, ht, hcl, hqu, hen, hkp⟩, hle, ⟨hqb, hkb, hcb⟩, hvals, hclv, hptl, ⟨hz1, hz2, hz3⟩⟩ := id hok
  subst hcl0
  refine lv_aload_n hx hb dX4_complain_0 rfl (lv_at hl 0 rfl) ?_
  exact x_prop (As := []) (rest := []) hC vf_X4_66 hlocks htab hw hT (by decide) h0 rfl rfl (k_needOpenT l hl0 n t qu wh h0) ⟨rfl, rfl, Nat.le_of_ble_eq_true rfl, Nat.le_of_ble_eq_true rfl⟩ hl.1 (Nat.le_of_ble_eq_true rfl) dX4_complain_1 ⟨Nat.le_of_ble_eq_true rfl, Nat.le_of_ble_eq_true rfl⟩ rfl
set_option maxHeartbeats 4000000 in
set_option maxRecDepth 100000 in
theorem c_answerA (l : Launch) (hl0 : l.stackTraces = false) {D : va_G} {cI cJ cZ cD : ClassId} {ad : Nat → Nat} {sa : Nat → Nat} {w : Nat → va_E} {sz : Nat} (n t cl qu en kp : Nat) (dl ou cp ks pt : Nat → Nat) (co sh : Nat → Nat → Nat) (vs : Nat → Int64) (hok : OkS n t cl qu en kp dl ou cp ks pt co sh) (hRC : RC ad cI cJ cD w n t cl qu en kp dl ou cp ks pt co sh vs) (x y z : Int32) (hbad : ¬ (isNd n x ∧ isNd n y ∧ isEx z))  : MT l yX4_answer (.code yX4_answer cX4_answer 4 (some .boolean)) ({ frames := 7, cells := 1, slots := 6, locals := 111 }) [.ref (ad 0), .int x, .int y, .int z] D (tyL cI cJ cZ cD) ad 89 w sz sa "java/lang/IllegalArgumentException" := by
  refine MT.of (by decide) (Nat.le_of_ble_eq_true rfl) ?_
  intro p e s m below meth c ls hC hlocks htab hl hw hT
  obtain ⟨hx, hb, hml, hown, hts⟩ := id hC
  have hA : ∀ q, s.heap.size ≤ q → xA ad 89 s.heap.size q := fun q h => Or.inr h
  have hl : lv_has ls 4 [(0, .ref (ad 0)), (1, .int x), (2, .int y), (3, .int z)] := hl
  obtain ⟨⟨wh, h0, hwh⟩, ⟨df, hDa, hdf⟩, hRd, ⟨kf, pf, hKf, hPf, hky⟩, ⟨msg, bas, vf, ptf, ivf, hR, hVs, hPt, hIv, hmsg, hptv, hiv⟩, ⟨sa0, sx0, sy0, hSt⟩⟩ := id hRC
  obtain ⟨⟨hn, ht, hcl, hqu, hen, hkp⟩, hle, ⟨hqb, hkb, hcb⟩, hvals, hclv, hptl, ⟨hz1, hz2, hz3⟩⟩ := id hok
  by_cases c1 : isNd n x
  · skip
    obtain ⟨i, hi1, hi2, rfl⟩ := isNd_of hn c1
    refine lv_aload_n hx hb dX4_answer_0 rfl (lv_at hl 0 rfl) ?_
    refine lv_iload_n hx hb dX4_answer_1 rfl (lv_at hl 1 rfl) ?_
    refine x_callW0 (As := [.int (nI i)]) (rest := []) hC vf_X4_62 hw hA (by decide) h0 rfl rfl (k_needNode l n t _ qu wh hn i hi1 hi2 h0) ⟨rfl, rfl, Nat.le_of_ble_eq_true rfl, Nat.le_of_ble_eq_true rfl⟩ hl.1 (Nat.le_of_ble_eq_true rfl) dX4_answer_2 ⟨Nat.zero_le _, Nat.zero_le _⟩ rfl (fun w_1 H locs hu hw => ?_)
    rw [hu] at hw
    by_cases c2 : isNd n y
    · skip
      obtain ⟨k, hk1, hk2, rfl⟩ := isNd_of hn c2
      refine lv_aload_n hx hb dX4_answer_5 rfl (lv_at hl 0 rfl) ?_
      refine lv_iload_n hx hb dX4_answer_6 rfl (lv_at hl 2 rfl) ?_
      refine x_callW0 (As := [.int (nI k)]) (rest := []) hC vf_X4_62 hw hA (by decide) h0 rfl rfl (k_needNode l n t _ qu wh hn k hk1 hk2 h0) ⟨rfl, rfl, Nat.le_of_ble_eq_true rfl, Nat.le_of_ble_eq_true rfl⟩ hl.1 (Nat.le_of_ble_eq_true rfl) dX4_answer_7 ⟨Nat.zero_le _, Nat.zero_le _⟩ rfl (fun w_2 H locs hu hw => ?_)
      rw [hu] at hw
      refine lv_aload_n hx hb dX4_answer_10 rfl (lv_at hl 0 rfl) ?_
      refine lv_iload_n hx hb dX4_answer_11 rfl (lv_at hl 3 rfl) ?_
      exact x_prop (As := [.int z]) (rest := []) hC vf_X4_81 hlocks htab hw hT (by decide) h0 rfl rfl (k_needExponentT l hl0 n t cl qu wh z (fun q => hbad ⟨c1, c2, q⟩) h0) ⟨rfl, rfl, Nat.le_of_ble_eq_true rfl, Nat.le_of_ble_eq_true rfl⟩ hl.1 (Nat.le_of_ble_eq_true rfl) dX4_answer_12 ⟨Nat.le_of_ble_eq_true rfl, Nat.le_of_ble_eq_true rfl⟩ rfl
    · skip
      refine lv_aload_n hx hb dX4_answer_5 rfl (lv_at hl 0 rfl) ?_
      refine lv_iload_n hx hb dX4_answer_6 rfl (lv_at hl 2 rfl) ?_
      exact x_prop (As := [.int y]) (rest := []) hC vf_X4_62 hlocks htab hw hT (by decide) h0 rfl rfl (k_needNodeT l hl0 n t cl qu wh hn y c2 h0) ⟨rfl, rfl, Nat.le_of_ble_eq_true rfl, Nat.le_of_ble_eq_true rfl⟩ hl.1 (Nat.le_of_ble_eq_true rfl) dX4_answer_7 ⟨Nat.le_of_ble_eq_true rfl, Nat.le_of_ble_eq_true rfl⟩ rfl
  · skip
    refine lv_aload_n hx hb dX4_answer_0 rfl (lv_at hl 0 rfl) ?_
    refine lv_iload_n hx hb dX4_answer_1 rfl (lv_at hl 1 rfl) ?_
    exact x_prop (As := [.int x]) (rest := []) hC vf_X4_62 hlocks htab hw hT (by decide) h0 rfl rfl (k_needNodeT l hl0 n t cl qu wh hn x c1 h0) ⟨rfl, rfl, Nat.le_of_ble_eq_true rfl, Nat.le_of_ble_eq_true rfl⟩ hl.1 (Nat.le_of_ble_eq_true rfl) dX4_answer_2 ⟨Nat.le_of_ble_eq_true rfl, Nat.le_of_ble_eq_true rfl⟩ rfl
set_option maxHeartbeats 4000000 in
set_option maxRecDepth 100000 in
theorem c_answerY (l : Launch) {D : va_G} {cI cJ cZ cD : ClassId} {ad : Nat → Nat} {w : Nat → va_E} {sz : Nat} (n t cl qu en kp : Nat) (dl ou cp ks pt : Nat → Nat) (co sh : Nat → Nat → Nat) (vs : Nat → Int64) (hok : OkS n t cl qu en kp dl ou cp ks pt co sh) (hRC : RC ad cI cJ cD w n t cl qu en kp dl ou cp ks pt co sh vs) (i k : Nat) (hi1 : 1 ≤ i) (hi2 : i ≤ n) (hk1 : 1 ≤ k) (hk2 : k ≤ n) (x : Nat) (hx0 : x < 1073741789) (hcl0 : cl = 0) (hcp0 : tb (cp i) k = 1) (hxp : x = 0)  : MW l yX4_answer (.code yX4_answer cX4_answer 4 (some .boolean)) ({ frames := 3, cells := 0, slots := 0, locals := 93 }) [.ref (ad 0), .int (nI i), .int (nI k), .int (nI x)] D (tyL cI cJ cZ cD) ad 89 w sz (some (.int (nI 1))) (fun u => (∀ z, 76 < z → u z = w z) ∧ RC ad cI cJ cD u n t cl qu en kp dl ou (va_up cp i (clr (cp i) k)) ks pt co (va_up sh i (va_up (sh i) k (rgt (co i) t k))) vs) := by
  refine MW.of (by decide) (Nat.le_of_ble_eq_true rfl) ?_
  intro p e s m below meth c ls hC hr hlocks hl hw
  obtain ⟨hx, hb, hml, hown, hts⟩ := id hC
  have hA : ∀ q, s.heap.size ≤ q → xA ad 89 s.heap.size q := fun q h => Or.inr h
  have hl : lv_has ls 4 [(0, .ref (ad 0)), (1, .int (nI i)), (2, .int (nI k)), (3, .int (nI x))] := hl
  obtain ⟨⟨wh, h0, hwh⟩, ⟨df, hDa, hdf⟩, hRd, ⟨kf, pf, hKf, hPf, hky⟩, ⟨msg, bas, vf, ptf, ivf, hR, hVs, hPt, hIv, hmsg, hptv, hiv⟩, ⟨sa0, sx0, sy0, hSt⟩⟩ := id hRC
  obtain ⟨⟨hn, ht, hcl, hqu, hen, hkp⟩, hle, ⟨hqb, hkb, hcb⟩, hvals, hclv, hptl, ⟨hz1, hz2, hz3⟩⟩ := id hok
  subst hcl0
  refine lv_aload_n hx hb dX4_answer_0 rfl (lv_at hl 0 rfl) ?_
  refine lv_iload_n hx hb dX4_answer_1 rfl (lv_at hl 1 rfl) ?_
  refine x_callW0 (As := [.int (nI i)]) (rest := []) hC vf_X4_62 hw hA (by decide) h0 rfl rfl (k_needNode l n t _ qu wh hn i hi1 hi2 h0) ⟨rfl, rfl, Nat.le_of_ble_eq_true rfl, Nat.le_of_ble_eq_true rfl⟩ hl.1 (Nat.le_of_ble_eq_true rfl) dX4_answer_2 ⟨Nat.zero_le _, Nat.zero_le _⟩ rfl (fun w_1 H locs hu hw => ?_)
  rw [hu] at hw
  refine lv_aload_n hx hb dX4_answer_5 rfl (lv_at hl 0 rfl) ?_
  refine lv_iload_n hx hb dX4_answer_6 rfl (lv_at hl 2 rfl) ?_
  refine x_callW0 (As := [.int (nI k)]) (rest := []) hC vf_X4_62 hw hA (by decide) h0 rfl rfl (k_needNode l n t _ qu wh hn k hk1 hk2 h0) ⟨rfl, rfl, Nat.le_of_ble_eq_true rfl, Nat.le_of_ble_eq_true rfl⟩ hl.1 (Nat.le_of_ble_eq_true rfl) dX4_answer_7 ⟨Nat.zero_le _, Nat.zero_le _⟩ rfl (fun w_2 H locs hu hw => ?_)
  rw [hu] at hw
  refine lv_aload_n hx hb dX4_answer_10 rfl (lv_at hl 0 rfl) ?_
  refine lv_iload_n hx hb dX4_answer_11 rfl (lv_at hl 3 rfl) ?_
  refine x_callW0 (As := [.int (nI x)]) (rest := []) hC vf_X4_81 hw hA (by decide) h0 rfl rfl (k_needExponent l n t _ qu wh x hx0 h0) ⟨rfl, rfl, Nat.le_of_ble_eq_true rfl, Nat.le_of_ble_eq_true rfl⟩ hl.1 (Nat.le_of_ble_eq_true rfl) dX4_answer_12 ⟨Nat.zero_le _, Nat.zero_le _⟩ rfl (fun w_3 H locs hu hw => ?_)
  rw [hu] at hw
  refine lv_aload_n hx hb dX4_answer_15 rfl (lv_at hl 0 rfl) ?_
  refine x_callW0 (As := []) (rest := []) hC vf_X4_66 hw hA (by decide) h0 rfl rfl (k_needOpen l n t qu wh h0) ⟨rfl, rfl, Nat.le_of_ble_eq_true rfl, Nat.le_of_ble_eq_true rfl⟩ hl.1 (Nat.le_of_ble_eq_true rfl) dX4_answer_16 ⟨Nat.zero_le _, Nat.zero_le _⟩ rfl (fun w_4 H locs hu hw => ?_)
  rw [hu] at hw
  have hdl : dl i = 1 := (hcb i k hcp0).2
  obtain ⟨cm, rt, gv, hD, hCm, hRt, hGv, hval⟩ := hRd (i) (by omega)
  have hDe := hD
  rw [hdl] at hDe
  obtain ⟨g1, g2, g3⟩ := hle i
  refine lv_aload_n hx hb dX4_answer_19 rfl (lv_at hl 0 rfl) ?_
  refine gf_X4_11 hx hb hts hown hw (by decide) h0 rfl dX4_answer_20 ?_
  refine lv_iload_n hx hb dX4_answer_23 rfl (lv_at hl 1 rfl) ?_
  refine x_aald hx hb hw (by decide) 3 hDa rfl (j := i) (by omega) (by decide) (hdf _ (by omega)) dX4_answer_24 ?_
  refine lv_iload_n hx hb dX4_answer_25 rfl (lv_at hl 2 rfl) ?_
  refine x_callW1 (As := [.int (nI k)]) (rest := []) hC vf_X4_110 hw hA (by omega) hDe rfl rfl (k_hasComplaintOf l i (by omega) (cp i) (by omega) _ _ k (by omega) hDe) ⟨rfl, rfl, Nat.le_of_ble_eq_true rfl, Nat.le_of_ble_eq_true rfl⟩ hl.1 (Nat.le_of_ble_eq_true rfl) dX4_answer_26 ⟨Nat.zero_le _, Nat.zero_le _⟩ rfl (fun w_5 H locs hu hw => ?_)
  rw [hu] at hw
  rw [hcp0]
  refine lv_if_ne (tgt := 42) hx hb dX4_answer_29 (by decide) (fun q1 => ?_) (fun q1 => absurd q1 (by decide))
  refine lv_aload_n hx hb dX4_answer_42 rfl (lv_at hl 0 rfl) ?_
  refine gf_X4_11 hx hb hts hown hw (by decide) h0 rfl dX4_answer_43 ?_
  refine lv_iload_n hx hb dX4_answer_46 rfl (lv_at hl 1 rfl) ?_
  refine x_aald hx hb hw (by decide) 3 hDa rfl (j := i) (by omega) (by decide) (hdf _ (by omega)) dX4_answer_47 ?_
  refine lv_iload_n hx hb dX4_answer_48 rfl (lv_at hl 2 rfl) ?_
  refine lv_iload_n hx hb dX4_answer_49 rfl (lv_at hl 3 rfl) ?_
  obtain ⟨f1, f2⟩ := hval hi1 hi2 hdl
  have hrl := rgt_lt (co i) t k
  refine x_callW1 (As := [.int (nI k), .int (nI x)]) (rest := []) hC vf_X4_116 hw hA (by omega) hDe rfl rfl (k_answer_yes l i (by omega) (cp i) g3 _ _ rt gv k (rgt (co i) t k) x (by omega) hrl hx0 (f2 k hk1 hk2).1 hxp hDe hRt hGv) ⟨rfl, rfl, Nat.le_of_ble_eq_true rfl, Nat.le_of_ble_eq_true rfl⟩ hl.1 (Nat.le_of_ble_eq_true rfl) dX4_answer_50 ⟨Nat.zero_le _, Nat.zero_le _⟩ rfl (fun w_6 H locs hu hw => ?_)
  have hne : ∀ z, z ≠ 5 + 4 * i → z ≠ 2 + 4 * i → w_6 z = w z := fun z h1 h2 => by rw [hu, va_up_ne _ _ h2, va_up_ne _ _ h1]
  refine x_wretZ hx hb hr hlocks (by decide) hw ⟨fun z hz => hne z (by omega) (by omega), RCo.of ⟨wh, h0, hwh⟩ (hne 0 (by omega) (by omega)), RCa.of ⟨df, hDa, hdf⟩ (hne 1 (by omega) (by omega)), RCd.set hRd (i := i) (fun z _ _ hz => hne z (by omega) (by omega)) (fun j hj => ⟨rfl, rfl, va_up_ne _ _ hj, rfl, va_up_ne _ _ hj⟩) ⟨cm, rt, _, ?_, (hne _ (by omega) (by omega)).trans hCm, (hne _ (by omega) (by omega)).trans hRt, by rw [hu, va_up_ne _ _ (by omega)]; exact va_up_self _ _ _, fun _ _ _ => ⟨f1, fun k9 h1 h2 => ⟨(f2 k9 h1 h2).1, ?_⟩⟩⟩, RCk.of ⟨kf, pf, hKf, hPf, hky⟩ (hne 70 (by omega) (by omega)) (hne 71 (by omega) (by omega)), RCr.of ⟨msg, bas, vf, ptf, ivf, hR, hVs, hPt, hIv, hmsg, hptv, hiv⟩ (fun z _ _ => hne z (by omega) (by omega)), RCs.of ⟨sa0, sx0, sy0, hSt⟩ (hne 76 (by omega) (by omega))⟩ dX4_answer_53
  · rw [hu, va_up_self, va_up_self, hdl]
  · rw [va_up_self]
    by_cases hk9 : k9 = k
    · subst hk9; rw [upd_s, va_up_self]
    · rw [upd_n _ _ hk9, va_up_ne _ _ hk9]; exact (f2 k9 h1 h2).2
set_option maxHeartbeats 4000000 in
set_option maxRecDepth 100000 in
theorem c_answerN (l : Launch) {D : va_G} {cI cJ cZ cD : ClassId} {ad : Nat → Nat} {w : Nat → va_E} {sz : Nat} (n t cl qu en kp : Nat) (dl ou cp ks pt : Nat → Nat) (co sh : Nat → Nat → Nat) (vs : Nat → Int64) (hok : OkS n t cl qu en kp dl ou cp ks pt co sh) (hRC : RC ad cI cJ cD w n t cl qu en kp dl ou cp ks pt co sh vs) (i k : Nat) (hi1 : 1 ≤ i) (hi2 : i ≤ n) (hk1 : 1 ≤ k) (hk2 : k ≤ n) (x : Nat) (hx0 : x < 1073741789) (hcl0 : cl = 0) (hcp0 : tb (cp i) k = 1) (hxp : 0 < x)  : MW l yX4_answer (.code yX4_answer cX4_answer 4 (some .boolean)) ({ frames := 3, cells := 0, slots := 0, locals := 93 }) [.ref (ad 0), .int (nI i), .int (nI k), .int (nI x)] D (tyL cI cJ cZ cD) ad 89 w sz (some (.int (nI 0))) (fun u => (∀ z, 76 < z → u z = w z) ∧ RC ad cI cJ cD u n t cl qu en kp dl (va_up ou i 1) cp ks pt co sh vs) := by
  refine MW.of (by decide) (Nat.le_of_ble_eq_true rfl) ?_
  intro p e s m below meth c ls hC hr hlocks hl hw
  obtain ⟨hx, hb, hml, hown, hts⟩ := id hC
  have hA : ∀ q, s.heap.size ≤ q → xA ad 89 s.heap.size q := fun q h => Or.inr h
  have hl : lv_has ls 4 [(0, .ref (ad 0)), (1, .int (nI i)), (2, .int (nI k)), (3, .int (nI x))] := hl
  obtain ⟨⟨wh, h0, hwh⟩, ⟨df, hDa, hdf⟩, hRd, ⟨kf, pf, hKf, hPf, hky⟩, ⟨msg, bas, vf, ptf, ivf, hR, hVs, hPt, hIv, hmsg, hptv, hiv⟩, ⟨sa0, sx0, sy0, hSt⟩⟩ := id hRC
  obtain ⟨⟨hn, ht, hcl, hqu, hen, hkp⟩, hle, ⟨hqb, hkb, hcb⟩, hvals, hclv, hptl, ⟨hz1, hz2, hz3⟩⟩ := id hok
  subst hcl0
  refine lv_aload_n hx hb dX4_answer_0 rfl (lv_at hl 0 rfl) ?_
  refine lv_iload_n hx hb dX4_answer_1 rfl (lv_at hl 1 rfl) ?_
  refine x_callW0 (As := [.int (nI i)]) (rest := []) hC vf_X4_62 hw hA (by decide) h0 rfl rfl (k_needNode l n t _ qu wh hn i hi1 hi2 h0) ⟨rfl, rfl, Nat.le_of_ble_eq_true rfl, Nat.le_of_ble_eq_true rfl⟩ hl.1 (Nat.le_of_ble_eq_true rfl) dX4_answer_2 ⟨Nat.zero_le _, Nat.zero_le _⟩ rfl (fun w_1 H locs hu hw => ?_)
  rw [hu] at hw
  refine lv_aload_n hx hb dX4_answer_5 rfl (lv_at hl 0 rfl) ?_
  refine lv_iload_n hx hb dX4_answer_6 rfl (lv_at hl 2 rfl) ?_
  refine x_callW0 (As := [.int (nI k)]) (rest := []) hC vf_X4_62 hw hA (by decide) h0 rfl rfl (k_needNode l n t _ qu wh hn k hk1 hk2 h0) ⟨rfl, rfl, Nat.le_of_ble_eq_true rfl, Nat.le_of_ble_eq_true rfl⟩ hl.1 (Nat.le_of_ble_eq_true rfl) dX4_answer_7 ⟨Nat.zero_le _, Nat.zero_le _⟩ rfl (fun w_2 H locs hu hw => ?_)
  rw [hu] at hw
  refine lv_aload_n hx hb dX4_answer_10 rfl (lv_at hl 0 rfl) ?_
  refine lv_iload_n hx hb dX4_answer_11 rfl (lv_at hl 3 rfl) ?_
  refine x_callW0 (As := [.int (nI x)]) (rest := []) hC vf_X4_81 hw hA (by decide) h0 rfl rfl (k_needExponent l n t _ qu wh x hx0 h0) ⟨rfl, rfl, Nat.le_of_ble_eq_true rfl, Nat.le_of_ble_eq_true rfl⟩ hl.1 (Nat.le_of_ble_eq_true rfl) dX4_answer_12 ⟨Nat.zero_le _, Nat.zero_le _⟩ rfl (fun w_3 H locs hu hw => ?_)
  rw [hu] at hw
  refine lv_aload_n hx hb dX4_answer_15 rfl (lv_at hl 0 rfl) ?_
  refine x_callW0 (As := []) (rest := []) hC vf_X4_66 hw hA (by decide) h0 rfl rfl (k_needOpen l n t qu wh h0) ⟨rfl, rfl, Nat.le_of_ble_eq_true rfl, Nat.le_of_ble_eq_true rfl⟩ hl.1 (Nat.le_of_ble_eq_true rfl) dX4_answer_16 ⟨Nat.zero_le _, Nat.zero_le _⟩ rfl (fun w_4 H locs hu hw => ?_)
  rw [hu] at hw
  have hdl : dl i = 1 := (hcb i k hcp0).2
  obtain ⟨cm, rt, gv, hD, hCm, hRt, hGv, hval⟩ := hRd (i) (by omega)
  have hDe := hD
  rw [hdl] at hDe
  obtain ⟨g1, g2, g3⟩ := hle i
  refine lv_aload_n hx hb dX4_answer_19 rfl (lv_at hl 0 rfl) ?_
  refine gf_X4_11 hx hb hts hown hw (by decide) h0 rfl dX4_answer_20 ?_
  refine lv_iload_n hx hb dX4_answer_23 rfl (lv_at hl 1 rfl) ?_
  refine x_aald hx hb hw (by decide) 3 hDa rfl (j := i) (by omega) (by decide) (hdf _ (by omega)) dX4_answer_24 ?_
  refine lv_iload_n hx hb dX4_answer_25 rfl (lv_at hl 2 rfl) ?_
  refine x_callW1 (As := [.int (nI k)]) (rest := []) hC vf_X4_110 hw hA (by omega) hDe rfl rfl (k_hasComplaintOf l i (by omega) (cp i) (by omega) _ _ k (by omega) hDe) ⟨rfl, rfl, Nat.le_of_ble_eq_true rfl, Nat.le_of_ble_eq_true rfl⟩ hl.1 (Nat.le_of_ble_eq_true rfl) dX4_answer_26 ⟨Nat.zero_le _, Nat.zero_le _⟩ rfl (fun w_5 H locs hu hw => ?_)
  rw [hu] at hw
  rw [hcp0]
  refine lv_if_ne (tgt := 42) hx hb dX4_answer_29 (by decide) (fun q1 => ?_) (fun q1 => absurd q1 (by decide))
  refine lv_aload_n hx hb dX4_answer_42 rfl (lv_at hl 0 rfl) ?_
  refine gf_X4_11 hx hb hts hown hw (by decide) h0 rfl dX4_answer_43 ?_
  refine lv_iload_n hx hb dX4_answer_46 rfl (lv_at hl 1 rfl) ?_
  refine x_aald hx hb hw (by decide) 3 hDa rfl (j := i) (by omega) (by decide) (hdf _ (by omega)) dX4_answer_47 ?_
  refine lv_iload_n hx hb dX4_answer_48 rfl (lv_at hl 2 rfl) ?_
  refine lv_iload_n hx hb dX4_answer_49 rfl (lv_at hl 3 rfl) ?_
  obtain ⟨f1, f2⟩ := hval hi1 hi2 hdl
  have hrl := rgt_lt (co i) t k
  refine x_callW1 (As := [.int (nI k), .int (nI x)]) (rest := []) hC vf_X4_116 hw hA (by omega) hDe rfl rfl (k_answer_no l i (by omega) (cp i) g3 _ _ rt gv k (rgt (co i) t k) x (by omega) hrl hx0 (f2 k hk1 hk2).1 hxp hDe hRt hGv) ⟨rfl, rfl, Nat.le_of_ble_eq_true rfl, Nat.le_of_ble_eq_true rfl⟩ hl.1 (Nat.le_of_ble_eq_true rfl) dX4_answer_50 ⟨Nat.zero_le _, Nat.zero_le _⟩ rfl (fun w_6 H locs hu hw => ?_)
  have hne : ∀ z, z ≠ 2 + 4 * i → w_6 z = w z := fun z h2 => by rw [hu, va_up_ne _ _ h2]
  refine x_wretZ hx hb hr hlocks (by decide) hw ⟨fun z hz => hne z (by omega), RCo.of ⟨wh, h0, hwh⟩ (hne 0 (by omega)), RCa.of ⟨df, hDa, hdf⟩ (hne 1 (by omega)), RCd.set hRd (i := i) (fun z _ _ hz => hne z (by omega)) (fun j hj => ⟨rfl, va_up_ne _ _ hj, rfl, rfl, rfl⟩) ⟨cm, rt, gv, ?_, (hne _ (by omega)).trans hCm, (hne _ (by omega)).trans hRt, (hne _ (by omega)).trans hGv, fun _ _ _ => ⟨f1, f2⟩⟩, RCk.of ⟨kf, pf, hKf, hPf, hky⟩ (hne 70 (by omega)) (hne 71 (by omega)), RCr.of ⟨msg, bas, vf, ptf, ivf, hR, hVs, hPt, hIv, hmsg, hptv, hiv⟩ (fun z _ _ => hne z (by omega)), RCs.of ⟨sa0, sx0, sy0, hSt⟩ (hne 76 (by omega))⟩ dX4_answer_53
  rw [hu, va_up_self, va_up_self, hdl]
set_option maxHeartbeats 4000000 in
set_option maxRecDepth 100000 in
theorem c_answerS1 (l : Launch) (hl0 : l.stackTraces = false) {D : va_G} {cI cJ cZ cD : ClassId} {ad : Nat → Nat} {sa : Nat → Nat} {w : Nat → va_E} {sz : Nat} (n t cl qu en kp : Nat) (dl ou cp ks pt : Nat → Nat) (co sh : Nat → Nat → Nat) (vs : Nat → Int64) (hok : OkS n t cl qu en kp dl ou cp ks pt co sh) (hRC : RC ad cI cJ cD w n t cl qu en kp dl ou cp ks pt co sh vs) (i k : Nat) (hi1 : 1 ≤ i) (hi2 : i ≤ n) (hk1 : 1 ≤ k) (hk2 : k ≤ n) (x : Nat) (hx0 : x < 1073741789) (hcl0 : cl = 1)  : MT l yX4_answer (.code yX4_answer cX4_answer 4 (some .boolean)) ({ frames := 7, cells := 1, slots := 6, locals := 110 }) [.ref (ad 0), .int (nI i), .int (nI k), .int (nI x)] D (tyL cI cJ cZ cD) ad 89 w sz sa "java/lang/IllegalStateException" := by
  refine MT.of (by decide) (Nat.le_of_ble_eq_true rfl) ?_
  intro p e s m below meth c ls hC hlocks htab hl hw hT
  obtain ⟨hx, hb, hml, hown, hts⟩ := id hC
  have hA : ∀ q, s.heap.size ≤ q → xA ad 89 s.heap.size q := fun q h => Or.inr h
  have hl : lv_has ls 4 [(0, .ref (ad 0)), (1, .int (nI i)), (2, .int (nI k)), (3, .int (nI x))] := hl
  obtain ⟨⟨wh, h0, hwh⟩, ⟨df, hDa, hdf⟩, hRd, ⟨kf, pf, hKf, hPf, hky⟩, ⟨msg, bas, vf, ptf, ivf, hR, hVs, hPt, hIv, hmsg, hptv, hiv⟩, ⟨sa0, sx0, sy0, hSt⟩⟩ := id hRC
  obtain ⟨⟨hn, ht, hcl, hqu, hen, hkp⟩, hle, ⟨hqb, hkb, hcb⟩, hvals, hclv, hptl, ⟨hz1, hz2, hz3⟩⟩ := id hok
  subst hcl0
  refine lv_aload_n hx hb dX4_answer_0 rfl (lv_at hl 0 rfl) ?_
  refine lv_iload_n hx hb dX4_answer_1 rfl (lv_at hl 1 rfl) ?_
  refine x_callW0 (As := [.int (nI i)]) (rest := []) hC vf_X4_62 hw hA (by decide) h0 rfl rfl (k_needNode l n t _ qu wh hn i hi1 hi2 h0) ⟨rfl, rfl, Nat.le_of_ble_eq_true rfl, Nat.le_of_ble_eq_true rfl⟩ hl.1 (Nat.le_of_ble_eq_true rfl) dX4_answer_2 ⟨Nat.zero_le _, Nat.zero_le _⟩ rfl (fun w_1 H locs hu hw => ?_)
  rw [hu] at hw
  refine lv_aload_n hx hb dX4_answer_5 rfl (lv_at hl 0 rfl) ?_
  refine lv_iload_n hx hb dX4_answer_6 rfl (lv_at hl 2 rfl) ?_
  refine x_callW0 (As := [.int (nI k)]) (rest := []) hC vf_X4_62 hw hA (by decide) h0 rfl rfl (k_needNode l n t _ qu wh hn k hk1 hk2 h0) ⟨rfl, rfl, Nat.le_of_ble_eq_true rfl, Nat.le_of_ble_eq_true rfl⟩ hl.1 (Nat.le_of_ble_eq_true rfl) dX4_answer_7 ⟨Nat.zero_le _, Nat.zero_le _⟩ rfl (fun w_2 H locs hu hw => ?_)
  rw [hu] at hw
  refine lv_aload_n hx hb dX4_answer_10 rfl (lv_at hl 0 rfl) ?_
  refine lv_iload_n hx hb dX4_answer_11 rfl (lv_at hl 3 rfl) ?_
  refine x_callW0 (As := [.int (nI x)]) (rest := []) hC vf_X4_81 hw hA (by decide) h0 rfl rfl (k_needExponent l n t _ qu wh x hx0 h0) ⟨rfl, rfl, Nat.le_of_ble_eq_true rfl, Nat.le_of_ble_eq_true rfl⟩ hl.1 (Nat.le_of_ble_eq_true rfl) dX4_answer_12 ⟨Nat.zero_le _, Nat.zero_le _⟩ rfl (fun w_3 H locs hu hw => ?_)
  rw [hu] at hw
  refine lv_aload_n hx hb dX4_answer_15 rfl (lv_at hl 0 rfl) ?_
  exact x_prop (As := []) (rest := []) hC vf_X4_66 hlocks htab hw hT (by decide) h0 rfl rfl (k_needOpenT l hl0 n t qu wh h0) ⟨rfl, rfl, Nat.le_of_ble_eq_true rfl, Nat.le_of_ble_eq_true rfl⟩ hl.1 (Nat.le_of_ble_eq_true rfl) dX4_answer_16 ⟨Nat.le_of_ble_eq_true rfl, Nat.le_of_ble_eq_true rfl⟩ rfl
set_option maxHeartbeats 4000000 in
set_option maxRecDepth 100000 in
theorem c_answerS2 (l : Launch) (hl0 : l.stackTraces = false) {D : va_G} {cI cJ cZ cD : ClassId} {ad : Nat → Nat} {sa : Nat → Nat} {w : Nat → va_E} {sz : Nat} (n t cl qu en kp : Nat) (dl ou cp ks pt : Nat → Nat) (co sh : Nat → Nat → Nat) (vs : Nat → Int64) (hok : OkS n t cl qu en kp dl ou cp ks pt co sh) (hRC : RC ad cI cJ cD w n t cl qu en kp dl ou cp ks pt co sh vs) (i k : Nat) (hi1 : 1 ≤ i) (hi2 : i ≤ n) (hk1 : 1 ≤ k) (hk2 : k ≤ n) (x : Nat) (hx0 : x < 1073741789) (hcl0 : cl = 0) (hcp0 : ¬ tb (cp i) k = 1)  : MT l yX4_answer (.code yX4_answer cX4_answer 4 (some .boolean)) ({ frames := 6, cells := 1, slots := 6, locals := 82 }) [.ref (ad 0), .int (nI i), .int (nI k), .int (nI x)] D (tyL cI cJ cZ cD) ad 89 w sz sa "java/lang/IllegalStateException" := by
  refine MT.of (by decide) (Nat.le_of_ble_eq_true rfl) ?_
  intro p e s m below meth c ls hC hlocks htab hl hw hT
  obtain ⟨hx, hb, hml, hown, hts⟩ := id hC
  have hA : ∀ q, s.heap.size ≤ q → xA ad 89 s.heap.size q := fun q h => Or.inr h
  have hl : lv_has ls 4 [(0, .ref (ad 0)), (1, .int (nI i)), (2, .int (nI k)), (3, .int (nI x))] := hl
  obtain ⟨⟨wh, h0, hwh⟩, ⟨df, hDa, hdf⟩, hRd, ⟨kf, pf, hKf, hPf, hky⟩, ⟨msg, bas, vf, ptf, ivf, hR, hVs, hPt, hIv, hmsg, hptv, hiv⟩, ⟨sa0, sx0, sy0, hSt⟩⟩ := id hRC
  obtain ⟨⟨hn, ht, hcl, hqu, hen, hkp⟩, hle, ⟨hqb, hkb, hcb⟩, hvals, hclv, hptl, ⟨hz1, hz2, hz3⟩⟩ := id hok
  subst hcl0
  refine lv_aload_n hx hb dX4_answer_0 rfl (lv_at hl 0 rfl) ?_
  refine lv_iload_n hx hb dX4_answer_1 rfl (lv_at hl 1 rfl) ?_
  refine x_callW0 (As := [.int (nI i)]) (rest := []) hC vf_X4_62 hw hA (by decide) h0 rfl rfl (k_needNode l n t _ qu wh hn i hi1 hi2 h0) ⟨rfl, rfl, Nat.le_of_ble_eq_true rfl, Nat.le_of_ble_eq_true rfl⟩ hl.1 (Nat.le_of_ble_eq_true rfl) dX4_answer_2 ⟨Nat.zero_le _, Nat.zero_le _⟩ rfl (fun w_1 H locs hu hw => ?_)
  rw [hu] at hw
  refine lv_aload_n hx hb dX4_answer_5 rfl (lv_at hl 0 rfl) ?_
  refine lv_iload_n hx hb dX4_answer_6 rfl (lv_at hl 2 rfl) ?_
  refine x_callW0 (As := [.int (nI k)]) (rest := []) hC vf_X4_62 hw hA (by decide) h0 rfl rfl (k_needNode l n t _ qu wh hn k hk1 hk2 h0) ⟨rfl, rfl, Nat.le_of_ble_eq_true rfl, Nat.le_of_ble_eq_true rfl⟩ hl.1 (Nat.le_of_ble_eq_true rfl) dX4_answer_7 ⟨Nat.zero_le _, Nat.zero_le _⟩ rfl (fun w_2 H locs hu hw => ?_)
  rw [hu] at hw
  refine lv_aload_n hx hb dX4_answer_10 rfl (lv_at hl 0 rfl) ?_
  refine lv_iload_n hx hb dX4_answer_11 rfl (lv_at hl 3 rfl) ?_
  refine x_callW0 (As := [.int (nI x)]) (rest := []) hC vf_X4_81 hw hA (by decide) h0 rfl rfl (k_needExponent l n t _ qu wh x hx0 h0) ⟨rfl, rfl, Nat.le_of_ble_eq_true rfl, Nat.le_of_ble_eq_true rfl⟩ hl.1 (Nat.le_of_ble_eq_true rfl) dX4_answer_12 ⟨Nat.zero_le _, Nat.zero_le _⟩ rfl (fun w_3 H locs hu hw => ?_)
  rw [hu] at hw
  refine lv_aload_n hx hb dX4_answer_15 rfl (lv_at hl 0 rfl) ?_
  refine x_callW0 (As := []) (rest := []) hC vf_X4_66 hw hA (by decide) h0 rfl rfl (k_needOpen l n t qu wh h0) ⟨rfl, rfl, Nat.le_of_ble_eq_true rfl, Nat.le_of_ble_eq_true rfl⟩ hl.1 (Nat.le_of_ble_eq_true rfl) dX4_answer_16 ⟨Nat.zero_le _, Nat.zero_le _⟩ rfl (fun w_4 H locs hu hw => ?_)
  rw [hu] at hw
  obtain ⟨cm, rt, gv, hD, hCm, hRt, hGv, hval⟩ := hRd (i) (by omega)
  obtain ⟨g1, g2, g3⟩ := hle i
  have htb := tb_lt (cp i) k
  refine lv_aload_n hx hb dX4_answer_19 rfl (lv_at hl 0 rfl) ?_
  refine gf_X4_11 hx hb hts hown hw (by decide) h0 rfl dX4_answer_20 ?_
  refine lv_iload_n hx hb dX4_answer_23 rfl (lv_at hl 1 rfl) ?_
  refine x_aald hx hb hw (by decide) 3 hDa rfl (j := i) (by omega) (by decide) (hdf _ (by omega)) dX4_answer_24 ?_
  refine lv_iload_n hx hb dX4_answer_25 rfl (lv_at hl 2 rfl) ?_
  refine x_callW1 (As := [.int (nI k)]) (rest := []) hC vf_X4_110 hw hA (by omega) hD rfl rfl (k_hasComplaintOf l i (by omega) (cp i) (by omega) _ _ k (by omega) hD) ⟨rfl, rfl, Nat.le_of_ble_eq_true rfl, Nat.le_of_ble_eq_true rfl⟩ hl.1 (Nat.le_of_ble_eq_true rfl) dX4_answer_26 ⟨Nat.zero_le _, Nat.zero_le _⟩ rfl (fun w_5 H locs hu hw => ?_)
  rw [hu] at hw
  rw [show tb (cp i) k = 0 by omega]
  refine lv_if_ne (tgt := 42) hx hb dX4_answer_29 (by decide) (fun q1 => absurd (by decide) q1) (fun q1 => ?_)
  exact x_throwISE (is := 114) (text := "there is no such complaint") hl0 hC hlocks htab hw hT (by decide +kernel) hl.1 dX4_answer_32 dX4_answer_35 dX4_answer_36 dX4_answer_38 dX4_answer_41 (Nat.le_of_ble_eq_true rfl) (Nat.le_of_ble_eq_true rfl) ⟨Nat.le_of_ble_eq_true rfl, Nat.le_of_ble_eq_true rfl⟩
