/-! the ring's calls: close, key, round, says, offer, value, publish, ended, random, about -/
def csm (qu : Nat) (co : Nat → Nat → Nat) (n : Nat) : Nat := ssm qu (fun i _ => co i 0) 0 n
def ksF (qu : Nat) (co sh : Nat → Nat → Nat) (n : Nat) : Nat → Nat := fun k => (if k = 0 then csm qu co n else ssm qu sh k n) % 1073741789
theorem ksF_lt (qu : Nat) (co sh : Nat → Nat → Nat) (n k : Nat) : ksF qu co sh n k < 1073741789 := Nat.mod_lt _ (by decide)
theorem ksF_p {qu : Nat} {co sh : Nat → Nat → Nat} {n k : Nat} (h : 1 ≤ k) : ksF qu co sh n k = ssm qu sh k n % 1073741789 := by
  unfold ksF
  rw [if_neg (by omega)]
theorem wpk_csm (qu : Nat) (co : Nat → Nat → Nat) : ∀ n, wpk qu co n = 4 ^ csm qu co n % 2147483579 := by
  intro n
  induction n with
  | zero => exact (by decide : 1 = 4 ^ 0 % 2147483579)
  | succ n ih =>
    show (if _ then _ else _) = 4 ^ (csm qu co n + (if _ then _ else _)) % 2147483579
    by_cases h : tb qu (n + 1) = 1
    · rw [if_pos h, if_pos h, ih, Nat.pow_add, Nat.mul_mod (4 ^ _)]
    · rw [if_neg h, if_neg h]; exact ih
theorem wpk_ks (qu : Nat) (co sh : Nat → Nat → Nat) (n : Nat) : wpk qu co n = 4 ^ ksF qu co sh n 0 % 2147483579 := by
  unfold ksF
  rw [if_pos rfl, g_e]
  exact wpk_csm qu co n
theorem qf_dl {dl ou cp : Nat → Nat} {n : Nat} : ∀ i, tb (qf dl ou cp n) i = 1 → (1 ≤ i ∧ i ≤ n) ∧ dl i = 1 ∧ ou i = 0 ∧ cp i = 0 := by
  induction n with
  | zero => intro i h; rw [show qf dl ou cp 0 = 0 from rfl, tb_zero] at h; exact absurd h (by decide)
  | succ n ih =>
    intro i h
    by_cases hc : dl (n + 1) = 1 ∧ ou (n + 1) = 0 ∧ cp (n + 1) = 0
    · rw [show qf dl ou cp (n + 1) = _ from if_pos hc, tb_or] at h
      by_cases hi : i = n + 1
      · subst hi; exact ⟨⟨by omega, by omega⟩, hc⟩
      · rw [if_neg hi] at h
        obtain ⟨h1, h2⟩ := ih i h
        exact ⟨⟨by omega, by omega⟩, h2⟩
    · rw [show qf dl ou cp (n + 1) = _ from if_neg hc] at h
      obtain ⟨h1, h2⟩ := ih i h
      exact ⟨⟨by omega, by omega⟩, h2⟩
theorem nI_nz {n : Nat} (h : n < 2 ^ 31) (h1 : n ≠ 0) : ¬ nI n = 0 := fun q => h1 ((nI_z h).mp q)
theorem sw_out {x : Int32} {b : Nat} (hb : b < 2 ^ 31) (h : x < 0 ∨ ¬ x ≤ nI b) : x.toInt < 0 ∨ (b : Int) < x.toInt := by
  rcases h with h | h
  · exact Or.inl (by have := Int32.lt_iff_toInt_lt.mp h; rwa [Int32.toInt_zero] at this)
  · refine Or.inr ?_
    have h2 : ¬ x.toInt ≤ (nI b).toInt := fun q => h (Int32.le_iff_toInt_le.mpr q)
    rw [nI_toInt hb] at h2
    omega
theorem cnt_congr {f g : Nat → Nat} (n : Nat) (h : ∀ i, 1 ≤ i → i ≤ n → f i = g i) : cnt f n = cnt g n := by
  induction n with
  | zero => rfl
  | succ n ih =>
    show cnt f n + _ = cnt g n + _
    rw [ih (fun i h1 h2 => h i h1 (by omega)), h (n + 1) (by omega) (by omega)]
/-- which bits may go to value -/
def vOk (t kp : Nat) (x : Int32) : Prop := bcI x = nI t ∧ x &&& (nI kp ^^^ (-1)) = 0
theorem vOk_of {kp : Nat} {x : Int32} (hkp : kp < 2 ^ 17) (h : x &&& (nI kp ^^^ (-1)) = 0) : ∃ b : Nat, b < 2 ^ 17 ∧ x = nI b ∧ ∀ k, tb b k = 1 → tb kp k = 1 := by
  have hb : x.toBitVec &&& ~~~ (BitVec.ofNat 32 kp) = 0#32 := by
    have h1 := congrArg Int32.toBitVec h
    rw [Int32.toBitVec_and, Int32.toBitVec_xor] at h1
    have h2 : (nI kp).toBitVec ^^^ (-1 : Int32).toBitVec = ~~~ (BitVec.ofNat 32 kp) := by
      rw [show (-1 : Int32).toBitVec = BitVec.allOnes 32 by decide, BitVec.xor_allOnes]
      rfl
    rw [h2] at h1
    exact h1
  have hs : ∀ k, x.toBitVec.toNat.testBit k = true → kp.testBit k = true := by
    intro k hk
    have hk32 : k < 32 := by
      apply Nat.lt_of_not_le
      intro q
      rw [Nat.testBit_lt_two_pow (Nat.lt_of_lt_of_le x.toBitVec.isLt (Nat.pow_le_pow_right (by decide) q))] at hk
      exact absurd hk (by decide)
    have h1 := congrArg (fun b => b.getLsbD k) hb
    simp only [BitVec.getLsbD_and, BitVec.getLsbD_not, hk32, decide_true, Bool.true_and, BitVec.getLsbD_ofNat, BitVec.getLsbD_zero] at h1
    have h2 : x.toBitVec.getLsbD k = true := hk
    rw [h2] at h1
    simpa using h1
  have hle : x.toBitVec.toNat < 2 ^ 17 := by
    apply Nat.lt_pow_two_of_testBit
    intro i hi
    cases hq : x.toBitVec.toNat.testBit i with
    | false => rfl
    | true =>
      have := hs i hq
      rw [Nat.testBit_lt_two_pow (Nat.lt_of_lt_of_le hkp (Nat.pow_le_pow_right (by decide) hi))] at this
      exact absurd this (by decide)
  refine ⟨x.toBitVec.toNat, hle, ?_, ?_⟩
  · apply Int32.toBitVec_inj.mp
    show x.toBitVec = BitVec.ofNat 32 x.toBitVec.toNat
    rw [BitVec.ofNat_toNat, BitVec.setWidth_eq]
  · intro k hk
    rw [tb_test] at hk ⊢
    by_cases hq : x.toBitVec.toNat.testBit k = true
    · rw [if_pos (hs k hq)]
    · rw [if_neg hq] at hk; exact absurd hk (by decide)

set_option maxHeartbeats 4000000 in
set_option maxRecDepth 100000 in
theorem c_close (l : Launch) {D : va_G} {cI cJ cZ cD : ClassId} {ad : Nat → Nat} {w : Nat → va_E} {sz : Nat} (n t cl qu en kp : Nat) (dl ou cp ks pt : Nat → Nat) (co sh : Nat → Nat → Nat) (vs : Nat → Int64) (hok : OkS n t cl qu en kp dl ou cp ks pt co sh) (hRC : RC ad cI cJ cD w n t cl qu en kp dl ou cp ks pt co sh vs) (z : Int64) (hcl0 : cl = 0) (hq0 : qf dl ou cp n ≠ 0) (ht1 : 1 ≤ t)  : MW l yX4_close (.code yX4_close cX4_close 4 (some .int)) ({ frames := 4, cells := 0, slots := 0, locals := 123 }) [.ref (ad 0), .long z] D (tyL cI cJ cZ cD) ad 89 w sz (some (.int (nI (pcN (qf dl ou cp n))))) (fun u => (∀ z, 76 < z → u z = w z) ∧ RC ad cI cJ cD u n t 1 (qf dl ou cp n) 0 0 dl ou cp (ksF (qf dl ou cp n) co sh n) pt co sh (vp_updL vs 0 z)) := by
  refine MW.of (by decide) (Nat.le_of_ble_eq_true rfl) ?_
  intro p e s m below meth c ls hC hr hlocks hl hw
  obtain ⟨hx, hb, hml, hown, hts⟩ := id hC
  have hA : ∀ q, s.heap.size ≤ q → xA ad 89 s.heap.size q := fun q h => Or.inr h
  have hl : lv_has ls 4 [(0, .ref (ad 0)), (1, .long z)] := hl
  obtain ⟨⟨wh, h0, hwh⟩, ⟨df, hDa, hdf⟩, hRd, ⟨kf, pf, hKf, hPf, hky⟩, ⟨msg, bas, vf, ptf, ivf, hR, hVs, hPt, hIv, hmsg, hptv, hiv⟩, ⟨sa0, sx0, sy0, hSt⟩⟩ := id hRC
  obtain ⟨⟨hn, ht, hcl, hqu, hen, hkp⟩, hle, ⟨hqb, hkb, hcb⟩, hvals, hclv, hptl, ⟨hz1, hz2, hz3⟩⟩ := id hok
  subst hcl0
  refine lv_aload_n hx hb dX4_close_0 rfl (lv_at hl 0 rfl) ?_
  refine x_callW0 (As := []) (rest := []) hC vf_X4_66 hw hA (by decide) h0 rfl rfl (k_needOpen l n t qu wh h0) ⟨rfl, rfl, Nat.le_of_ble_eq_true rfl, Nat.le_of_ble_eq_true rfl⟩ hl.1 (Nat.le_of_ble_eq_true rfl) dX4_close_1 ⟨Nat.zero_le _, Nat.zero_le _⟩ rfl (fun w_1 H locs hu hw => ?_)
  rw [hu] at hw
  refine lv_aload_n hx hb dX4_close_4 rfl (lv_at hl 0 rfl) ?_
  refine x_callW1 (As := []) (rest := []) hC vf_X4_119 hw hA (by decide) h0 rfl rfl (k_findQ l n t 0 qu wh hn df hdf dl ou cp co sh hRd hle h0 hDa) ⟨rfl, rfl, Nat.le_of_ble_eq_true rfl, Nat.le_of_ble_eq_true rfl⟩ hl.1 (Nat.le_of_ble_eq_true rfl) dX4_close_5 ⟨Nat.zero_le _, Nat.zero_le _⟩ rfl (fun w_2 H locs hu hw => ?_)
  rw [hu] at hw
  have hqL := qf_lt dl ou cp n hn
  have hpc := pcN_le (qf dl ou cp n)
  refine lv_istore_n (lv' := [(3, .int (nI (qf dl ou cp n))), (0, .ref (ad 0)), (1, .long z)]) hx hb dX4_close_8 rfl hl (by decide) rfl (fun ls hl => ?_)
  refine lv_iload_n hx hb dX4_close_9 rfl (lv_at hl 0 rfl) ?_
  refine lv_if_ne (tgt := 23) hx hb dX4_close_10 (by decide) (fun q1 => ?_) (fun q1 => absurd q1 (nI_nz (by omega) hq0))
  refine lv_aload_n hx hb dX4_close_23 rfl (lv_at hl 1 rfl) ?_
  refine lv_iload_n hx hb dX4_close_24 rfl (lv_at hl 0 rfl) ?_
  refine pf_X4_55 (v := .int (nI (qf dl ou cp n))) hx hb hts hown hw (by decide) h0 rfl rfl (Nat.le_of_ble_eq_true rfl) dX4_close_25 (fun w_3 H locs ew_4 hw => ?_)
  have hc_5 : w_3 0 = .inr (3, [.ref (ad 1), .ref (ad 70), .ref (ad 71), .ref (ad 72), .ref (ad 76), .int (nI n), .int (nI t), .int (nI 0), .int (nI (qf dl ou cp n)), .int wh]) := by rw [ew_4]; exact va_up_self _ _ _
  have hc_6 : w_3 1 = .inl (cD, 17, .inr (.inr (.inr (.inr df)))) := by rw [ew_4]; exact (va_up_ne _ _ (by omega)).trans hDa
  have hc_7 : w_3 70 = .inl (cI, 17, .inl kf) := by rw [ew_4]; exact (va_up_ne _ _ (by omega)).trans hKf
  have hc_8 : w_3 71 = .inl (cI, 17, .inl pf) := by rw [ew_4]; exact (va_up_ne _ _ (by omega)).trans hPf
  have hc_9 : w_3 72 = .inr (1, [.ref (ad 73), .ref (ad 74), .ref (ad 75), .int (nI en), .int (nI kp), .long msg, .int bas]) := by rw [ew_4]; exact (va_up_ne _ _ (by omega)).trans hR
  have hc_10 : w_3 73 = .inl (cJ, 301, .inr (.inl vf)) := by rw [ew_4]; exact (va_up_ne _ _ (by omega)).trans hVs
  have hc_11 : w_3 74 = .inl (cI, 17, .inl ptf) := by rw [ew_4]; exact (va_up_ne _ _ (by omega)).trans hPt
  have hc_12 : w_3 75 = .inl (cI, 16, .inl ivf) := by rw [ew_4]; exact (va_up_ne _ _ (by omega)).trans hIv
  have hc_13 : w_3 76 = .inr (2, [.int sa0, .int sx0, .int sy0]) := by rw [ew_4]; exact (va_up_ne _ _ (by omega)).trans hSt
  refine lv_aload_n hx hb dX4_close_28 rfl (lv_at hl 1 rfl) ?_
  have hne1 : ∀ z, z ≠ 0 → w_3 z = w z := fun z hz => by rw [ew_4]; exact va_up_ne _ _ hz
  have hRd1 := hRd.of (u := w_3) (fun z h1 h2 => hne1 z (by omega))
  refine x_callW0 (As := []) (rest := []) hC vf_X4_124 hw hA (by decide) hc_5 rfl rfl (k_makeKeys l n t 0 (qf dl ou cp n) wh hn df hdf dl ou cp co sh hRd1 hqL ht1 (fun i h1 h2 h3 => (qf_dl i h3).2.1) (fun i k h1 h2 h3 h4 h5 => (hvals i h1 h2 h5).2 k h3 h4) kf pf hc_5 hc_6 hc_7 hc_8) ⟨rfl, rfl, Nat.le_of_ble_eq_true rfl, Nat.le_of_ble_eq_true rfl⟩ hl.1 (Nat.le_of_ble_eq_true rfl) dX4_close_29 ⟨Nat.zero_le _, Nat.zero_le _⟩ rfl (fun w_14 H locs hu hw => ?_)
  obtain ⟨kf2, pf2, hkp2, hu⟩ := hu
  have h0b : w_14 0 = .inr (3, [.ref (ad 1), .ref (ad 70), .ref (ad 71), .ref (ad 72), .ref (ad 76), .int (nI n), .int (nI t), .int (nI 0), .int (nI (qf dl ou cp n)), .int (nI (wpk (qf dl ou cp n) co n))]) := by rw [hu, va_up_ne _ _ (by decide), va_up_ne _ _ (by decide)]; exact va_up_self _ _ _
  have h70 : w_14 70 = .inl (cI, 17, .inl kf2) := by rw [hu, va_up_ne _ _ (by decide)]; exact va_up_self _ _ _
  have h71 : w_14 71 = .inl (cI, 17, .inl pf2) := by rw [hu]; exact va_up_self _ _ _
  have hne2 : ∀ z, z ≠ 0 → z ≠ 70 → z ≠ 71 → w_14 z = w z := fun z h1 h2 h3 => by rw [hu, va_up_ne _ _ h3, va_up_ne _ _ h2, va_up_ne _ _ h1]; exact hne1 z h1
  have hR2 := (hne2 72 (by decide) (by decide) (by decide)).trans hR
  have hV2 := (hne2 73 (by decide) (by decide) (by decide)).trans hVs
  refine lv_aload_n hx hb dX4_close_32 rfl (lv_at hl 1 rfl) ?_
  refine gf_X4_26 hx hb hts hown hw (by decide) h0b rfl dX4_close_33 ?_
  refine lv_lload_n hx hb dX4_close_36 rfl (lv_at hl 2 rfl) ?_
  refine x_callW0 (As := [.long z]) (rest := []) hC vf_X4_127 hw hA (by decide) hR2 rfl rfl (k_startFrom l _ _ _ _ vf z hR2 hV2) ⟨rfl, rfl, Nat.le_of_ble_eq_true rfl, Nat.le_of_ble_eq_true rfl⟩ hl.1 (Nat.le_of_ble_eq_true rfl) dX4_close_37 ⟨Nat.zero_le _, Nat.zero_le _⟩ rfl (fun w_15 H locs hu2 hw => ?_)
  have h0c : w_15 0 = .inr (3, [.ref (ad 1), .ref (ad 70), .ref (ad 71), .ref (ad 72), .ref (ad 76), .int (nI n), .int (nI t), .int (nI 0), .int (nI (qf dl ou cp n)), .int (nI (wpk (qf dl ou cp n) co n))]) := by rw [hu2, va_up_ne _ _ (by decide), va_up_ne _ _ (by decide)]; exact h0b
  refine lv_aload_n hx hb dX4_close_40 rfl (lv_at hl 1 rfl) ?_
  refine lv_iconst (v := nI 1) hx hb dX4_close_41 (by decide) ?_
  refine pf_X4_51 (v := .int (nI 1)) hx hb hts hown hw (by decide) h0c rfl (by decide) (Nat.le_of_ble_eq_true rfl) dX4_close_42 (fun w_16 H locs ew_17 hw => ?_)
  have hc_18 : w_16 0 = .inr (3, [.ref (ad 1), .ref (ad 70), .ref (ad 71), .ref (ad 72), .ref (ad 76), .int (nI n), .int (nI t), .int (nI 1), .int (nI (qf dl ou cp n)), .int (nI (wpk (qf dl ou cp n) co n))]) := by rw [ew_17]; exact va_up_self _ _ _
  refine lv_aload_n hx hb dX4_close_45 rfl (lv_at hl 1 rfl) ?_
  refine gf_X4_55 hx hb hts hown hw (by decide) hc_18 rfl dX4_close_46 ?_
  refine x_callS (As := [.int (nI (qf dl ou cp n))]) (rest := []) hC sf_X4_131 (k_bitCount l (nI (qf dl ou cp n))) ⟨rfl, rfl, Nat.le_of_ble_eq_true rfl, Nat.le_of_ble_eq_true rfl⟩ hl.1 (Nat.le_of_ble_eq_true rfl) dX4_close_49 ⟨Nat.zero_le _, Nat.zero_le _⟩ rfl ?_
  rw [bc_pc (by omega)]
  have hne3 : ∀ z, z ≠ 0 → z ≠ 70 → z ≠ 71 → z ≠ 72 → z ≠ 73 → w_16 z = w z := fun z h1 h2 h3 h4 h5 => by rw [ew_17, va_up_ne _ _ h1, hu2, va_up_ne _ _ h4, va_up_ne _ _ h5]; exact hne2 z h1 h2 h3
  have hne4 : ∀ z, z ≠ 0 → w_16 z = w_15 z := fun z h1 => by rw [ew_17]; exact va_up_ne _ _ h1
  refine x_wretI hx hb hr hlocks hw ⟨fun z hz => hne3 z (by omega) (by omega) (by omega) (by omega) (by omega), ⟨_, hc_18, fun _ => by rw [wpk_ks _ _ sh]⟩, ⟨df, (hne3 1 (by decide) (by decide) (by decide) (by decide) (by decide)).trans hDa, hdf⟩, hRd.of (fun z h1 h2 => hne3 z (by omega) (by omega) (by omega) (by omega) (by omega)), ⟨kf2, pf2, ?_, ?_, fun _ k h1 h2 => ?_⟩, ⟨msgF z 0, nI (basF (msgF z 0)), vp_updL vf 0 z, ptf, ivf, ?_, ?_, (hne3 74 (by decide) (by decide) (by decide) (by decide) (by decide)).trans hPt, (hne3 75 (by decide) (by decide) (by decide) (by decide) (by decide)).trans hIv, fun _ => ⟨by rw [pk_uLs], by rw [pk_uLs], fun j hj => ?_⟩, fun k q => absurd q (by rw [tb_zero]; decide), hiv⟩, ⟨sa0, sx0, sy0, (hne3 76 (by decide) (by decide) (by decide) (by decide) (by decide)).trans hSt⟩⟩ dX4_close_52
  · rw [hne4 70 (by decide), hu2, va_up_ne _ _ (by decide), va_up_ne _ _ (by decide)]; exact h70
  · rw [hne4 71 (by decide), hu2, va_up_ne _ _ (by decide), va_up_ne _ _ (by decide)]; exact h71
  · rw [ksF_p h1]; exact hkp2 k h1 h2
  · rw [hne4 72 (by decide), hu2]; exact va_up_self _ _ _
  · rw [hne4 73 (by decide), hu2, va_up_ne _ _ (by decide)]; exact va_up_self _ _ _
  · obtain rfl : j = 0 := by omega
    rw [pk_uLs, pk_uLs]
set_option maxHeartbeats 4000000 in
set_option maxRecDepth 100000 in
theorem c_closeS1 (l : Launch) (hl0 : l.stackTraces = false) {D : va_G} {cI cJ cZ cD : ClassId} {ad : Nat → Nat} {sa : Nat → Nat} {w : Nat → va_E} {sz : Nat} (n t cl qu en kp : Nat) (dl ou cp ks pt : Nat → Nat) (co sh : Nat → Nat → Nat) (vs : Nat → Int64) (hok : OkS n t cl qu en kp dl ou cp ks pt co sh) (hRC : RC ad cI cJ cD w n t cl qu en kp dl ou cp ks pt co sh vs) (z : Int64) (hcl0 : cl = 1)  : MT l yX4_close (.code yX4_close cX4_close 4 (some .int)) ({ frames := 7, cells := 1, slots := 6, locals := 110 }) [.ref (ad 0), .long z] D (tyL cI cJ cZ cD) ad 89 w sz sa "java/lang/IllegalStateException" := by
  refine MT.of (by decide) (Nat.le_of_ble_eq_true rfl) ?_
  intro p e s m below meth c ls hC hlocks htab hl hw hT
  obtain ⟨hx, hb, hml, hown, hts⟩ := id hC
  have hA : ∀ q, s.heap.size ≤ q → xA ad 89 s.heap.size q := fun q h => Or.inr h
  have hl : lv_has ls 4 [(0, .ref (ad 0)), (1, .long z)] := hl
  obtain ⟨⟨wh, h0, hwh⟩, ⟨df, hDa, hdf⟩, hRd, ⟨kf, pf, hKf, hPf, hky⟩, ⟨msg, bas, vf, ptf, ivf, hR, hVs, hPt, hIv, hmsg, hptv, hiv⟩, ⟨sa0, sx0, sy0, hSt⟩⟩ := id hRC
  obtain ⟨⟨hn, ht, hcl, hqu, hen, hkp⟩, hle, ⟨hqb, hkb, hcb⟩, hvals, hclv, hptl, ⟨hz1, hz2, hz3⟩⟩ := id hok
  subst hcl0
  refine lv_aload_n hx hb dX4_close_0 rfl (lv_at hl 0 rfl) ?_
  exact x_prop (As := []) (rest := []) hC vf_X4_66 hlocks htab hw hT (by decide) h0 rfl rfl (k_needOpenT l hl0 n t qu wh h0) ⟨rfl, rfl, Nat.le_of_ble_eq_true rfl, Nat.le_of_ble_eq_true rfl⟩ hl.1 (Nat.le_of_ble_eq_true rfl) dX4_close_1 ⟨Nat.le_of_ble_eq_true rfl, Nat.le_of_ble_eq_true rfl⟩ rfl
set_option maxHeartbeats 4000000 in
set_option maxRecDepth 100000 in
theorem c_closeS2 (l : Launch) (hl0 : l.stackTraces = false) {D : va_G} {cI cJ cZ cD : ClassId} {ad : Nat → Nat} {sa : Nat → Nat} {w : Nat → va_E} {sz : Nat} (n t cl qu en kp : Nat) (dl ou cp ks pt : Nat → Nat) (co sh : Nat → Nat → Nat) (vs : Nat → Int64) (hok : OkS n t cl qu en kp dl ou cp ks pt co sh) (hRC : RC ad cI cJ cD w n t cl qu en kp dl ou cp ks pt co sh vs) (z : Int64) (hcl0 : cl = 0) (hq0 : qf dl ou cp n = 0)  : MT l yX4_close (.code yX4_close cX4_close 4 (some .int)) ({ frames := 6, cells := 1, slots := 6, locals := 82 }) [.ref (ad 0), .long z] D (tyL cI cJ cZ cD) ad 89 w sz sa "java/lang/IllegalStateException" := by
  refine MT.of (by decide) (Nat.le_of_ble_eq_true rfl) ?_
  intro p e s m below meth c ls hC hlocks htab hl hw hT
  obtain ⟨hx, hb, hml, hown, hts⟩ := id hC
  have hA : ∀ q, s.heap.size ≤ q → xA ad 89 s.heap.size q := fun q h => Or.inr h
  have hl : lv_has ls 4 [(0, .ref (ad 0)), (1, .long z)] := hl
  obtain ⟨⟨wh, h0, hwh⟩, ⟨df, hDa, hdf⟩, hRd, ⟨kf, pf, hKf, hPf, hky⟩, ⟨msg, bas, vf, ptf, ivf, hR, hVs, hPt, hIv, hmsg, hptv, hiv⟩, ⟨sa0, sx0, sy0, hSt⟩⟩ := id hRC
  obtain ⟨⟨hn, ht, hcl, hqu, hen, hkp⟩, hle, ⟨hqb, hkb, hcb⟩, hvals, hclv, hptl, ⟨hz1, hz2, hz3⟩⟩ := id hok
  subst hcl0
  refine lv_aload_n hx hb dX4_close_0 rfl (lv_at hl 0 rfl) ?_
  refine x_callW0 (As := []) (rest := []) hC vf_X4_66 hw hA (by decide) h0 rfl rfl (k_needOpen l n t qu wh h0) ⟨rfl, rfl, Nat.le_of_ble_eq_true rfl, Nat.le_of_ble_eq_true rfl⟩ hl.1 (Nat.le_of_ble_eq_true rfl) dX4_close_1 ⟨Nat.zero_le _, Nat.zero_le _⟩ rfl (fun w_1 H locs hu hw => ?_)
  rw [hu] at hw
  refine lv_aload_n hx hb dX4_close_4 rfl (lv_at hl 0 rfl) ?_
  refine x_callW1 (As := []) (rest := []) hC vf_X4_119 hw hA (by decide) h0 rfl rfl (k_findQ l n t 0 qu wh hn df hdf dl ou cp co sh hRd hle h0 hDa) ⟨rfl, rfl, Nat.le_of_ble_eq_true rfl, Nat.le_of_ble_eq_true rfl⟩ hl.1 (Nat.le_of_ble_eq_true rfl) dX4_close_5 ⟨Nat.zero_le _, Nat.zero_le _⟩ rfl (fun w_2 H locs hu hw => ?_)
  rw [hu] at hw
  rw [hq0]
  refine lv_istore_n (lv' := [(3, .int (nI 0)), (0, .ref (ad 0)), (1, .long z)]) hx hb dX4_close_8 rfl hl (by decide) rfl (fun ls hl => ?_)
  refine lv_iload_n hx hb dX4_close_9 rfl (lv_at hl 0 rfl) ?_
  refine lv_if_ne (tgt := 23) hx hb dX4_close_10 (by decide) (fun q1 => absurd (by decide) q1) (fun q1 => ?_)
  exact x_throwISE (is := 122) (text := "nobody would be qualified") hl0 hC hlocks htab hw hT (by decide +kernel) hl.1 dX4_close_13 dX4_close_16 dX4_close_17 dX4_close_19 dX4_close_22 (Nat.le_of_ble_eq_true rfl) (Nat.le_of_ble_eq_true rfl) ⟨Nat.le_of_ble_eq_true rfl, Nat.le_of_ble_eq_true rfl⟩
set_option maxHeartbeats 4000000 in
set_option maxRecDepth 100000 in
theorem c_key0 (l : Launch) {D : va_G} {cI cJ cZ cD : ClassId} {ad : Nat → Nat} {w : Nat → va_E} {sz : Nat} (n t cl qu en kp : Nat) (dl ou cp ks pt : Nat → Nat) (co sh : Nat → Nat → Nat) (vs : Nat → Int64) (hok : OkS n t cl qu en kp dl ou cp ks pt co sh) (hRC : RC ad cI cJ cD w n t cl qu en kp dl ou cp ks pt co sh vs) (hcl0 : cl = 1)  : MW l yX4_key (.code yX4_key cX4_key 4 (some .int)) ({ frames := 1, cells := 0, slots := 0, locals := 28 }) [.ref (ad 0), .int (nI 0), .int (nI 1)] D (tyL cI cJ cZ cD) ad 89 w sz (some (.int (nI (4 ^ ks 0 % 2147483579)))) (fun u => u = w) := by
  refine MW.of (by decide) (Nat.le_of_ble_eq_true rfl) ?_
  intro p e s m below meth c ls hC hr hlocks hl hw
  obtain ⟨hx, hb, hml, hown, hts⟩ := id hC
  have hA : ∀ q, s.heap.size ≤ q → xA ad 89 s.heap.size q := fun q h => Or.inr h
  have hl : lv_has ls 4 [(0, .ref (ad 0)), (1, .int (nI 0)), (2, .int (nI 1))] := hl
  obtain ⟨⟨wh, h0, hwh⟩, ⟨df, hDa, hdf⟩, hRd, ⟨kf, pf, hKf, hPf, hky⟩, ⟨msg, bas, vf, ptf, ivf, hR, hVs, hPt, hIv, hmsg, hptv, hiv⟩, ⟨sa0, sx0, sy0, hSt⟩⟩ := id hRC
  obtain ⟨⟨hn, ht, hcl, hqu, hen, hkp⟩, hle, ⟨hqb, hkb, hcb⟩, hvals, hclv, hptl, ⟨hz1, hz2, hz3⟩⟩ := id hok
  subst hcl0
  refine lv_iload_n hx hb dX4_key_0 rfl (lv_at hl 1 rfl) ?_
  refine lv_if_ne (tgt := 13) hx hb dX4_key_1 (by decide) (fun q1 => absurd (by decide) q1) (fun q1 => ?_)
  refine lv_iload_n hx hb dX4_key_4 rfl (lv_at hl 2 rfl) ?_
  refine lv_iconst (v := nI 1) hx hb dX4_key_5 (by decide) ?_
  refine lv_icmp_ne (tgt := 13) hx hb dX4_key_6 (by decide) (fun q2 => absurd (by decide) q2) (fun q2 => ?_)
  refine lv_iconst (v := nI 1) hx hb dX4_key_9 (by decide) ?_
  refine lv_goto (tgt := 14) hx hb dX4_key_10 (by decide) ?_
  refine lv_istore_n (lv' := [(3, .int (nI 1)), (0, .ref (ad 0)), (1, .int (nI 0)), (2, .int (nI 1))]) hx hb dX4_key_14 rfl hl (by decide) rfl (fun ls hl => ?_)
  refine lv_iload_n hx hb dX4_key_15 rfl (lv_at hl 0 rfl) ?_
  refine lv_if_ne (tgt := 30) hx hb dX4_key_16 (by decide) (fun q3 => ?_) (fun q3 => absurd q3 (by decide))
  refine lv_aload_n hx hb dX4_key_30 rfl (lv_at hl 1 rfl) ?_
  refine x_callW0 (As := []) (rest := []) hC vf_X4_141 hw hA (by decide) h0 rfl rfl (k_needClosed l n t qu wh h0) ⟨rfl, rfl, Nat.le_of_ble_eq_true rfl, Nat.le_of_ble_eq_true rfl⟩ hl.1 (Nat.le_of_ble_eq_true rfl) dX4_key_31 ⟨Nat.zero_le _, Nat.zero_le _⟩ rfl (fun w_1 H locs hu hw => ?_)
  rw [hu] at hw
  refine lv_iload_n hx hb dX4_key_34 rfl (lv_at hl 0 rfl) ?_
  refine lv_if_eq (tgt := 43) hx hb dX4_key_35 (by decide) (fun q4 => absurd q4 (by decide)) (fun q4 => ?_)
  refine lv_aload_n hx hb dX4_key_38 rfl (lv_at hl 1 rfl) ?_
  refine gf_X4_144 hx hb hts hown hw (by decide) h0 rfl dX4_key_39 ?_
  rw [hwh rfl]
  exact x_wretI hx hb hr hlocks hw rfl dX4_key_42
set_option maxHeartbeats 4000000 in
set_option maxRecDepth 100000 in
theorem c_keyN0 (l : Launch) {D : va_G} {cI cJ cZ cD : ClassId} {ad : Nat → Nat} {w : Nat → va_E} {sz : Nat} (n t cl qu en kp : Nat) (dl ou cp ks pt : Nat → Nat) (co sh : Nat → Nat → Nat) (vs : Nat → Int64) (hok : OkS n t cl qu en kp dl ou cp ks pt co sh) (hRC : RC ad cI cJ cD w n t cl qu en kp dl ou cp ks pt co sh vs) (k : Nat) (hk1 : 1 ≤ k) (hk2 : k ≤ n) (hcl0 : cl = 1)  : MW l yX4_key (.code yX4_key cX4_key 4 (some .int)) ({ frames := 1, cells := 0, slots := 0, locals := 30 }) [.ref (ad 0), .int (nI k), .int (nI 0)] D (tyL cI cJ cZ cD) ad 89 w sz (some (.int (nI (ks k)))) (fun u => u = w) := by
  refine MW.of (by decide) (Nat.le_of_ble_eq_true rfl) ?_
  intro p e s m below meth c ls hC hr hlocks hl hw
  obtain ⟨hx, hb, hml, hown, hts⟩ := id hC
  have hA : ∀ q, s.heap.size ≤ q → xA ad 89 s.heap.size q := fun q h => Or.inr h
  have hl : lv_has ls 4 [(0, .ref (ad 0)), (1, .int (nI k)), (2, .int (nI 0))] := hl
  obtain ⟨⟨wh, h0, hwh⟩, ⟨df, hDa, hdf⟩, hRd, ⟨kf, pf, hKf, hPf, hky⟩, ⟨msg, bas, vf, ptf, ivf, hR, hVs, hPt, hIv, hmsg, hptv, hiv⟩, ⟨sa0, sx0, sy0, hSt⟩⟩ := id hRC
  obtain ⟨⟨hn, ht, hcl, hqu, hen, hkp⟩, hle, ⟨hqb, hkb, hcb⟩, hvals, hclv, hptl, ⟨hz1, hz2, hz3⟩⟩ := id hok
  subst hcl0
  refine lv_iload_n hx hb dX4_key_0 rfl (lv_at hl 1 rfl) ?_
  refine lv_if_ne (tgt := 13) hx hb dX4_key_1 (by decide) (fun q1 => ?_) (fun q1 => absurd q1 (nI_nz (by omega) (by omega)))
  refine lv_iconst (v := nI 0) hx hb dX4_key_13 (by decide) ?_
  refine lv_istore_n (lv' := [(3, .int (nI 0)), (0, .ref (ad 0)), (1, .int (nI k)), (2, .int (nI 0))]) hx hb dX4_key_14 rfl hl (by decide) rfl (fun ls hl => ?_)
  refine lv_iload_n hx hb dX4_key_15 rfl (lv_at hl 0 rfl) ?_
  refine lv_if_ne (tgt := 30) hx hb dX4_key_16 (by decide) (fun q3 => absurd (by decide) q3) (fun q3 => ?_)
  refine lv_aload_n hx hb dX4_key_19 rfl (lv_at hl 1 rfl) ?_
  refine lv_iload_n hx hb dX4_key_20 rfl (lv_at hl 2 rfl) ?_
  refine x_callW0 (As := [.int (nI k)]) (rest := []) hC vf_X4_62 hw hA (by decide) h0 rfl rfl (k_needNode l n t _ qu wh hn k hk1 hk2 h0) ⟨rfl, rfl, Nat.le_of_ble_eq_true rfl, Nat.le_of_ble_eq_true rfl⟩ hl.1 (Nat.le_of_ble_eq_true rfl) dX4_key_21 ⟨Nat.zero_le _, Nat.zero_le _⟩ rfl (fun w_1 H locs hu hw => ?_)
  rw [hu] at hw
  refine lv_aload_n hx hb dX4_key_24 rfl (lv_at hl 1 rfl) ?_
  refine lv_iload_n hx hb dX4_key_25 rfl (lv_at hl 3 rfl) ?_
  refine lv_iconst (v := nI 1) hx hb dX4_key_26 (by decide) ?_
  refine x_callW0 (As := [.int (nI 0), .int (nI 1)]) (rest := []) hC vf_X4_137 hw hA (by decide) h0 rfl rfl (k_needWhat l n t 1 qu wh 0 1 (by decide) (by decide) h0) ⟨rfl, rfl, Nat.le_of_ble_eq_true rfl, Nat.le_of_ble_eq_true rfl⟩ hl.1 (Nat.le_of_ble_eq_true rfl) dX4_key_27 ⟨Nat.zero_le _, Nat.zero_le _⟩ rfl (fun w_2 H locs hu hw => ?_)
  rw [hu] at hw
  refine lv_aload_n hx hb dX4_key_30 rfl (lv_at hl 1 rfl) ?_
  refine x_callW0 (As := []) (rest := []) hC vf_X4_141 hw hA (by decide) h0 rfl rfl (k_needClosed l n t qu wh h0) ⟨rfl, rfl, Nat.le_of_ble_eq_true rfl, Nat.le_of_ble_eq_true rfl⟩ hl.1 (Nat.le_of_ble_eq_true rfl) dX4_key_31 ⟨Nat.zero_le _, Nat.zero_le _⟩ rfl (fun w_3 H locs hu hw => ?_)
  rw [hu] at hw
  refine lv_iload_n hx hb dX4_key_34 rfl (lv_at hl 0 rfl) ?_
  refine lv_if_eq (tgt := 43) hx hb dX4_key_35 (by decide) (fun q4 => ?_) (fun q4 => absurd (by decide) q4)
  refine lv_iload_n hx hb dX4_key_43 rfl (lv_at hl 3 rfl) ?_
  refine lv_if_ne (tgt := 56) hx hb dX4_key_44 (by decide) (fun q5 => absurd (by decide) q5) (fun q5 => ?_)
  refine lv_aload_n hx hb dX4_key_47 rfl (lv_at hl 1 rfl) ?_
  refine gf_X4_16 hx hb hts hown hw (by decide) h0 rfl dX4_key_48 ?_
  refine lv_iload_n hx hb dX4_key_51 rfl (lv_at hl 2 rfl) ?_
  refine x_iald hx hb hw (by decide) 0 hKf rfl (j := k) (by omega) (by decide) (hky rfl k hk1 hk2).1 dX4_key_52 ?_
  refine lv_goto (tgt := 62) hx hb dX4_key_53 (by decide) ?_
  exact x_wretI hx hb hr hlocks hw rfl dX4_key_62
set_option maxHeartbeats 4000000 in
set_option maxRecDepth 100000 in
theorem c_keyN1 (l : Launch) {D : va_G} {cI cJ cZ cD : ClassId} {ad : Nat → Nat} {w : Nat → va_E} {sz : Nat} (n t cl qu en kp : Nat) (dl ou cp ks pt : Nat → Nat) (co sh : Nat → Nat → Nat) (vs : Nat → Int64) (hok : OkS n t cl qu en kp dl ou cp ks pt co sh) (hRC : RC ad cI cJ cD w n t cl qu en kp dl ou cp ks pt co sh vs) (k : Nat) (hk1 : 1 ≤ k) (hk2 : k ≤ n) (hcl0 : cl = 1)  : MW l yX4_key (.code yX4_key cX4_key 4 (some .int)) ({ frames := 1, cells := 0, slots := 0, locals := 30 }) [.ref (ad 0), .int (nI k), .int (nI 1)] D (tyL cI cJ cZ cD) ad 89 w sz (some (.int (nI (4 ^ ks k % 2147483579)))) (fun u => u = w) := by
  refine MW.of (by decide) (Nat.le_of_ble_eq_true rfl) ?_
  intro p e s m below meth c ls hC hr hlocks hl hw
  obtain ⟨hx, hb, hml, hown, hts⟩ := id hC
  have hA : ∀ q, s.heap.size ≤ q → xA ad 89 s.heap.size q := fun q h => Or.inr h
  have hl : lv_has ls 4 [(0, .ref (ad 0)), (1, .int (nI k)), (2, .int (nI 1))] := hl
  obtain ⟨⟨wh, h0, hwh⟩, ⟨df, hDa, hdf⟩, hRd, ⟨kf, pf, hKf, hPf, hky⟩, ⟨msg, bas, vf, ptf, ivf, hR, hVs, hPt, hIv, hmsg, hptv, hiv⟩, ⟨sa0, sx0, sy0, hSt⟩⟩ := id hRC
  obtain ⟨⟨hn, ht, hcl, hqu, hen, hkp⟩, hle, ⟨hqb, hkb, hcb⟩, hvals, hclv, hptl, ⟨hz1, hz2, hz3⟩⟩ := id hok
  subst hcl0
  refine lv_iload_n hx hb dX4_key_0 rfl (lv_at hl 1 rfl) ?_
  refine lv_if_ne (tgt := 13) hx hb dX4_key_1 (by decide) (fun q1 => ?_) (fun q1 => absurd q1 (nI_nz (by omega) (by omega)))
  refine lv_iconst (v := nI 0) hx hb dX4_key_13 (by decide) ?_
  refine lv_istore_n (lv' := [(3, .int (nI 0)), (0, .ref (ad 0)), (1, .int (nI k)), (2, .int (nI 1))]) hx hb dX4_key_14 rfl hl (by decide) rfl (fun ls hl => ?_)
  refine lv_iload_n hx hb dX4_key_15 rfl (lv_at hl 0 rfl) ?_
  refine lv_if_ne (tgt := 30) hx hb dX4_key_16 (by decide) (fun q3 => absurd (by decide) q3) (fun q3 => ?_)
  refine lv_aload_n hx hb dX4_key_19 rfl (lv_at hl 1 rfl) ?_
  refine lv_iload_n hx hb dX4_key_20 rfl (lv_at hl 2 rfl) ?_
  refine x_callW0 (As := [.int (nI k)]) (rest := []) hC vf_X4_62 hw hA (by decide) h0 rfl rfl (k_needNode l n t _ qu wh hn k hk1 hk2 h0) ⟨rfl, rfl, Nat.le_of_ble_eq_true rfl, Nat.le_of_ble_eq_true rfl⟩ hl.1 (Nat.le_of_ble_eq_true rfl) dX4_key_21 ⟨Nat.zero_le _, Nat.zero_le _⟩ rfl (fun w_1 H locs hu hw => ?_)
  rw [hu] at hw
  refine lv_aload_n hx hb dX4_key_24 rfl (lv_at hl 1 rfl) ?_
  refine lv_iload_n hx hb dX4_key_25 rfl (lv_at hl 3 rfl) ?_
  refine lv_iconst (v := nI 1) hx hb dX4_key_26 (by decide) ?_
  refine x_callW0 (As := [.int (nI 1), .int (nI 1)]) (rest := []) hC vf_X4_137 hw hA (by decide) h0 rfl rfl (k_needWhat l n t 1 qu wh 1 1 (by decide) (by decide) h0) ⟨rfl, rfl, Nat.le_of_ble_eq_true rfl, Nat.le_of_ble_eq_true rfl⟩ hl.1 (Nat.le_of_ble_eq_true rfl) dX4_key_27 ⟨Nat.zero_le _, Nat.zero_le _⟩ rfl (fun w_2 H locs hu hw => ?_)
  rw [hu] at hw
  refine lv_aload_n hx hb dX4_key_30 rfl (lv_at hl 1 rfl) ?_
  refine x_callW0 (As := []) (rest := []) hC vf_X4_141 hw hA (by decide) h0 rfl rfl (k_needClosed l n t qu wh h0) ⟨rfl, rfl, Nat.le_of_ble_eq_true rfl, Nat.le_of_ble_eq_true rfl⟩ hl.1 (Nat.le_of_ble_eq_true rfl) dX4_key_31 ⟨Nat.zero_le _, Nat.zero_le _⟩ rfl (fun w_3 H locs hu hw => ?_)
  rw [hu] at hw
  refine lv_iload_n hx hb dX4_key_34 rfl (lv_at hl 0 rfl) ?_
  refine lv_if_eq (tgt := 43) hx hb dX4_key_35 (by decide) (fun q4 => ?_) (fun q4 => absurd (by decide) q4)
  refine lv_iload_n hx hb dX4_key_43 rfl (lv_at hl 3 rfl) ?_
  refine lv_if_ne (tgt := 56) hx hb dX4_key_44 (by decide) (fun q5 => ?_) (fun q5 => absurd q5 (by decide))
  refine lv_aload_n hx hb dX4_key_56 rfl (lv_at hl 1 rfl) ?_
  refine gf_X4_20 hx hb hts hown hw (by decide) h0 rfl dX4_key_57 ?_
  refine lv_iload_n hx hb dX4_key_60 rfl (lv_at hl 2 rfl) ?_
  refine x_iald hx hb hw (by decide) 0 hPf rfl (j := k) (by omega) (by decide) (hky rfl k hk1 hk2).2 dX4_key_61 ?_
  exact x_wretI hx hb hr hlocks hw rfl dX4_key_62
set_option maxHeartbeats 4000000 in
set_option maxRecDepth 100000 in
theorem c_keyA (l : Launch) (hl0 : l.stackTraces = false) {D : va_G} {cI cJ cZ cD : ClassId} {ad : Nat → Nat} {sa : Nat → Nat} {w : Nat → va_E} {sz : Nat} (n t cl qu en kp : Nat) (dl ou cp ks pt : Nat → Nat) (co sh : Nat → Nat → Nat) (vs : Nat → Int64) (hok : OkS n t cl qu en kp dl ou cp ks pt co sh) (hRC : RC ad cI cJ cD w n t cl qu en kp dl ou cp ks pt co sh vs) (x y : Int32) (hb1 : ¬ (x = nI 0 ∧ y = nI 1)) (hb2 : ¬ (isNd n x ∧ ¬ y < 0 ∧ y ≤ nI 1))  : MT l yX4_key (.code yX4_key cX4_key 4 (some .int)) ({ frames := 7, cells := 1, slots := 6, locals := 112 }) [.ref (ad 0), .int x, .int y] D (tyL cI cJ cZ cD) ad 89 w sz sa "java/lang/IllegalArgumentException" := by
  refine MT.of (by decide) (Nat.le_of_ble_eq_true rfl) ?_
  intro p e s m below meth c ls hC hlocks htab hl hw hT
  obtain ⟨hx, hb, hml, hown, hts⟩ := id hC
  have hA : ∀ q, s.heap.size ≤ q → xA ad 89 s.heap.size q := fun q h => Or.inr h
  have hl : lv_has ls 4 [(0, .ref (ad 0)), (1, .int x), (2, .int y)] := hl
  obtain ⟨⟨wh, h0, hwh⟩, ⟨df, hDa, hdf⟩, hRd, ⟨kf, pf, hKf, hPf, hky⟩, ⟨msg, bas, vf, ptf, ivf, hR, hVs, hPt, hIv, hmsg, hptv, hiv⟩, ⟨sa0, sx0, sy0, hSt⟩⟩ := id hRC
  obtain ⟨⟨hn, ht, hcl, hqu, hen, hkp⟩, hle, ⟨hqb, hkb, hcb⟩, hvals, hclv, hptl, ⟨hz1, hz2, hz3⟩⟩ := id hok
  refine lv_iload_n hx hb dX4_key_0 rfl (lv_at hl 1 rfl) ?_
  refine lv_if_ne (tgt := 13) hx hb dX4_key_1 (by decide) (fun q1 => ?_) (fun q1 => ?_)
  · skip
    refine lv_iconst (v := nI 0) hx hb dX4_key_13 (by decide) ?_
    refine lv_istore_n (lv' := [(3, .int (nI 0)), (0, .ref (ad 0)), (1, .int x), (2, .int y)]) hx hb dX4_key_14 rfl hl (by decide) rfl (fun ls hl => ?_)
    refine lv_iload_n hx hb dX4_key_15 rfl (lv_at hl 0 rfl) ?_
    refine lv_if_ne (tgt := 30) hx hb dX4_key_16 (by decide) (fun q3 => absurd (by decide) q3) (fun q3 => ?_)
    by_cases c1 : isNd n x
    · skip
      obtain ⟨k, hk1, hk2, rfl⟩ := isNd_of hn c1
      refine lv_aload_n hx hb dX4_key_19 rfl (lv_at hl 1 rfl) ?_
      refine lv_iload_n hx hb dX4_key_20 rfl (lv_at hl 2 rfl) ?_
      refine x_callW0 (As := [.int (nI k)]) (rest := []) hC vf_X4_62 hw hA (by decide) h0 rfl rfl (k_needNode l n t _ qu wh hn k hk1 hk2 h0) ⟨rfl, rfl, Nat.le_of_ble_eq_true rfl, Nat.le_of_ble_eq_true rfl⟩ hl.1 (Nat.le_of_ble_eq_true rfl) dX4_key_21 ⟨Nat.zero_le _, Nat.zero_le _⟩ rfl (fun w_1 H locs hu hw => ?_)
      rw [hu] at hw
      refine lv_aload_n hx hb dX4_key_24 rfl (lv_at hl 1 rfl) ?_
      refine lv_iload_n hx hb dX4_key_25 rfl (lv_at hl 3 rfl) ?_
      refine lv_iconst (v := nI 1) hx hb dX4_key_26 (by decide) ?_
      exact x_prop (As := [.int y, .int (nI 1)]) (rest := []) hC vf_X4_137 hlocks htab hw hT (by decide) h0 rfl rfl (k_needWhatT l hl0 n t cl qu wh y 1 (by by_cases hy : y < 0; exact Or.inl hy; exact Or.inr (fun q => hb2 ⟨c1, hy, q⟩)) h0) ⟨rfl, rfl, Nat.le_of_ble_eq_true rfl, Nat.le_of_ble_eq_true rfl⟩ hl.1 (Nat.le_of_ble_eq_true rfl) dX4_key_27 ⟨Nat.le_of_ble_eq_true rfl, Nat.le_of_ble_eq_true rfl⟩ rfl
    · skip
      refine lv_aload_n hx hb dX4_key_19 rfl (lv_at hl 1 rfl) ?_
      refine lv_iload_n hx hb dX4_key_20 rfl (lv_at hl 2 rfl) ?_
      exact x_prop (As := [.int x]) (rest := []) hC vf_X4_62 hlocks htab hw hT (by decide) h0 rfl rfl (k_needNodeT l hl0 n t cl qu wh hn x c1 h0) ⟨rfl, rfl, Nat.le_of_ble_eq_true rfl, Nat.le_of_ble_eq_true rfl⟩ hl.1 (Nat.le_of_ble_eq_true rfl) dX4_key_21 ⟨Nat.le_of_ble_eq_true rfl, Nat.le_of_ble_eq_true rfl⟩ rfl
  · skip
    refine lv_iload_n hx hb dX4_key_4 rfl (lv_at hl 2 rfl) ?_
    refine lv_iconst (v := nI 1) hx hb dX4_key_5 (by decide) ?_
    refine lv_icmp_ne (tgt := 13) hx hb dX4_key_6 (by decide) (fun q2 => ?_) (fun q2 => absurd q2 (fun q => hb1 ⟨q1, q⟩))
    refine lv_iconst (v := nI 0) hx hb dX4_key_13 (by decide) ?_
    refine lv_istore_n (lv' := [(3, .int (nI 0)), (0, .ref (ad 0)), (1, .int x), (2, .int y)]) hx hb dX4_key_14 rfl hl (by decide) rfl (fun ls hl => ?_)
    refine lv_iload_n hx hb dX4_key_15 rfl (lv_at hl 0 rfl) ?_
    refine lv_if_ne (tgt := 30) hx hb dX4_key_16 (by decide) (fun q3 => absurd (by decide) q3) (fun q3 => ?_)
    by_cases c1 : isNd n x
    · skip
      obtain ⟨k, hk1, hk2, rfl⟩ := isNd_of hn c1
      refine lv_aload_n hx hb dX4_key_19 rfl (lv_at hl 1 rfl) ?_
      refine lv_iload_n hx hb dX4_key_20 rfl (lv_at hl 2 rfl) ?_
      refine x_callW0 (As := [.int (nI k)]) (rest := []) hC vf_X4_62 hw hA (by decide) h0 rfl rfl (k_needNode l n t _ qu wh hn k hk1 hk2 h0) ⟨rfl, rfl, Nat.le_of_ble_eq_true rfl, Nat.le_of_ble_eq_true rfl⟩ hl.1 (Nat.le_of_ble_eq_true rfl) dX4_key_21 ⟨Nat.zero_le _, Nat.zero_le _⟩ rfl (fun w_2 H locs hu hw => ?_)
      rw [hu] at hw
      refine lv_aload_n hx hb dX4_key_24 rfl (lv_at hl 1 rfl) ?_
      refine lv_iload_n hx hb dX4_key_25 rfl (lv_at hl 3 rfl) ?_
      refine lv_iconst (v := nI 1) hx hb dX4_key_26 (by decide) ?_
      exact x_prop (As := [.int y, .int (nI 1)]) (rest := []) hC vf_X4_137 hlocks htab hw hT (by decide) h0 rfl rfl (k_needWhatT l hl0 n t cl qu wh y 1 (by by_cases hy : y < 0; exact Or.inl hy; exact Or.inr (fun q => hb2 ⟨c1, hy, q⟩)) h0) ⟨rfl, rfl, Nat.le_of_ble_eq_true rfl, Nat.le_of_ble_eq_true rfl⟩ hl.1 (Nat.le_of_ble_eq_true rfl) dX4_key_27 ⟨Nat.le_of_ble_eq_true rfl, Nat.le_of_ble_eq_true rfl⟩ rfl
    · skip
      refine lv_aload_n hx hb dX4_key_19 rfl (lv_at hl 1 rfl) ?_
      refine lv_iload_n hx hb dX4_key_20 rfl (lv_at hl 2 rfl) ?_
      exact x_prop (As := [.int x]) (rest := []) hC vf_X4_62 hlocks htab hw hT (by decide) h0 rfl rfl (k_needNodeT l hl0 n t cl qu wh hn x c1 h0) ⟨rfl, rfl, Nat.le_of_ble_eq_true rfl, Nat.le_of_ble_eq_true rfl⟩ hl.1 (Nat.le_of_ble_eq_true rfl) dX4_key_21 ⟨Nat.le_of_ble_eq_true rfl, Nat.le_of_ble_eq_true rfl⟩ rfl
set_option maxHeartbeats 4000000 in
set_option maxRecDepth 100000 in
theorem c_keyS0 (l : Launch) (hl0 : l.stackTraces = false) {D : va_G} {cI cJ cZ cD : ClassId} {ad : Nat → Nat} {sa : Nat → Nat} {w : Nat → va_E} {sz : Nat} (n t cl qu en kp : Nat) (dl ou cp ks pt : Nat → Nat) (co sh : Nat → Nat → Nat) (vs : Nat → Int64) (hok : OkS n t cl qu en kp dl ou cp ks pt co sh) (hRC : RC ad cI cJ cD w n t cl qu en kp dl ou cp ks pt co sh vs) (hcl0 : cl = 0)  : MT l yX4_key (.code yX4_key cX4_key 4 (some .int)) ({ frames := 7, cells := 1, slots := 6, locals := 110 }) [.ref (ad 0), .int (nI 0), .int (nI 1)] D (tyL cI cJ cZ cD) ad 89 w sz sa "java/lang/IllegalStateException" := by
  refine MT.of (by decide) (Nat.le_of_ble_eq_true rfl) ?_
  intro p e s m below meth c ls hC hlocks htab hl hw hT
  obtain ⟨hx, hb, hml, hown, hts⟩ := id hC
  have hA : ∀ q, s.heap.size ≤ q → xA ad 89 s.heap.size q := fun q h => Or.inr h
  have hl : lv_has ls 4 [(0, .ref (ad 0)), (1, .int (nI 0)), (2, .int (nI 1))] := hl
  obtain ⟨⟨wh, h0, hwh⟩, ⟨df, hDa, hdf⟩, hRd, ⟨kf, pf, hKf, hPf, hky⟩, ⟨msg, bas, vf, ptf, ivf, hR, hVs, hPt, hIv, hmsg, hptv, hiv⟩, ⟨sa0, sx0, sy0, hSt⟩⟩ := id hRC
  obtain ⟨⟨hn, ht, hcl, hqu, hen, hkp⟩, hle, ⟨hqb, hkb, hcb⟩, hvals, hclv, hptl, ⟨hz1, hz2, hz3⟩⟩ := id hok
  subst hcl0
  refine lv_iload_n hx hb dX4_key_0 rfl (lv_at hl 1 rfl) ?_
  refine lv_if_ne (tgt := 13) hx hb dX4_key_1 (by decide) (fun q1 => absurd (by decide) q1) (fun q1 => ?_)
  refine lv_iload_n hx hb dX4_key_4 rfl (lv_at hl 2 rfl) ?_
  refine lv_iconst (v := nI 1) hx hb dX4_key_5 (by decide) ?_
  refine lv_icmp_ne (tgt := 13) hx hb dX4_key_6 (by decide) (fun q2 => absurd (by decide) q2) (fun q2 => ?_)
  refine lv_iconst (v := nI 1) hx hb dX4_key_9 (by decide) ?_
  refine lv_goto (tgt := 14) hx hb dX4_key_10 (by decide) ?_
  refine lv_istore_n (lv' := [(3, .int (nI 1)), (0, .ref (ad 0)), (1, .int (nI 0)), (2, .int (nI 1))]) hx hb dX4_key_14 rfl hl (by decide) rfl (fun ls hl => ?_)
  refine lv_iload_n hx hb dX4_key_15 rfl (lv_at hl 0 rfl) ?_
  refine lv_if_ne (tgt := 30) hx hb dX4_key_16 (by decide) (fun q3 => ?_) (fun q3 => absurd q3 (by decide))
  refine lv_aload_n hx hb dX4_key_30 rfl (lv_at hl 1 rfl) ?_
  exact x_prop (As := []) (rest := []) hC vf_X4_141 hlocks htab hw hT (by decide) h0 rfl rfl (k_needClosedT l hl0 n t qu wh h0) ⟨rfl, rfl, Nat.le_of_ble_eq_true rfl, Nat.le_of_ble_eq_true rfl⟩ hl.1 (Nat.le_of_ble_eq_true rfl) dX4_key_31 ⟨Nat.le_of_ble_eq_true rfl, Nat.le_of_ble_eq_true rfl⟩ rfl
set_option maxHeartbeats 4000000 in
set_option maxRecDepth 100000 in
theorem c_keySN (l : Launch) (hl0 : l.stackTraces = false) {D : va_G} {cI cJ cZ cD : ClassId} {ad : Nat → Nat} {sa : Nat → Nat} {w : Nat → va_E} {sz : Nat} (n t cl qu en kp : Nat) (dl ou cp ks pt : Nat → Nat) (co sh : Nat → Nat → Nat) (vs : Nat → Int64) (hok : OkS n t cl qu en kp dl ou cp ks pt co sh) (hRC : RC ad cI cJ cD w n t cl qu en kp dl ou cp ks pt co sh vs) (k j : Nat) (hk1 : 1 ≤ k) (hk2 : k ≤ n) (hj : j ≤ 1) (hcl0 : cl = 0)  : MT l yX4_key (.code yX4_key cX4_key 4 (some .int)) ({ frames := 7, cells := 1, slots := 6, locals := 110 }) [.ref (ad 0), .int (nI k), .int (nI j)] D (tyL cI cJ cZ cD) ad 89 w sz sa "java/lang/IllegalStateException" := by
  refine MT.of (by decide) (Nat.le_of_ble_eq_true rfl) ?_
  intro p e s m below meth c ls hC hlocks htab hl hw hT
  obtain ⟨hx, hb, hml, hown, hts⟩ := id hC
  have hA : ∀ q, s.heap.size ≤ q → xA ad 89 s.heap.size q := fun q h => Or.inr h
  have hl : lv_has ls 4 [(0, .ref (ad 0)), (1, .int (nI k)), (2, .int (nI j))] := hl
  obtain ⟨⟨wh, h0, hwh⟩, ⟨df, hDa, hdf⟩, hRd, ⟨kf, pf, hKf, hPf, hky⟩, ⟨msg, bas, vf, ptf, ivf, hR, hVs, hPt, hIv, hmsg, hptv, hiv⟩, ⟨sa0, sx0, sy0, hSt⟩⟩ := id hRC
  obtain ⟨⟨hn, ht, hcl, hqu, hen, hkp⟩, hle, ⟨hqb, hkb, hcb⟩, hvals, hclv, hptl, ⟨hz1, hz2, hz3⟩⟩ := id hok
  subst hcl0
  refine lv_iload_n hx hb dX4_key_0 rfl (lv_at hl 1 rfl) ?_
  refine lv_if_ne (tgt := 13) hx hb dX4_key_1 (by decide) (fun q1 => ?_) (fun q1 => absurd q1 (nI_nz (by omega) (by omega)))
  refine lv_iconst (v := nI 0) hx hb dX4_key_13 (by decide) ?_
  refine lv_istore_n (lv' := [(3, .int (nI 0)), (0, .ref (ad 0)), (1, .int (nI k)), (2, .int (nI j))]) hx hb dX4_key_14 rfl hl (by decide) rfl (fun ls hl => ?_)
  refine lv_iload_n hx hb dX4_key_15 rfl (lv_at hl 0 rfl) ?_
  refine lv_if_ne (tgt := 30) hx hb dX4_key_16 (by decide) (fun q3 => absurd (by decide) q3) (fun q3 => ?_)
  refine lv_aload_n hx hb dX4_key_19 rfl (lv_at hl 1 rfl) ?_
  refine lv_iload_n hx hb dX4_key_20 rfl (lv_at hl 2 rfl) ?_
  refine x_callW0 (As := [.int (nI k)]) (rest := []) hC vf_X4_62 hw hA (by decide) h0 rfl rfl (k_needNode l n t _ qu wh hn k hk1 hk2 h0) ⟨rfl, rfl, Nat.le_of_ble_eq_true rfl, Nat.le_of_ble_eq_true rfl⟩ hl.1 (Nat.le_of_ble_eq_true rfl) dX4_key_21 ⟨Nat.zero_le _, Nat.zero_le _⟩ rfl (fun w_1 H locs hu hw => ?_)
  rw [hu] at hw
  refine lv_aload_n hx hb dX4_key_24 rfl (lv_at hl 1 rfl) ?_
  refine lv_iload_n hx hb dX4_key_25 rfl (lv_at hl 3 rfl) ?_
  refine lv_iconst (v := nI 1) hx hb dX4_key_26 (by decide) ?_
  refine x_callW0 (As := [.int (nI j), .int (nI 1)]) (rest := []) hC vf_X4_137 hw hA (by decide) h0 rfl rfl (k_needWhat l n t 0 qu wh j 1 (by decide) hj h0) ⟨rfl, rfl, Nat.le_of_ble_eq_true rfl, Nat.le_of_ble_eq_true rfl⟩ hl.1 (Nat.le_of_ble_eq_true rfl) dX4_key_27 ⟨Nat.zero_le _, Nat.zero_le _⟩ rfl (fun w_2 H locs hu hw => ?_)
  rw [hu] at hw
  refine lv_aload_n hx hb dX4_key_30 rfl (lv_at hl 1 rfl) ?_
  exact x_prop (As := []) (rest := []) hC vf_X4_141 hlocks htab hw hT (by decide) h0 rfl rfl (k_needClosedT l hl0 n t qu wh h0) ⟨rfl, rfl, Nat.le_of_ble_eq_true rfl, Nat.le_of_ble_eq_true rfl⟩ hl.1 (Nat.le_of_ble_eq_true rfl) dX4_key_31 ⟨Nat.le_of_ble_eq_true rfl, Nat.le_of_ble_eq_true rfl⟩ rfl
set_option maxHeartbeats 4000000 in
set_option maxRecDepth 100000 in
theorem c_round0 (l : Launch) {D : va_G} {cI cJ cZ cD : ClassId} {ad : Nat → Nat} {w : Nat → va_E} {sz : Nat} (n t cl qu en kp : Nat) (dl ou cp ks pt : Nat → Nat) (co sh : Nat → Nat → Nat) (vs : Nat → Int64) (hok : OkS n t cl qu en kp dl ou cp ks pt co sh) (hRC : RC ad cI cJ cD w n t cl qu en kp dl ou cp ks pt co sh vs) (hcl0 : cl = 1)  : MW l yX4_round (.code yX4_round cX4_round 2 (some .int)) ({ frames := 1, cells := 0, slots := 0, locals := 28 }) [.ref (ad 0), .int (nI 0)] D (tyL cI cJ cZ cD) ad 89 w sz (some (.int (nI (en + 1)))) (fun u => u = w) := by
  refine MW.of (by decide) (Nat.le_of_ble_eq_true rfl) ?_
  intro p e s m below meth c ls hC hr hlocks hl hw
  obtain ⟨hx, hb, hml, hown, hts⟩ := id hC
  have hA : ∀ q, s.heap.size ≤ q → xA ad 89 s.heap.size q := fun q h => Or.inr h
  have hl : lv_has ls 2 [(0, .ref (ad 0)), (1, .int (nI 0))] := hl
  obtain ⟨⟨wh, h0, hwh⟩, ⟨df, hDa, hdf⟩, hRd, ⟨kf, pf, hKf, hPf, hky⟩, ⟨msg, bas, vf, ptf, ivf, hR, hVs, hPt, hIv, hmsg, hptv, hiv⟩, ⟨sa0, sx0, sy0, hSt⟩⟩ := id hRC
  obtain ⟨⟨hn, ht, hcl, hqu, hen, hkp⟩, hle, ⟨hqb, hkb, hcb⟩, hvals, hclv, hptl, ⟨hz1, hz2, hz3⟩⟩ := id hok
  subst hcl0
  refine lv_aload_n hx hb dX4_round_0 rfl (lv_at hl 0 rfl) ?_
  refine x_callW0 (As := []) (rest := []) hC vf_X4_141 hw hA (by decide) h0 rfl rfl (k_needClosed l n t qu wh h0) ⟨rfl, rfl, Nat.le_of_ble_eq_true rfl, Nat.le_of_ble_eq_true rfl⟩ hl.1 (Nat.le_of_ble_eq_true rfl) dX4_round_1 ⟨Nat.zero_le _, Nat.zero_le _⟩ rfl (fun w_1 H locs hu hw => ?_)
  rw [hu] at hw
  refine lv_iload_n hx hb dX4_round_4 rfl (lv_at hl 1 rfl) ?_
  refine lv_tableIn (x := nI 0) (off := 31) (tgt := 36) hx hb dX4_round_5 (by decide) (by decide) (by decide) (by decide) ?_
  refine lv_aload_n hx hb dX4_round_36 rfl (lv_at hl 0 rfl) ?_
  refine gf_X4_26 hx hb hts hown hw (by decide) h0 rfl dX4_round_37 ?_
  refine gf_X4_147 hx hb hts hown hw (by decide) hR rfl dX4_round_40 ?_
  refine lv_iconst (v := nI 1) hx hb dX4_round_43 (by decide) ?_
  refine t_iadd hx hb dX4_round_44 (v := nI (en + 1)) (nI_add _ _) ?_
  exact x_wretI hx hb hr hlocks hw rfl dX4_round_45
set_option maxHeartbeats 4000000 in
set_option maxRecDepth 100000 in
theorem c_round1 (l : Launch) {D : va_G} {cI cJ cZ cD : ClassId} {ad : Nat → Nat} {w : Nat → va_E} {sz : Nat} (n t cl qu en kp : Nat) (dl ou cp ks pt : Nat → Nat) (co sh : Nat → Nat → Nat) (vs : Nat → Int64) (hok : OkS n t cl qu en kp dl ou cp ks pt co sh) (hRC : RC ad cI cJ cD w n t cl qu en kp dl ou cp ks pt co sh vs) (hcl0 : cl = 1)  : MW l yX4_round (.code yX4_round cX4_round 2 (some .int)) ({ frames := 1, cells := 0, slots := 0, locals := 28 }) [.ref (ad 0), .int (nI 1)] D (tyL cI cJ cZ cD) ad 89 w sz (some (.int (nI (basF (msgF (vs en) en))))) (fun u => u = w) := by
  refine MW.of (by decide) (Nat.le_of_ble_eq_true rfl) ?_
  intro p e s m below meth c ls hC hr hlocks hl hw
  obtain ⟨hx, hb, hml, hown, hts⟩ := id hC
  have hA : ∀ q, s.heap.size ≤ q → xA ad 89 s.heap.size q := fun q h => Or.inr h
  have hl : lv_has ls 2 [(0, .ref (ad 0)), (1, .int (nI 1))] := hl
  obtain ⟨⟨wh, h0, hwh⟩, ⟨df, hDa, hdf⟩, hRd, ⟨kf, pf, hKf, hPf, hky⟩, ⟨msg, bas, vf, ptf, ivf, hR, hVs, hPt, hIv, hmsg, hptv, hiv⟩, ⟨sa0, sx0, sy0, hSt⟩⟩ := id hRC
  obtain ⟨⟨hn, ht, hcl, hqu, hen, hkp⟩, hle, ⟨hqb, hkb, hcb⟩, hvals, hclv, hptl, ⟨hz1, hz2, hz3⟩⟩ := id hok
  subst hcl0
  refine lv_aload_n hx hb dX4_round_0 rfl (lv_at hl 0 rfl) ?_
  refine x_callW0 (As := []) (rest := []) hC vf_X4_141 hw hA (by decide) h0 rfl rfl (k_needClosed l n t qu wh h0) ⟨rfl, rfl, Nat.le_of_ble_eq_true rfl, Nat.le_of_ble_eq_true rfl⟩ hl.1 (Nat.le_of_ble_eq_true rfl) dX4_round_1 ⟨Nat.zero_le _, Nat.zero_le _⟩ rfl (fun w_1 H locs hu hw => ?_)
  rw [hu] at hw
  refine lv_iload_n hx hb dX4_round_4 rfl (lv_at hl 1 rfl) ?_
  refine lv_tableIn (x := nI 1) (off := 41) (tgt := 46) hx hb dX4_round_5 (by decide) (by decide) (by decide) (by decide) ?_
  refine lv_aload_n hx hb dX4_round_46 rfl (lv_at hl 0 rfl) ?_
  refine gf_X4_26 hx hb hts hown hw (by decide) h0 rfl dX4_round_47 ?_
  refine gf_X4_150 hx hb hts hown hw (by decide) hR rfl dX4_round_50 ?_
  rw [(hmsg rfl).2.1]
  exact x_wretI hx hb hr hlocks hw rfl dX4_round_53
set_option maxHeartbeats 4000000 in
set_option maxRecDepth 100000 in
theorem c_round2 (l : Launch) {D : va_G} {cI cJ cZ cD : ClassId} {ad : Nat → Nat} {w : Nat → va_E} {sz : Nat} (n t cl qu en kp : Nat) (dl ou cp ks pt : Nat → Nat) (co sh : Nat → Nat → Nat) (vs : Nat → Int64) (hok : OkS n t cl qu en kp dl ou cp ks pt co sh) (hRC : RC ad cI cJ cD w n t cl qu en kp dl ou cp ks pt co sh vs) (hcl0 : cl = 1)  : MW l yX4_round (.code yX4_round cX4_round 2 (some .int)) ({ frames := 1, cells := 0, slots := 0, locals := 28 }) [.ref (ad 0), .int (nI 2)] D (tyL cI cJ cZ cD) ad 89 w sz (some (.int (nI (pcN kp)))) (fun u => u = w) := by
  refine MW.of (by decide) (Nat.le_of_ble_eq_true rfl) ?_
  intro p e s m below meth c ls hC hr hlocks hl hw
  obtain ⟨hx, hb, hml, hown, hts⟩ := id hC
  have hA : ∀ q, s.heap.size ≤ q → xA ad 89 s.heap.size q := fun q h => Or.inr h
  have hl : lv_has ls 2 [(0, .ref (ad 0)), (1, .int (nI 2))] := hl
  obtain ⟨⟨wh, h0, hwh⟩, ⟨df, hDa, hdf⟩, hRd, ⟨kf, pf, hKf, hPf, hky⟩, ⟨msg, bas, vf, ptf, ivf, hR, hVs, hPt, hIv, hmsg, hptv, hiv⟩, ⟨sa0, sx0, sy0, hSt⟩⟩ := id hRC
  obtain ⟨⟨hn, ht, hcl, hqu, hen, hkp⟩, hle, ⟨hqb, hkb, hcb⟩, hvals, hclv, hptl, ⟨hz1, hz2, hz3⟩⟩ := id hok
  subst hcl0
  refine lv_aload_n hx hb dX4_round_0 rfl (lv_at hl 0 rfl) ?_
  refine x_callW0 (As := []) (rest := []) hC vf_X4_141 hw hA (by decide) h0 rfl rfl (k_needClosed l n t qu wh h0) ⟨rfl, rfl, Nat.le_of_ble_eq_true rfl, Nat.le_of_ble_eq_true rfl⟩ hl.1 (Nat.le_of_ble_eq_true rfl) dX4_round_1 ⟨Nat.zero_le _, Nat.zero_le _⟩ rfl (fun w_1 H locs hu hw => ?_)
  rw [hu] at hw
  refine lv_iload_n hx hb dX4_round_4 rfl (lv_at hl 1 rfl) ?_
  refine lv_tableIn (x := nI 2) (off := 49) (tgt := 54) hx hb dX4_round_5 (by decide) (by decide) (by decide) (by decide) ?_
  refine lv_aload_n hx hb dX4_round_54 rfl (lv_at hl 0 rfl) ?_
  refine gf_X4_26 hx hb hts hown hw (by decide) h0 rfl dX4_round_55 ?_
  refine gf_X4_153 hx hb hts hown hw (by decide) hR rfl dX4_round_58 ?_
  refine x_callS (As := [.int (nI kp)]) (rest := []) hC sf_X4_131 (k_bitCount l (nI kp)) ⟨rfl, rfl, Nat.le_of_ble_eq_true rfl, Nat.le_of_ble_eq_true rfl⟩ hl.1 (Nat.le_of_ble_eq_true rfl) dX4_round_61 ⟨Nat.zero_le _, Nat.zero_le _⟩ rfl ?_
  rw [bc_pc (by omega)]
  exact x_wretI hx hb hr hlocks hw rfl dX4_round_64
set_option maxHeartbeats 4000000 in
set_option maxRecDepth 100000 in
theorem c_round3 (l : Launch) {D : va_G} {cI cJ cZ cD : ClassId} {ad : Nat → Nat} {w : Nat → va_E} {sz : Nat} (n t cl qu en kp : Nat) (dl ou cp ks pt : Nat → Nat) (co sh : Nat → Nat → Nat) (vs : Nat → Int64) (hok : OkS n t cl qu en kp dl ou cp ks pt co sh) (hRC : RC ad cI cJ cD w n t cl qu en kp dl ou cp ks pt co sh vs) (hcl0 : cl = 1)  : MW l yX4_round (.code yX4_round cX4_round 2 (some .int)) ({ frames := 1, cells := 0, slots := 0, locals := 28 }) [.ref (ad 0), .int (nI 3)] D (tyL cI cJ cZ cD) ad 89 w sz (some (.int (nI kp))) (fun u => u = w) := by
  refine MW.of (by decide) (Nat.le_of_ble_eq_true rfl) ?_
  intro p e s m below meth c ls hC hr hlocks hl hw
  obtain ⟨hx, hb, hml, hown, hts⟩ := id hC
  have hA : ∀ q, s.heap.size ≤ q → xA ad 89 s.heap.size q := fun q h => Or.inr h
  have hl : lv_has ls 2 [(0, .ref (ad 0)), (1, .int (nI 3))] := hl
  obtain ⟨⟨wh, h0, hwh⟩, ⟨df, hDa, hdf⟩, hRd, ⟨kf, pf, hKf, hPf, hky⟩, ⟨msg, bas, vf, ptf, ivf, hR, hVs, hPt, hIv, hmsg, hptv, hiv⟩, ⟨sa0, sx0, sy0, hSt⟩⟩ := id hRC
  obtain ⟨⟨hn, ht, hcl, hqu, hen, hkp⟩, hle, ⟨hqb, hkb, hcb⟩, hvals, hclv, hptl, ⟨hz1, hz2, hz3⟩⟩ := id hok
  subst hcl0
  refine lv_aload_n hx hb dX4_round_0 rfl (lv_at hl 0 rfl) ?_
  refine x_callW0 (As := []) (rest := []) hC vf_X4_141 hw hA (by decide) h0 rfl rfl (k_needClosed l n t qu wh h0) ⟨rfl, rfl, Nat.le_of_ble_eq_true rfl, Nat.le_of_ble_eq_true rfl⟩ hl.1 (Nat.le_of_ble_eq_true rfl) dX4_round_1 ⟨Nat.zero_le _, Nat.zero_le _⟩ rfl (fun w_1 H locs hu hw => ?_)
  rw [hu] at hw
  refine lv_iload_n hx hb dX4_round_4 rfl (lv_at hl 1 rfl) ?_
  refine lv_tableIn (x := nI 3) (off := 60) (tgt := 65) hx hb dX4_round_5 (by decide) (by decide) (by decide) (by decide) ?_
  refine lv_aload_n hx hb dX4_round_65 rfl (lv_at hl 0 rfl) ?_
  refine gf_X4_26 hx hb hts hown hw (by decide) h0 rfl dX4_round_66 ?_
  refine gf_X4_153 hx hb hts hown hw (by decide) hR rfl dX4_round_69 ?_
  exact x_wretI hx hb hr hlocks hw rfl dX4_round_72
set_option maxHeartbeats 4000000 in
set_option maxRecDepth 100000 in
theorem c_roundS (l : Launch) (hl0 : l.stackTraces = false) {D : va_G} {cI cJ cZ cD : ClassId} {ad : Nat → Nat} {sa : Nat → Nat} {w : Nat → va_E} {sz : Nat} (n t cl qu en kp : Nat) (dl ou cp ks pt : Nat → Nat) (co sh : Nat → Nat → Nat) (vs : Nat → Int64) (hok : OkS n t cl qu en kp dl ou cp ks pt co sh) (hRC : RC ad cI cJ cD w n t cl qu en kp dl ou cp ks pt co sh vs) (x : Int32) (hcl0 : cl = 0)  : MT l yX4_round (.code yX4_round cX4_round 2 (some .int)) ({ frames := 7, cells := 1, slots := 6, locals := 110 }) [.ref (ad 0), .int x] D (tyL cI cJ cZ cD) ad 89 w sz sa "java/lang/IllegalStateException" := by
  refine MT.of (by decide) (Nat.le_of_ble_eq_true rfl) ?_
  intro p e s m below meth c ls hC hlocks htab hl hw hT
  obtain ⟨hx, hb, hml, hown, hts⟩ := id hC
  have hA : ∀ q, s.heap.size ≤ q → xA ad 89 s.heap.size q := fun q h => Or.inr h
  have hl : lv_has ls 2 [(0, .ref (ad 0)), (1, .int x)] := hl
  obtain ⟨⟨wh, h0, hwh⟩, ⟨df, hDa, hdf⟩, hRd, ⟨kf, pf, hKf, hPf, hky⟩, ⟨msg, bas, vf, ptf, ivf, hR, hVs, hPt, hIv, hmsg, hptv, hiv⟩, ⟨sa0, sx0, sy0, hSt⟩⟩ := id hRC
  obtain ⟨⟨hn, ht, hcl, hqu, hen, hkp⟩, hle, ⟨hqb, hkb, hcb⟩, hvals, hclv, hptl, ⟨hz1, hz2, hz3⟩⟩ := id hok
  subst hcl0
  refine lv_aload_n hx hb dX4_round_0 rfl (lv_at hl 0 rfl) ?_
  exact x_prop (As := []) (rest := []) hC vf_X4_141 hlocks htab hw hT (by decide) h0 rfl rfl (k_needClosedT l hl0 n t qu wh h0) ⟨rfl, rfl, Nat.le_of_ble_eq_true rfl, Nat.le_of_ble_eq_true rfl⟩ hl.1 (Nat.le_of_ble_eq_true rfl) dX4_round_1 ⟨Nat.le_of_ble_eq_true rfl, Nat.le_of_ble_eq_true rfl⟩ rfl
set_option maxHeartbeats 4000000 in
set_option maxRecDepth 100000 in
theorem c_roundA (l : Launch) (hl0 : l.stackTraces = false) {D : va_G} {cI cJ cZ cD : ClassId} {ad : Nat → Nat} {sa : Nat → Nat} {w : Nat → va_E} {sz : Nat} (n t cl qu en kp : Nat) (dl ou cp ks pt : Nat → Nat) (co sh : Nat → Nat → Nat) (vs : Nat → Int64) (hok : OkS n t cl qu en kp dl ou cp ks pt co sh) (hRC : RC ad cI cJ cD w n t cl qu en kp dl ou cp ks pt co sh vs) (x : Int32) (hcl0 : cl = 1) (hbad : x < 0 ∨ ¬ x ≤ nI 3)  : MT l yX4_round (.code yX4_round cX4_round 2 (some .int)) ({ frames := 6, cells := 1, slots := 6, locals := 82 }) [.ref (ad 0), .int x] D (tyL cI cJ cZ cD) ad 89 w sz sa "java/lang/IllegalArgumentException" := by
  refine MT.of (by decide) (Nat.le_of_ble_eq_true rfl) ?_
  intro p e s m below meth c ls hC hlocks htab hl hw hT
  obtain ⟨hx, hb, hml, hown, hts⟩ := id hC
  have hA : ∀ q, s.heap.size ≤ q → xA ad 89 s.heap.size q := fun q h => Or.inr h
  have hl : lv_has ls 2 [(0, .ref (ad 0)), (1, .int x)] := hl
  obtain ⟨⟨wh, h0, hwh⟩, ⟨df, hDa, hdf⟩, hRd, ⟨kf, pf, hKf, hPf, hky⟩, ⟨msg, bas, vf, ptf, ivf, hR, hVs, hPt, hIv, hmsg, hptv, hiv⟩, ⟨sa0, sx0, sy0, hSt⟩⟩ := id hRC
  obtain ⟨⟨hn, ht, hcl, hqu, hen, hkp⟩, hle, ⟨hqb, hkb, hcb⟩, hvals, hclv, hptl, ⟨hz1, hz2, hz3⟩⟩ := id hok
  subst hcl0
  refine lv_aload_n hx hb dX4_round_0 rfl (lv_at hl 0 rfl) ?_
  refine x_callW0 (As := []) (rest := []) hC vf_X4_141 hw hA (by decide) h0 rfl rfl (k_needClosed l n t qu wh h0) ⟨rfl, rfl, Nat.le_of_ble_eq_true rfl, Nat.le_of_ble_eq_true rfl⟩ hl.1 (Nat.le_of_ble_eq_true rfl) dX4_round_1 ⟨Nat.zero_le _, Nat.zero_le _⟩ rfl (fun w_1 H locs hu hw => ?_)
  rw [hu] at hw
  refine lv_iload_n hx hb dX4_round_4 rfl (lv_at hl 1 rfl) ?_
  refine lv_tableOut (x := x) (tgt := 73) hx hb dX4_round_5 (sw_out (b := 3) (by decide) hbad) (by decide) ?_
  exact x_throwIAE (is := 156) (text := "what is not 0 .. 3") hl0 hC hlocks htab hw hT (by decide +kernel) hl.1 dX4_round_73 dX4_round_76 dX4_round_77 dX4_round_79 dX4_round_82 (Nat.le_of_ble_eq_true rfl) (Nat.le_of_ble_eq_true rfl) ⟨Nat.le_of_ble_eq_true rfl, Nat.le_of_ble_eq_true rfl⟩
def bsF (vs : Nat → Int64) (en : Nat) : Nat := basF (msgF (vs en) en)
def syP (ks : Nat → Nat) (vs : Nat → Int64) (en k : Nat) : Nat := bsF vs en ^ ks k % 2147483579
def syC (ks : Nat → Nat) (vs : Nat → Int64) (en k : Nat) : Nat := saC (ks k) (4 ^ ks k % 2147483579) (bsF vs en) (msgF (vs en) en)
def syZ (ks : Nat → Nat) (vs : Nat → Int64) (en k : Nat) : Nat := saZ (ks k) (4 ^ ks k % 2147483579) (bsF vs en) (msgF (vs en) en)
theorem syP_lt (ks : Nat → Nat) (vs : Nat → Int64) (en k : Nat) : syP ks vs en k < 2147483579 := Nat.mod_lt _ (by decide)
theorem syC_lt (ks : Nat → Nat) (vs : Nat → Int64) (en k : Nat) : syC ks vs en k < 1073741789 := chF_lt _ _ _ _ _
theorem syZ_lt (ks : Nat → Nat) (vs : Nat → Int64) (en k : Nat) : syZ ks vs en k < 1073741789 := Nat.mod_lt _ (by decide)

set_option maxHeartbeats 4000000 in
set_option maxRecDepth 100000 in
theorem c_says0 (l : Launch) {D : va_G} {cI cJ cZ cD : ClassId} {ad : Nat → Nat} {w : Nat → va_E} {sz : Nat} (n t cl qu en kp : Nat) (dl ou cp ks pt : Nat → Nat) (co sh : Nat → Nat → Nat) (vs : Nat → Int64) (hok : OkS n t cl qu en kp dl ou cp ks pt co sh) (hRC : RC ad cI cJ cD w n t cl qu en kp dl ou cp ks pt co sh vs) (k : Nat) (hk1 : 1 ≤ k) (hk2 : k ≤ n) (hcl0 : cl = 1)  : MW l yX4_says (.code yX4_says cX4_says 3 (some .int)) ({ frames := 5, cells := 0, slots := 0, locals := 161 }) [.ref (ad 0), .int (nI k), .int (nI 0)] D (tyL cI cJ cZ cD) ad 89 w sz (some (.int (nI (syP ks vs en k)))) (fun u => (∀ z, 76 < z → u z = w z) ∧ RC ad cI cJ cD u n t 1 qu en kp dl ou cp ks pt co sh vs) := by
  refine MW.of (by decide) (Nat.le_of_ble_eq_true rfl) ?_
  intro p e s m below meth c ls hC hr hlocks hl hw
  obtain ⟨hx, hb, hml, hown, hts⟩ := id hC
  have hA : ∀ q, s.heap.size ≤ q → xA ad 89 s.heap.size q := fun q h => Or.inr h
  have hl : lv_has ls 3 [(0, .ref (ad 0)), (1, .int (nI k)), (2, .int (nI 0))] := hl
  obtain ⟨⟨wh, h0, hwh⟩, ⟨df, hDa, hdf⟩, hRd, ⟨kf, pf, hKf, hPf, hky⟩, ⟨msg, bas, vf, ptf, ivf, hR, hVs, hPt, hIv, hmsg, hptv, hiv⟩, ⟨sa0, sx0, sy0, hSt⟩⟩ := id hRC
  obtain ⟨⟨hn, ht, hcl, hqu, hen, hkp⟩, hle, ⟨hqb, hkb, hcb⟩, hvals, hclv, hptl, ⟨hz1, hz2, hz3⟩⟩ := id hok
  subst hcl0
  refine lv_aload_n hx hb dX4_says_0 rfl (lv_at hl 0 rfl) ?_
  refine x_callW0 (As := []) (rest := []) hC vf_X4_141 hw hA (by decide) h0 rfl rfl (k_needClosed l n t qu wh h0) ⟨rfl, rfl, Nat.le_of_ble_eq_true rfl, Nat.le_of_ble_eq_true rfl⟩ hl.1 (Nat.le_of_ble_eq_true rfl) dX4_says_1 ⟨Nat.zero_le _, Nat.zero_le _⟩ rfl (fun w_1 H locs hu hw => ?_)
  rw [hu] at hw
  refine lv_aload_n hx hb dX4_says_4 rfl (lv_at hl 0 rfl) ?_
  refine lv_iload_n hx hb dX4_says_5 rfl (lv_at hl 1 rfl) ?_
  refine x_callW0 (As := [.int (nI k)]) (rest := []) hC vf_X4_62 hw hA (by decide) h0 rfl rfl (k_needNode l n t _ qu wh hn k hk1 hk2 h0) ⟨rfl, rfl, Nat.le_of_ble_eq_true rfl, Nat.le_of_ble_eq_true rfl⟩ hl.1 (Nat.le_of_ble_eq_true rfl) dX4_says_6 ⟨Nat.zero_le _, Nat.zero_le _⟩ rfl (fun w_2 H locs hu hw => ?_)
  rw [hu] at hw
  refine lv_aload_n hx hb dX4_says_9 rfl (lv_at hl 0 rfl) ?_
  refine lv_iload_n hx hb dX4_says_10 rfl (lv_at hl 2 rfl) ?_
  refine lv_iconst (v := nI 2) hx hb dX4_says_11 (by decide) ?_
  refine x_callW0 (As := [.int (nI 0), .int (nI 2)]) (rest := []) hC vf_X4_137 hw hA (by decide) h0 rfl rfl (k_needWhat l n t 1 qu wh 0 2 (by decide) (by decide) h0) ⟨rfl, rfl, Nat.le_of_ble_eq_true rfl, Nat.le_of_ble_eq_true rfl⟩ hl.1 (Nat.le_of_ble_eq_true rfl) dX4_says_12 ⟨Nat.zero_le _, Nat.zero_le _⟩ rfl (fun w_3 H locs hu hw => ?_)
  rw [hu] at hw
  have hky1 := hky rfl k hk1 hk2
  obtain ⟨hm1, hm2, hm3⟩ := hmsg rfl
  have hR9 := hR
  rw [hm1, hm2] at hR9
  refine lv_aload_n hx hb dX4_says_15 rfl (lv_at hl 0 rfl) ?_
  refine lv_iload_n hx hb dX4_says_16 rfl (lv_at hl 1 rfl) ?_
  refine x_callW0 (As := [.int (nI k)]) (rest := []) hC vf_X4_158 hw hA (by decide) h0 rfl rfl (k_stateFor l n t 1 qu wh k (by omega) kf pf (ks k) (4 ^ ks k % 2147483579) (bsF vs en) (msgF (vs en) en) _ _ sa0 sx0 sy0 hky1.1 hky1.2 ((hclv rfl).1 k (by omega)) (Nat.lt_trans (Nat.mod_lt _ (by decide)) (by decide)) (basF_lt _) h0 hKf hPf hR9 hSt) ⟨rfl, rfl, Nat.le_of_ble_eq_true rfl, Nat.le_of_ble_eq_true rfl⟩ hl.1 (Nat.le_of_ble_eq_true rfl) dX4_says_17 ⟨Nat.zero_le _, Nat.zero_le _⟩ rfl (fun w_4 H locs huS hw => ?_)
  have hneS : ∀ z, z ≠ 76 → w_4 z = w z := fun z hz => by rw [huS]; exact va_up_ne _ _ hz
  have hStS : w_4 76 = .inr (2, [.int (nI (syP ks vs en k)), .int (nI (syC ks vs en k)), .int (nI (syZ ks vs en k))]) := by rw [huS]; exact va_up_self _ _ _
  have h0S := (hneS 0 (by decide)).trans h0
  have hRS := (hneS 72 (by decide)).trans hR9
  have hPfS := (hneS 71 (by decide)).trans hPf
  refine lv_iload_n hx hb dX4_says_20 rfl (lv_at hl 2 rfl) ?_
  refine lv_if_ne (tgt := 32) hx hb dX4_says_21 (by decide) (fun q1 => absurd (by decide) q1) (fun q1 => ?_)
  refine lv_aload_n hx hb dX4_says_24 rfl (lv_at hl 0 rfl) ?_
  refine gf_X4_33 hx hb hts hown hw (by decide) h0S rfl dX4_says_25 ?_
  refine gf_X4_161 hx hb hts hown hw (by decide) hStS rfl dX4_says_28 ?_
  exact x_wretI hx hb hr hlocks hw ⟨fun z hz => hneS z (by omega), RCo.of ⟨wh, h0, hwh⟩ (hneS 0 (by decide)), RCa.of ⟨df, hDa, hdf⟩ (hneS 1 (by decide)), hRd.of (fun z h1 h2 => hneS z (by omega)), RCk.of ⟨kf, pf, hKf, hPf, hky⟩ (hneS 70 (by decide)) (hneS 71 (by decide)), RCr.of ⟨msg, bas, vf, ptf, ivf, hR, hVs, hPt, hIv, hmsg, hptv, hiv⟩ (fun z _ _ => hneS z (by omega)), ⟨_, _, _, hStS⟩⟩ dX4_says_31
set_option maxHeartbeats 4000000 in
set_option maxRecDepth 100000 in
theorem c_says1 (l : Launch) {D : va_G} {cI cJ cZ cD : ClassId} {ad : Nat → Nat} {w : Nat → va_E} {sz : Nat} (n t cl qu en kp : Nat) (dl ou cp ks pt : Nat → Nat) (co sh : Nat → Nat → Nat) (vs : Nat → Int64) (hok : OkS n t cl qu en kp dl ou cp ks pt co sh) (hRC : RC ad cI cJ cD w n t cl qu en kp dl ou cp ks pt co sh vs) (k : Nat) (hk1 : 1 ≤ k) (hk2 : k ≤ n) (hcl0 : cl = 1)  : MW l yX4_says (.code yX4_says cX4_says 3 (some .int)) ({ frames := 5, cells := 0, slots := 0, locals := 161 }) [.ref (ad 0), .int (nI k), .int (nI 1)] D (tyL cI cJ cZ cD) ad 89 w sz (some (.int (nI (syC ks vs en k)))) (fun u => (∀ z, 76 < z → u z = w z) ∧ RC ad cI cJ cD u n t 1 qu en kp dl ou cp ks pt co sh vs) := by
  refine MW.of (by decide) (Nat.le_of_ble_eq_true rfl) ?_
  intro p e s m below meth c ls hC hr hlocks hl hw
  obtain ⟨hx, hb, hml, hown, hts⟩ := id hC
  have hA : ∀ q, s.heap.size ≤ q → xA ad 89 s.heap.size q := fun q h => Or.inr h
  have hl : lv_has ls 3 [(0, .ref (ad 0)), (1, .int (nI k)), (2, .int (nI 1))] := hl
  obtain ⟨⟨wh, h0, hwh⟩, ⟨df, hDa, hdf⟩, hRd, ⟨kf, pf, hKf, hPf, hky⟩, ⟨msg, bas, vf, ptf, ivf, hR, hVs, hPt, hIv, hmsg, hptv, hiv⟩, ⟨sa0, sx0, sy0, hSt⟩⟩ := id hRC
  obtain ⟨⟨hn, ht, hcl, hqu, hen, hkp⟩, hle, ⟨hqb, hkb, hcb⟩, hvals, hclv, hptl, ⟨hz1, hz2, hz3⟩⟩ := id hok
  subst hcl0
  refine lv_aload_n hx hb dX4_says_0 rfl (lv_at hl 0 rfl) ?_
  refine x_callW0 (As := []) (rest := []) hC vf_X4_141 hw hA (by decide) h0 rfl rfl (k_needClosed l n t qu wh h0) ⟨rfl, rfl, Nat.le_of_ble_eq_true rfl, Nat.le_of_ble_eq_true rfl⟩ hl.1 (Nat.le_of_ble_eq_true rfl) dX4_says_1 ⟨Nat.zero_le _, Nat.zero_le _⟩ rfl (fun w_1 H locs hu hw => ?_)
  rw [hu] at hw
  refine lv_aload_n hx hb dX4_says_4 rfl (lv_at hl 0 rfl) ?_
  refine lv_iload_n hx hb dX4_says_5 rfl (lv_at hl 1 rfl) ?_
  refine x_callW0 (As := [.int (nI k)]) (rest := []) hC vf_X4_62 hw hA (by decide) h0 rfl rfl (k_needNode l n t _ qu wh hn k hk1 hk2 h0) ⟨rfl, rfl, Nat.le_of_ble_eq_true rfl, Nat.le_of_ble_eq_true rfl⟩ hl.1 (Nat.le_of_ble_eq_true rfl) dX4_says_6 ⟨Nat.zero_le _, Nat.zero_le _⟩ rfl (fun w_2 H locs hu hw => ?_)
  rw [hu] at hw
  refine lv_aload_n hx hb dX4_says_9 rfl (lv_at hl 0 rfl) ?_
  refine lv_iload_n hx hb dX4_says_10 rfl (lv_at hl 2 rfl) ?_
  refine lv_iconst (v := nI 2) hx hb dX4_says_11 (by decide) ?_
  refine x_callW0 (As := [.int (nI 1), .int (nI 2)]) (rest := []) hC vf_X4_137 hw hA (by decide) h0 rfl rfl (k_needWhat l n t 1 qu wh 1 2 (by decide) (by decide) h0) ⟨rfl, rfl, Nat.le_of_ble_eq_true rfl, Nat.le_of_ble_eq_true rfl⟩ hl.1 (Nat.le_of_ble_eq_true rfl) dX4_says_12 ⟨Nat.zero_le _, Nat.zero_le _⟩ rfl (fun w_3 H locs hu hw => ?_)
  rw [hu] at hw
  have hky1 := hky rfl k hk1 hk2
  obtain ⟨hm1, hm2, hm3⟩ := hmsg rfl
  have hR9 := hR
  rw [hm1, hm2] at hR9
  refine lv_aload_n hx hb dX4_says_15 rfl (lv_at hl 0 rfl) ?_
  refine lv_iload_n hx hb dX4_says_16 rfl (lv_at hl 1 rfl) ?_
  refine x_callW0 (As := [.int (nI k)]) (rest := []) hC vf_X4_158 hw hA (by decide) h0 rfl rfl (k_stateFor l n t 1 qu wh k (by omega) kf pf (ks k) (4 ^ ks k % 2147483579) (bsF vs en) (msgF (vs en) en) _ _ sa0 sx0 sy0 hky1.1 hky1.2 ((hclv rfl).1 k (by omega)) (Nat.lt_trans (Nat.mod_lt _ (by decide)) (by decide)) (basF_lt _) h0 hKf hPf hR9 hSt) ⟨rfl, rfl, Nat.le_of_ble_eq_true rfl, Nat.le_of_ble_eq_true rfl⟩ hl.1 (Nat.le_of_ble_eq_true rfl) dX4_says_17 ⟨Nat.zero_le _, Nat.zero_le _⟩ rfl (fun w_4 H locs huS hw => ?_)
  have hneS : ∀ z, z ≠ 76 → w_4 z = w z := fun z hz => by rw [huS]; exact va_up_ne _ _ hz
  have hStS : w_4 76 = .inr (2, [.int (nI (syP ks vs en k)), .int (nI (syC ks vs en k)), .int (nI (syZ ks vs en k))]) := by rw [huS]; exact va_up_self _ _ _
  have h0S := (hneS 0 (by decide)).trans h0
  have hRS := (hneS 72 (by decide)).trans hR9
  have hPfS := (hneS 71 (by decide)).trans hPf
  refine lv_iload_n hx hb dX4_says_20 rfl (lv_at hl 2 rfl) ?_
  refine lv_if_ne (tgt := 32) hx hb dX4_says_21 (by decide) (fun q1 => ?_) (fun q1 => absurd q1 (by decide))
  refine lv_iload_n hx hb dX4_says_32 rfl (lv_at hl 2 rfl) ?_
  refine lv_iconst (v := nI 1) hx hb dX4_says_33 (by decide) ?_
  refine lv_icmp_ne (tgt := 47) hx hb dX4_says_34 (by decide) (fun q2 => absurd (by decide) q2) (fun q2 => ?_)
  refine lv_aload_n hx hb dX4_says_37 rfl (lv_at hl 0 rfl) ?_
  refine gf_X4_33 hx hb hts hown hw (by decide) h0S rfl dX4_says_38 ?_
  refine gf_X4_164 hx hb hts hown hw (by decide) hStS rfl dX4_says_41 ?_
  refine lv_goto (tgt := 54) hx hb dX4_says_44 (by decide) ?_
  exact x_wretI hx hb hr hlocks hw ⟨fun z hz => hneS z (by omega), RCo.of ⟨wh, h0, hwh⟩ (hneS 0 (by decide)), RCa.of ⟨df, hDa, hdf⟩ (hneS 1 (by decide)), hRd.of (fun z h1 h2 => hneS z (by omega)), RCk.of ⟨kf, pf, hKf, hPf, hky⟩ (hneS 70 (by decide)) (hneS 71 (by decide)), RCr.of ⟨msg, bas, vf, ptf, ivf, hR, hVs, hPt, hIv, hmsg, hptv, hiv⟩ (fun z _ _ => hneS z (by omega)), ⟨_, _, _, hStS⟩⟩ dX4_says_54
set_option maxHeartbeats 4000000 in
set_option maxRecDepth 100000 in
theorem c_says2 (l : Launch) {D : va_G} {cI cJ cZ cD : ClassId} {ad : Nat → Nat} {w : Nat → va_E} {sz : Nat} (n t cl qu en kp : Nat) (dl ou cp ks pt : Nat → Nat) (co sh : Nat → Nat → Nat) (vs : Nat → Int64) (hok : OkS n t cl qu en kp dl ou cp ks pt co sh) (hRC : RC ad cI cJ cD w n t cl qu en kp dl ou cp ks pt co sh vs) (k : Nat) (hk1 : 1 ≤ k) (hk2 : k ≤ n) (hcl0 : cl = 1)  : MW l yX4_says (.code yX4_says cX4_says 3 (some .int)) ({ frames := 5, cells := 0, slots := 0, locals := 161 }) [.ref (ad 0), .int (nI k), .int (nI 2)] D (tyL cI cJ cZ cD) ad 89 w sz (some (.int (nI (syZ ks vs en k)))) (fun u => (∀ z, 76 < z → u z = w z) ∧ RC ad cI cJ cD u n t 1 qu en kp dl ou cp ks pt co sh vs) := by
  refine MW.of (by decide) (Nat.le_of_ble_eq_true rfl) ?_
  intro p e s m below meth c ls hC hr hlocks hl hw
  obtain ⟨hx, hb, hml, hown, hts⟩ := id hC
  have hA : ∀ q, s.heap.size ≤ q → xA ad 89 s.heap.size q := fun q h => Or.inr h
  have hl : lv_has ls 3 [(0, .ref (ad 0)), (1, .int (nI k)), (2, .int (nI 2))] := hl
  obtain ⟨⟨wh, h0, hwh⟩, ⟨df, hDa, hdf⟩, hRd, ⟨kf, pf, hKf, hPf, hky⟩, ⟨msg, bas, vf, ptf, ivf, hR, hVs, hPt, hIv, hmsg, hptv, hiv⟩, ⟨sa0, sx0, sy0, hSt⟩⟩ := id hRC
  obtain ⟨⟨hn, ht, hcl, hqu, hen, hkp⟩, hle, ⟨hqb, hkb, hcb⟩, hvals, hclv, hptl, ⟨hz1, hz2, hz3⟩⟩ := id hok
  subst hcl0
  refine lv_aload_n hx hb dX4_says_0 rfl (lv_at hl 0 rfl) ?_
  refine x_callW0 (As := []) (rest := []) hC vf_X4_141 hw hA (by decide) h0 rfl rfl (k_needClosed l n t qu wh h0) ⟨rfl, rfl, Nat.le_of_ble_eq_true rfl, Nat.le_of_ble_eq_true rfl⟩ hl.1 (Nat.le_of_ble_eq_true rfl) dX4_says_1 ⟨Nat.zero_le _, Nat.zero_le _⟩ rfl (fun w_1 H locs hu hw => ?_)
  rw [hu] at hw
  refine lv_aload_n hx hb dX4_says_4 rfl (lv_at hl 0 rfl) ?_
  refine lv_iload_n hx hb dX4_says_5 rfl (lv_at hl 1 rfl) ?_
  refine x_callW0 (As := [.int (nI k)]) (rest := []) hC vf_X4_62 hw hA (by decide) h0 rfl rfl (k_needNode l n t _ qu wh hn k hk1 hk2 h0) ⟨rfl, rfl, Nat.le_of_ble_eq_true rfl, Nat.le_of_ble_eq_true rfl⟩ hl.1 (Nat.le_of_ble_eq_true rfl) dX4_says_6 ⟨Nat.zero_le _, Nat.zero_le _⟩ rfl (fun w_2 H locs hu hw => ?_)
  rw [hu] at hw
  refine lv_aload_n hx hb dX4_says_9 rfl (lv_at hl 0 rfl) ?_
  refine lv_iload_n hx hb dX4_says_10 rfl (lv_at hl 2 rfl) ?_
  refine lv_iconst (v := nI 2) hx hb dX4_says_11 (by decide) ?_
  refine x_callW0 (As := [.int (nI 2), .int (nI 2)]) (rest := []) hC vf_X4_137 hw hA (by decide) h0 rfl rfl (k_needWhat l n t 1 qu wh 2 2 (by decide) (by decide) h0) ⟨rfl, rfl, Nat.le_of_ble_eq_true rfl, Nat.le_of_ble_eq_true rfl⟩ hl.1 (Nat.le_of_ble_eq_true rfl) dX4_says_12 ⟨Nat.zero_le _, Nat.zero_le _⟩ rfl (fun w_3 H locs hu hw => ?_)
  rw [hu] at hw
  have hky1 := hky rfl k hk1 hk2
  obtain ⟨hm1, hm2, hm3⟩ := hmsg rfl
  have hR9 := hR
  rw [hm1, hm2] at hR9
  refine lv_aload_n hx hb dX4_says_15 rfl (lv_at hl 0 rfl) ?_
  refine lv_iload_n hx hb dX4_says_16 rfl (lv_at hl 1 rfl) ?_
  refine x_callW0 (As := [.int (nI k)]) (rest := []) hC vf_X4_158 hw hA (by decide) h0 rfl rfl (k_stateFor l n t 1 qu wh k (by omega) kf pf (ks k) (4 ^ ks k % 2147483579) (bsF vs en) (msgF (vs en) en) _ _ sa0 sx0 sy0 hky1.1 hky1.2 ((hclv rfl).1 k (by omega)) (Nat.lt_trans (Nat.mod_lt _ (by decide)) (by decide)) (basF_lt _) h0 hKf hPf hR9 hSt) ⟨rfl, rfl, Nat.le_of_ble_eq_true rfl, Nat.le_of_ble_eq_true rfl⟩ hl.1 (Nat.le_of_ble_eq_true rfl) dX4_says_17 ⟨Nat.zero_le _, Nat.zero_le _⟩ rfl (fun w_4 H locs huS hw => ?_)
  have hneS : ∀ z, z ≠ 76 → w_4 z = w z := fun z hz => by rw [huS]; exact va_up_ne _ _ hz
  have hStS : w_4 76 = .inr (2, [.int (nI (syP ks vs en k)), .int (nI (syC ks vs en k)), .int (nI (syZ ks vs en k))]) := by rw [huS]; exact va_up_self _ _ _
  have h0S := (hneS 0 (by decide)).trans h0
  have hRS := (hneS 72 (by decide)).trans hR9
  have hPfS := (hneS 71 (by decide)).trans hPf
  refine lv_iload_n hx hb dX4_says_20 rfl (lv_at hl 2 rfl) ?_
  refine lv_if_ne (tgt := 32) hx hb dX4_says_21 (by decide) (fun q1 => ?_) (fun q1 => absurd q1 (by decide))
  refine lv_iload_n hx hb dX4_says_32 rfl (lv_at hl 2 rfl) ?_
  refine lv_iconst (v := nI 1) hx hb dX4_says_33 (by decide) ?_
  refine lv_icmp_ne (tgt := 47) hx hb dX4_says_34 (by decide) (fun q2 => ?_) (fun q2 => absurd q2 (by decide))
  refine lv_aload_n hx hb dX4_says_47 rfl (lv_at hl 0 rfl) ?_
  refine gf_X4_33 hx hb hts hown hw (by decide) h0S rfl dX4_says_48 ?_
  refine gf_X4_167 hx hb hts hown hw (by decide) hStS rfl dX4_says_51 ?_
  exact x_wretI hx hb hr hlocks hw ⟨fun z hz => hneS z (by omega), RCo.of ⟨wh, h0, hwh⟩ (hneS 0 (by decide)), RCa.of ⟨df, hDa, hdf⟩ (hneS 1 (by decide)), hRd.of (fun z h1 h2 => hneS z (by omega)), RCk.of ⟨kf, pf, hKf, hPf, hky⟩ (hneS 70 (by decide)) (hneS 71 (by decide)), RCr.of ⟨msg, bas, vf, ptf, ivf, hR, hVs, hPt, hIv, hmsg, hptv, hiv⟩ (fun z _ _ => hneS z (by omega)), ⟨_, _, _, hStS⟩⟩ dX4_says_54
set_option maxHeartbeats 4000000 in
set_option maxRecDepth 100000 in
theorem c_saysS (l : Launch) (hl0 : l.stackTraces = false) {D : va_G} {cI cJ cZ cD : ClassId} {ad : Nat → Nat} {sa : Nat → Nat} {w : Nat → va_E} {sz : Nat} (n t cl qu en kp : Nat) (dl ou cp ks pt : Nat → Nat) (co sh : Nat → Nat → Nat) (vs : Nat → Int64) (hok : OkS n t cl qu en kp dl ou cp ks pt co sh) (hRC : RC ad cI cJ cD w n t cl qu en kp dl ou cp ks pt co sh vs) (x y : Int32) (hcl0 : cl = 0)  : MT l yX4_says (.code yX4_says cX4_says 3 (some .int)) ({ frames := 7, cells := 1, slots := 6, locals := 110 }) [.ref (ad 0), .int x, .int y] D (tyL cI cJ cZ cD) ad 89 w sz sa "java/lang/IllegalStateException" := by
  refine MT.of (by decide) (Nat.le_of_ble_eq_true rfl) ?_
  intro p e s m below meth c ls hC hlocks htab hl hw hT
  obtain ⟨hx, hb, hml, hown, hts⟩ := id hC
  have hA : ∀ q, s.heap.size ≤ q → xA ad 89 s.heap.size q := fun q h => Or.inr h
  have hl : lv_has ls 3 [(0, .ref (ad 0)), (1, .int x), (2, .int y)] := hl
  obtain ⟨⟨wh, h0, hwh⟩, ⟨df, hDa, hdf⟩, hRd, ⟨kf, pf, hKf, hPf, hky⟩, ⟨msg, bas, vf, ptf, ivf, hR, hVs, hPt, hIv, hmsg, hptv, hiv⟩, ⟨sa0, sx0, sy0, hSt⟩⟩ := id hRC
  obtain ⟨⟨hn, ht, hcl, hqu, hen, hkp⟩, hle, ⟨hqb, hkb, hcb⟩, hvals, hclv, hptl, ⟨hz1, hz2, hz3⟩⟩ := id hok
  subst hcl0
  refine lv_aload_n hx hb dX4_says_0 rfl (lv_at hl 0 rfl) ?_
  exact x_prop (As := []) (rest := []) hC vf_X4_141 hlocks htab hw hT (by decide) h0 rfl rfl (k_needClosedT l hl0 n t qu wh h0) ⟨rfl, rfl, Nat.le_of_ble_eq_true rfl, Nat.le_of_ble_eq_true rfl⟩ hl.1 (Nat.le_of_ble_eq_true rfl) dX4_says_1 ⟨Nat.le_of_ble_eq_true rfl, Nat.le_of_ble_eq_true rfl⟩ rfl
set_option maxHeartbeats 4000000 in
set_option maxRecDepth 100000 in
theorem c_saysA (l : Launch) (hl0 : l.stackTraces = false) {D : va_G} {cI cJ cZ cD : ClassId} {ad : Nat → Nat} {sa : Nat → Nat} {w : Nat → va_E} {sz : Nat} (n t cl qu en kp : Nat) (dl ou cp ks pt : Nat → Nat) (co sh : Nat → Nat → Nat) (vs : Nat → Int64) (hok : OkS n t cl qu en kp dl ou cp ks pt co sh) (hRC : RC ad cI cJ cD w n t cl qu en kp dl ou cp ks pt co sh vs) (x y : Int32) (hcl0 : cl = 1) (hbad : ¬ (isNd n x ∧ ¬ y < 0 ∧ y ≤ nI 2))  : MT l yX4_says (.code yX4_says cX4_says 3 (some .int)) ({ frames := 7, cells := 1, slots := 6, locals := 112 }) [.ref (ad 0), .int x, .int y] D (tyL cI cJ cZ cD) ad 89 w sz sa "java/lang/IllegalArgumentException" := by
  refine MT.of (by decide) (Nat.le_of_ble_eq_true rfl) ?_
  intro p e s m below meth c ls hC hlocks htab hl hw hT
  obtain ⟨hx, hb, hml, hown, hts⟩ := id hC
  have hA : ∀ q, s.heap.size ≤ q → xA ad 89 s.heap.size q := fun q h => Or.inr h
  have hl : lv_has ls 3 [(0, .ref (ad 0)), (1, .int x), (2, .int y)] := hl
  obtain ⟨⟨wh, h0, hwh⟩, ⟨df, hDa, hdf⟩, hRd, ⟨kf, pf, hKf, hPf, hky⟩, ⟨msg, bas, vf, ptf, ivf, hR, hVs, hPt, hIv, hmsg, hptv, hiv⟩, ⟨sa0, sx0, sy0, hSt⟩⟩ := id hRC
  obtain ⟨⟨hn, ht, hcl, hqu, hen, hkp⟩, hle, ⟨hqb, hkb, hcb⟩, hvals, hclv, hptl, ⟨hz1, hz2, hz3⟩⟩ := id hok
  subst hcl0
  refine lv_aload_n hx hb dX4_says_0 rfl (lv_at hl 0 rfl) ?_
  refine x_callW0 (As := []) (rest := []) hC vf_X4_141 hw hA (by decide) h0 rfl rfl (k_needClosed l n t qu wh h0) ⟨rfl, rfl, Nat.le_of_ble_eq_true rfl, Nat.le_of_ble_eq_true rfl⟩ hl.1 (Nat.le_of_ble_eq_true rfl) dX4_says_1 ⟨Nat.zero_le _, Nat.zero_le _⟩ rfl (fun w_1 H locs hu hw => ?_)
  rw [hu] at hw
  by_cases c1 : isNd n x
  · skip
    obtain ⟨k, hk1, hk2, rfl⟩ := isNd_of hn c1
    refine lv_aload_n hx hb dX4_says_4 rfl (lv_at hl 0 rfl) ?_
    refine lv_iload_n hx hb dX4_says_5 rfl (lv_at hl 1 rfl) ?_
    refine x_callW0 (As := [.int (nI k)]) (rest := []) hC vf_X4_62 hw hA (by decide) h0 rfl rfl (k_needNode l n t _ qu wh hn k hk1 hk2 h0) ⟨rfl, rfl, Nat.le_of_ble_eq_true rfl, Nat.le_of_ble_eq_true rfl⟩ hl.1 (Nat.le_of_ble_eq_true rfl) dX4_says_6 ⟨Nat.zero_le _, Nat.zero_le _⟩ rfl (fun w_2 H locs hu hw => ?_)
    rw [hu] at hw
    refine lv_aload_n hx hb dX4_says_9 rfl (lv_at hl 0 rfl) ?_
    refine lv_iload_n hx hb dX4_says_10 rfl (lv_at hl 2 rfl) ?_
    refine lv_iconst (v := nI 2) hx hb dX4_says_11 (by decide) ?_
    exact x_prop (As := [.int y, .int (nI 2)]) (rest := []) hC vf_X4_137 hlocks htab hw hT (by decide) h0 rfl rfl (k_needWhatT l hl0 n t 1 qu wh y 2 (by by_cases hy : y < 0; exact Or.inl hy; exact Or.inr (fun q => hbad ⟨c1, hy, q⟩)) h0) ⟨rfl, rfl, Nat.le_of_ble_eq_true rfl, Nat.le_of_ble_eq_true rfl⟩ hl.1 (Nat.le_of_ble_eq_true rfl) dX4_says_12 ⟨Nat.le_of_ble_eq_true rfl, Nat.le_of_ble_eq_true rfl⟩ rfl
  · skip
    refine lv_aload_n hx hb dX4_says_4 rfl (lv_at hl 0 rfl) ?_
    refine lv_iload_n hx hb dX4_says_5 rfl (lv_at hl 1 rfl) ?_
    exact x_prop (As := [.int x]) (rest := []) hC vf_X4_62 hlocks htab hw hT (by decide) h0 rfl rfl (k_needNodeT l hl0 n t 1 qu wh hn x c1 h0) ⟨rfl, rfl, Nat.le_of_ble_eq_true rfl, Nat.le_of_ble_eq_true rfl⟩ hl.1 (Nat.le_of_ble_eq_true rfl) dX4_says_6 ⟨Nat.le_of_ble_eq_true rfl, Nat.le_of_ble_eq_true rfl⟩ rfl
set_option maxHeartbeats 4000000 in
set_option maxRecDepth 100000 in
theorem c_offerS (l : Launch) (hl0 : l.stackTraces = false) {D : va_G} {cI cJ cZ cD : ClassId} {ad : Nat → Nat} {sa : Nat → Nat} {w : Nat → va_E} {sz : Nat} (n t cl qu en kp : Nat) (dl ou cp ks pt : Nat → Nat) (co sh : Nat → Nat → Nat) (vs : Nat → Int64) (hok : OkS n t cl qu en kp dl ou cp ks pt co sh) (hRC : RC ad cI cJ cD w n t cl qu en kp dl ou cp ks pt co sh vs) (x y b1 b2 b3 : Int32) (hcl0 : cl = 0)  : MT l yX4_offer (.code yX4_offer cX4_offer 6 (some .boolean)) ({ frames := 7, cells := 1, slots := 6, locals := 110 }) [.ref (ad 0), .int x, .int y, .int b1, .int b2, .int b3] D (tyL cI cJ cZ cD) ad 89 w sz sa "java/lang/IllegalStateException" := by
  refine MT.of (by decide) (Nat.le_of_ble_eq_true rfl) ?_
  intro p e s m below meth c ls hC hlocks htab hl hw hT
  obtain ⟨hx, hb, hml, hown, hts⟩ := id hC
  have hA : ∀ q, s.heap.size ≤ q → xA ad 89 s.heap.size q := fun q h => Or.inr h
  have hl : lv_has ls 6 [(0, .ref (ad 0)), (1, .int x), (2, .int y), (3, .int b1), (4, .int b2), (5, .int b3)] := hl
  obtain ⟨⟨wh, h0, hwh⟩, ⟨df, hDa, hdf⟩, hRd, ⟨kf, pf, hKf, hPf, hky⟩, ⟨msg, bas, vf, ptf, ivf, hR, hVs, hPt, hIv, hmsg, hptv, hiv⟩, ⟨sa0, sx0, sy0, hSt⟩⟩ := id hRC
  obtain ⟨⟨hn, ht, hcl, hqu, hen, hkp⟩, hle, ⟨hqb, hkb, hcb⟩, hvals, hclv, hptl, ⟨hz1, hz2, hz3⟩⟩ := id hok
  subst hcl0
  refine lv_aload_n hx hb dX4_offer_0 rfl (lv_at hl 0 rfl) ?_
  exact x_prop (As := []) (rest := []) hC vf_X4_141 hlocks htab hw hT (by decide) h0 rfl rfl (k_needClosedT l hl0 n t qu wh h0) ⟨rfl, rfl, Nat.le_of_ble_eq_true rfl, Nat.le_of_ble_eq_true rfl⟩ hl.1 (Nat.le_of_ble_eq_true rfl) dX4_offer_1 ⟨Nat.le_of_ble_eq_true rfl, Nat.le_of_ble_eq_true rfl⟩ rfl
set_option maxHeartbeats 4000000 in
set_option maxRecDepth 100000 in
theorem c_offerA (l : Launch) (hl0 : l.stackTraces = false) {D : va_G} {cI cJ cZ cD : ClassId} {ad : Nat → Nat} {sa : Nat → Nat} {w : Nat → va_E} {sz : Nat} (n t cl qu en kp : Nat) (dl ou cp ks pt : Nat → Nat) (co sh : Nat → Nat → Nat) (vs : Nat → Int64) (hok : OkS n t cl qu en kp dl ou cp ks pt co sh) (hRC : RC ad cI cJ cD w n t cl qu en kp dl ou cp ks pt co sh vs) (x y b1 b2 b3 : Int32) (hcl0 : cl = 1) (hbad : ¬ (isNd n x ∧ isNd n y))  : MT l yX4_offer (.code yX4_offer cX4_offer 6 (some .boolean)) ({ frames := 7, cells := 1, slots := 6, locals := 111 }) [.ref (ad 0), .int x, .int y, .int b1, .int b2, .int b3] D (tyL cI cJ cZ cD) ad 89 w sz sa "java/lang/IllegalArgumentException" := by
  refine MT.of (by decide) (Nat.le_of_ble_eq_true rfl) ?_
  intro p e s m below meth c ls hC hlocks htab hl hw hT
  obtain ⟨hx, hb, hml, hown, hts⟩ := id hC
  have hA : ∀ q, s.heap.size ≤ q → xA ad 89 s.heap.size q := fun q h => Or.inr h
  have hl : lv_has ls 6 [(0, .ref (ad 0)), (1, .int x), (2, .int y), (3, .int b1), (4, .int b2), (5, .int b3)] := hl
  obtain ⟨⟨wh, h0, hwh⟩, ⟨df, hDa, hdf⟩, hRd, ⟨kf, pf, hKf, hPf, hky⟩, ⟨msg, bas, vf, ptf, ivf, hR, hVs, hPt, hIv, hmsg, hptv, hiv⟩, ⟨sa0, sx0, sy0, hSt⟩⟩ := id hRC
  obtain ⟨⟨hn, ht, hcl, hqu, hen, hkp⟩, hle, ⟨hqb, hkb, hcb⟩, hvals, hclv, hptl, ⟨hz1, hz2, hz3⟩⟩ := id hok
  subst hcl0
  refine lv_aload_n hx hb dX4_offer_0 rfl (lv_at hl 0 rfl) ?_
  refine x_callW0 (As := []) (rest := []) hC vf_X4_141 hw hA (by decide) h0 rfl rfl (k_needClosed l n t qu wh h0) ⟨rfl, rfl, Nat.le_of_ble_eq_true rfl, Nat.le_of_ble_eq_true rfl⟩ hl.1 (Nat.le_of_ble_eq_true rfl) dX4_offer_1 ⟨Nat.zero_le _, Nat.zero_le _⟩ rfl (fun w_1 H locs hu hw => ?_)
  rw [hu] at hw
  by_cases c1 : isNd n x
  · skip
    obtain ⟨k, hk1, hk2, rfl⟩ := isNd_of hn c1
    refine lv_aload_n hx hb dX4_offer_4 rfl (lv_at hl 0 rfl) ?_
    refine lv_iload_n hx hb dX4_offer_5 rfl (lv_at hl 1 rfl) ?_
    refine x_callW0 (As := [.int (nI k)]) (rest := []) hC vf_X4_62 hw hA (by decide) h0 rfl rfl (k_needNode l n t _ qu wh hn k hk1 hk2 h0) ⟨rfl, rfl, Nat.le_of_ble_eq_true rfl, Nat.le_of_ble_eq_true rfl⟩ hl.1 (Nat.le_of_ble_eq_true rfl) dX4_offer_6 ⟨Nat.zero_le _, Nat.zero_le _⟩ rfl (fun w_2 H locs hu hw => ?_)
    rw [hu] at hw
    refine lv_aload_n hx hb dX4_offer_9 rfl (lv_at hl 0 rfl) ?_
    refine lv_iload_n hx hb dX4_offer_10 rfl (lv_at hl 2 rfl) ?_
    exact x_prop (As := [.int y]) (rest := []) hC vf_X4_62 hlocks htab hw hT (by decide) h0 rfl rfl (k_needNodeT l hl0 n t 1 qu wh hn y (fun q => hbad ⟨c1, q⟩) h0) ⟨rfl, rfl, Nat.le_of_ble_eq_true rfl, Nat.le_of_ble_eq_true rfl⟩ hl.1 (Nat.le_of_ble_eq_true rfl) dX4_offer_11 ⟨Nat.le_of_ble_eq_true rfl, Nat.le_of_ble_eq_true rfl⟩ rfl
  · skip
    refine lv_aload_n hx hb dX4_offer_4 rfl (lv_at hl 0 rfl) ?_
    refine lv_iload_n hx hb dX4_offer_5 rfl (lv_at hl 1 rfl) ?_
    exact x_prop (As := [.int x]) (rest := []) hC vf_X4_62 hlocks htab hw hT (by decide) h0 rfl rfl (k_needNodeT l hl0 n t 1 qu wh hn x c1 h0) ⟨rfl, rfl, Nat.le_of_ble_eq_true rfl, Nat.le_of_ble_eq_true rfl⟩ hl.1 (Nat.le_of_ble_eq_true rfl) dX4_offer_6 ⟨Nat.le_of_ble_eq_true rfl, Nat.le_of_ble_eq_true rfl⟩ rfl
set_option maxHeartbeats 4000000 in
set_option maxRecDepth 100000 in
theorem c_offerK (l : Launch) {D : va_G} {cI cJ cZ cD : ClassId} {ad : Nat → Nat} {w : Nat → va_E} {sz : Nat} (n t cl qu en kp : Nat) (dl ou cp ks pt : Nat → Nat) (co sh : Nat → Nat → Nat) (vs : Nat → Int64) (hok : OkS n t cl qu en kp dl ou cp ks pt co sh) (hRC : RC ad cI cJ cD w n t cl qu en kp dl ou cp ks pt co sh vs) (k f : Nat) (hk1 : 1 ≤ k) (hk2 : k ≤ n) (hf1 : 1 ≤ f) (hf2 : f ≤ n) (b1 b2 b3 : Int32) (hcl0 : cl = 1) (hkpt : tb kp k = 1)  : MW l yX4_offer (.code yX4_offer cX4_offer 6 (some .boolean)) ({ frames := 5, cells := 0, slots := 0, locals := 161 }) [.ref (ad 0), .int (nI k), .int (nI f), .int b1, .int b2, .int b3] D (tyL cI cJ cZ cD) ad 89 w sz (some (.int (nI 0))) (fun u => u = w) := by
  refine MW.of (by decide) (Nat.le_of_ble_eq_true rfl) ?_
  intro p e s m below meth c ls hC hr hlocks hl hw
  obtain ⟨hx, hb, hml, hown, hts⟩ := id hC
  have hA : ∀ q, s.heap.size ≤ q → xA ad 89 s.heap.size q := fun q h => Or.inr h
  have hl : lv_has ls 6 [(0, .ref (ad 0)), (1, .int (nI k)), (2, .int (nI f)), (3, .int b1), (4, .int b2), (5, .int b3)] := hl
  obtain ⟨⟨wh, h0, hwh⟩, ⟨df, hDa, hdf⟩, hRd, ⟨kf, pf, hKf, hPf, hky⟩, ⟨msg, bas, vf, ptf, ivf, hR, hVs, hPt, hIv, hmsg, hptv, hiv⟩, ⟨sa0, sx0, sy0, hSt⟩⟩ := id hRC
  obtain ⟨⟨hn, ht, hcl, hqu, hen, hkp⟩, hle, ⟨hqb, hkb, hcb⟩, hvals, hclv, hptl, ⟨hz1, hz2, hz3⟩⟩ := id hok
  subst hcl0
  refine lv_aload_n hx hb dX4_offer_0 rfl (lv_at hl 0 rfl) ?_
  refine x_callW0 (As := []) (rest := []) hC vf_X4_141 hw hA (by decide) h0 rfl rfl (k_needClosed l n t qu wh h0) ⟨rfl, rfl, Nat.le_of_ble_eq_true rfl, Nat.le_of_ble_eq_true rfl⟩ hl.1 (Nat.le_of_ble_eq_true rfl) dX4_offer_1 ⟨Nat.zero_le _, Nat.zero_le _⟩ rfl (fun w_1 H locs hu hw => ?_)
  rw [hu] at hw
  refine lv_aload_n hx hb dX4_offer_4 rfl (lv_at hl 0 rfl) ?_
  refine lv_iload_n hx hb dX4_offer_5 rfl (lv_at hl 1 rfl) ?_
  refine x_callW0 (As := [.int (nI k)]) (rest := []) hC vf_X4_62 hw hA (by decide) h0 rfl rfl (k_needNode l n t _ qu wh hn k hk1 hk2 h0) ⟨rfl, rfl, Nat.le_of_ble_eq_true rfl, Nat.le_of_ble_eq_true rfl⟩ hl.1 (Nat.le_of_ble_eq_true rfl) dX4_offer_6 ⟨Nat.zero_le _, Nat.zero_le _⟩ rfl (fun w_2 H locs hu hw => ?_)
  rw [hu] at hw
  refine lv_aload_n hx hb dX4_offer_9 rfl (lv_at hl 0 rfl) ?_
  refine lv_iload_n hx hb dX4_offer_10 rfl (lv_at hl 2 rfl) ?_
  refine x_callW0 (As := [.int (nI f)]) (rest := []) hC vf_X4_62 hw hA (by decide) h0 rfl rfl (k_needNode l n t _ qu wh hn f hf1 hf2 h0) ⟨rfl, rfl, Nat.le_of_ble_eq_true rfl, Nat.le_of_ble_eq_true rfl⟩ hl.1 (Nat.le_of_ble_eq_true rfl) dX4_offer_11 ⟨Nat.zero_le _, Nat.zero_le _⟩ rfl (fun w_3 H locs hu hw => ?_)
  rw [hu] at hw
  refine lv_aload_n hx hb dX4_offer_14 rfl (lv_at hl 0 rfl) ?_
  refine gf_X4_26 hx hb hts hown hw (by decide) h0 rfl dX4_offer_15 ?_
  refine lv_iload_n hx hb dX4_offer_18 rfl (lv_at hl 1 rfl) ?_
  refine x_callW1 (As := [.int (nI k)]) (rest := []) hC vf_X4_170 hw hA (by decide) hR rfl rfl (k_keepsPartOf l kp (by omega) _ _ _ k (by omega) hR) ⟨rfl, rfl, Nat.le_of_ble_eq_true rfl, Nat.le_of_ble_eq_true rfl⟩ hl.1 (Nat.le_of_ble_eq_true rfl) dX4_offer_19 ⟨Nat.zero_le _, Nat.zero_le _⟩ rfl (fun w_4 H locs hu hw => ?_)
  rw [hu] at hw
  rw [hkpt]
  refine lv_if_eq (tgt := 27) hx hb dX4_offer_22 (by decide) (fun q1 => absurd q1 (by decide)) (fun q1 => ?_)
  refine lv_iconst (v := nI 0) hx hb dX4_offer_25 (by decide) ?_
  exact x_wretZ hx hb hr hlocks (by decide) hw rfl dX4_offer_26
set_option maxHeartbeats 4000000 in
set_option maxRecDepth 100000 in
theorem c_offerR (l : Launch) {D : va_G} {cI cJ cZ cD : ClassId} {ad : Nat → Nat} {w : Nat → va_E} {sz : Nat} (n t cl qu en kp : Nat) (dl ou cp ks pt : Nat → Nat) (co sh : Nat → Nat → Nat) (vs : Nat → Int64) (hok : OkS n t cl qu en kp dl ou cp ks pt co sh) (hRC : RC ad cI cJ cD w n t cl qu en kp dl ou cp ks pt co sh vs) (k f : Nat) (hk1 : 1 ≤ k) (hk2 : k ≤ n) (hf1 : 1 ≤ f) (hf2 : f ≤ n) (b1 b2 b3 : Int32) (hcl0 : cl = 1) (hkpt : tb kp k = 0) (hno : ¬ (inr (syP ks vs en f) b1 ∧ inr (syC ks vs en f) b2 ∧ inr (syZ ks vs en f) b3))  : MW l yX4_offer (.code yX4_offer cX4_offer 6 (some .boolean)) ({ frames := 5, cells := 0, slots := 0, locals := 161 }) [.ref (ad 0), .int (nI k), .int (nI f), .int b1, .int b2, .int b3] D (tyL cI cJ cZ cD) ad 89 w sz (some (.int (nI 0))) (fun u => (∀ z, 76 < z → u z = w z) ∧ RC ad cI cJ cD u n t 1 qu en kp dl ou cp ks pt co sh vs) := by
  refine MW.of (by decide) (Nat.le_of_ble_eq_true rfl) ?_
  intro p e s m below meth c ls hC hr hlocks hl hw
  obtain ⟨hx, hb, hml, hown, hts⟩ := id hC
  have hA : ∀ q, s.heap.size ≤ q → xA ad 89 s.heap.size q := fun q h => Or.inr h
  have hl : lv_has ls 6 [(0, .ref (ad 0)), (1, .int (nI k)), (2, .int (nI f)), (3, .int b1), (4, .int b2), (5, .int b3)] := hl
  obtain ⟨⟨wh, h0, hwh⟩, ⟨df, hDa, hdf⟩, hRd, ⟨kf, pf, hKf, hPf, hky⟩, ⟨msg, bas, vf, ptf, ivf, hR, hVs, hPt, hIv, hmsg, hptv, hiv⟩, ⟨sa0, sx0, sy0, hSt⟩⟩ := id hRC
  obtain ⟨⟨hn, ht, hcl, hqu, hen, hkp⟩, hle, ⟨hqb, hkb, hcb⟩, hvals, hclv, hptl, ⟨hz1, hz2, hz3⟩⟩ := id hok
  subst hcl0
  refine lv_aload_n hx hb dX4_offer_0 rfl (lv_at hl 0 rfl) ?_
  refine x_callW0 (As := []) (rest := []) hC vf_X4_141 hw hA (by decide) h0 rfl rfl (k_needClosed l n t qu wh h0) ⟨rfl, rfl, Nat.le_of_ble_eq_true rfl, Nat.le_of_ble_eq_true rfl⟩ hl.1 (Nat.le_of_ble_eq_true rfl) dX4_offer_1 ⟨Nat.zero_le _, Nat.zero_le _⟩ rfl (fun w_1 H locs hu hw => ?_)
  rw [hu] at hw
  refine lv_aload_n hx hb dX4_offer_4 rfl (lv_at hl 0 rfl) ?_
  refine lv_iload_n hx hb dX4_offer_5 rfl (lv_at hl 1 rfl) ?_
  refine x_callW0 (As := [.int (nI k)]) (rest := []) hC vf_X4_62 hw hA (by decide) h0 rfl rfl (k_needNode l n t _ qu wh hn k hk1 hk2 h0) ⟨rfl, rfl, Nat.le_of_ble_eq_true rfl, Nat.le_of_ble_eq_true rfl⟩ hl.1 (Nat.le_of_ble_eq_true rfl) dX4_offer_6 ⟨Nat.zero_le _, Nat.zero_le _⟩ rfl (fun w_2 H locs hu hw => ?_)
  rw [hu] at hw
  refine lv_aload_n hx hb dX4_offer_9 rfl (lv_at hl 0 rfl) ?_
  refine lv_iload_n hx hb dX4_offer_10 rfl (lv_at hl 2 rfl) ?_
  refine x_callW0 (As := [.int (nI f)]) (rest := []) hC vf_X4_62 hw hA (by decide) h0 rfl rfl (k_needNode l n t _ qu wh hn f hf1 hf2 h0) ⟨rfl, rfl, Nat.le_of_ble_eq_true rfl, Nat.le_of_ble_eq_true rfl⟩ hl.1 (Nat.le_of_ble_eq_true rfl) dX4_offer_11 ⟨Nat.zero_le _, Nat.zero_le _⟩ rfl (fun w_3 H locs hu hw => ?_)
  rw [hu] at hw
  refine lv_aload_n hx hb dX4_offer_14 rfl (lv_at hl 0 rfl) ?_
  refine gf_X4_26 hx hb hts hown hw (by decide) h0 rfl dX4_offer_15 ?_
  refine lv_iload_n hx hb dX4_offer_18 rfl (lv_at hl 1 rfl) ?_
  refine x_callW1 (As := [.int (nI k)]) (rest := []) hC vf_X4_170 hw hA (by decide) hR rfl rfl (k_keepsPartOf l kp (by omega) _ _ _ k (by omega) hR) ⟨rfl, rfl, Nat.le_of_ble_eq_true rfl, Nat.le_of_ble_eq_true rfl⟩ hl.1 (Nat.le_of_ble_eq_true rfl) dX4_offer_19 ⟨Nat.zero_le _, Nat.zero_le _⟩ rfl (fun w_4 H locs hu hw => ?_)
  rw [hu] at hw
  rw [hkpt]
  refine lv_if_eq (tgt := 27) hx hb dX4_offer_22 (by decide) (fun q1 => ?_) (fun q1 => absurd (by decide) q1)
  have hky1 := hky rfl f hf1 hf2
  obtain ⟨hm1, hm2, hm3⟩ := hmsg rfl
  have hR9 := hR
  rw [hm1, hm2] at hR9
  refine lv_aload_n hx hb dX4_offer_27 rfl (lv_at hl 0 rfl) ?_
  refine lv_iload_n hx hb dX4_offer_28 rfl (lv_at hl 2 rfl) ?_
  refine x_callW0 (As := [.int (nI f)]) (rest := []) hC vf_X4_158 hw hA (by decide) h0 rfl rfl (k_stateFor l n t 1 qu wh f (by omega) kf pf (ks f) (4 ^ ks f % 2147483579) (bsF vs en) (msgF (vs en) en) _ _ sa0 sx0 sy0 hky1.1 hky1.2 ((hclv rfl).1 f (by omega)) (Nat.lt_trans (Nat.mod_lt _ (by decide)) (by decide)) (basF_lt _) h0 hKf hPf hR9 hSt) ⟨rfl, rfl, Nat.le_of_ble_eq_true rfl, Nat.le_of_ble_eq_true rfl⟩ hl.1 (Nat.le_of_ble_eq_true rfl) dX4_offer_29 ⟨Nat.zero_le _, Nat.zero_le _⟩ rfl (fun w_5 H locs huS hw => ?_)
  have hneS : ∀ z, z ≠ 76 → w_5 z = w z := fun z hz => by rw [huS]; exact va_up_ne _ _ hz
  have hStS : w_5 76 = .inr (2, [.int (nI (syP ks vs en f)), .int (nI (syC ks vs en f)), .int (nI (syZ ks vs en f))]) := by rw [huS]; exact va_up_self _ _ _
  have h0S := (hneS 0 (by decide)).trans h0
  have hRS := (hneS 72 (by decide)).trans hR9
  have hPfS := (hneS 71 (by decide)).trans hPf
  have hs1 := syP_lt ks vs en f; have hs2 := syC_lt ks vs en f; have hs3 := syZ_lt ks vs en f
  refine lv_aload_n hx hb dX4_offer_32 rfl (lv_at hl 0 rfl) ?_
  refine gf_X4_33 hx hb hts hown hw (by decide) h0S rfl dX4_offer_33 ?_
  refine lv_iload_n hx hb dX4_offer_36 rfl (lv_at hl 3 rfl) ?_
  refine lv_iload hx hb dX4_offer_37 (lv_at hl 4 rfl) ?_
  refine lv_iload hx hb dX4_offer_39 (lv_at hl 5 rfl) ?_
  refine x_callW1 (As := [.int b1, .int b2, .int b3]) (rest := []) hC vf_X4_173 hw hA (by decide) hStS rfl rfl (k_add_no l (syP ks vs en f) (syC ks vs en f) (syZ ks vs en f) (by omega) (by omega) (by omega) b1 b2 b3 hno hStS) ⟨rfl, rfl, Nat.le_of_ble_eq_true rfl, Nat.le_of_ble_eq_true rfl⟩ hl.1 (Nat.le_of_ble_eq_true rfl) dX4_offer_41 ⟨Nat.zero_le _, Nat.zero_le _⟩ rfl (fun w_6 H locs hu hw => ?_)
  rw [hu] at hw
  refine lv_if_eq (tgt := 70) hx hb dX4_offer_44 (by decide) (fun q2 => ?_) (fun q2 => absurd (by decide) q2)
  refine lv_iconst (v := nI 0) hx hb dX4_offer_70 (by decide) ?_
  exact x_wretZ hx hb hr hlocks (by decide) hw ⟨fun z hz => hneS z (by omega), RCo.of ⟨wh, h0, hwh⟩ (hneS 0 (by decide)), RCa.of ⟨df, hDa, hdf⟩ (hneS 1 (by decide)), hRd.of (fun z h1 h2 => hneS z (by omega)), RCk.of ⟨kf, pf, hKf, hPf, hky⟩ (hneS 70 (by decide)) (hneS 71 (by decide)), RCr.of ⟨msg, bas, vf, ptf, ivf, hR, hVs, hPt, hIv, hmsg, hptv, hiv⟩ (fun z _ _ => hneS z (by omega)), ⟨_, _, _, hStS⟩⟩ dX4_offer_71
set_option maxHeartbeats 4000000 in
set_option maxRecDepth 100000 in
theorem c_offerH (l : Launch) {D : va_G} {cI cJ cZ cD : ClassId} {ad : Nat → Nat} {w : Nat → va_E} {sz : Nat} (n t cl qu en kp : Nat) (dl ou cp ks pt : Nat → Nat) (co sh : Nat → Nat → Nat) (vs : Nat → Int64) (hok : OkS n t cl qu en kp dl ou cp ks pt co sh) (hRC : RC ad cI cJ cD w n t cl qu en kp dl ou cp ks pt co sh vs) (k f : Nat) (hk1 : 1 ≤ k) (hk2 : k ≤ n) (hf1 : 1 ≤ f) (hf2 : f ≤ n) (b1 b2 b3 : Int32) (hcl0 : cl = 1) (hkpt : tb kp k = 0) (a2 x2 y2 : Nat) (g1 : a2 < 2147483648) (g2 : x2 < 2147483648) (g3 : y2 < 2147483648) (e1 : (syP ks vs en f : Int) + b1.toInt = a2) (e2 : (syC ks vs en f : Int) + b2.toInt = x2) (e3 : (syZ ks vs en f : Int) + b3.toInt = y2) (hno : ¬ hldF a2 x2 y2 (4 ^ ks k % 2147483579) (bsF vs en))  : MW l yX4_offer (.code yX4_offer cX4_offer 6 (some .boolean)) ({ frames := 5, cells := 0, slots := 0, locals := 161 }) [.ref (ad 0), .int (nI k), .int (nI f), .int b1, .int b2, .int b3] D (tyL cI cJ cZ cD) ad 89 w sz (some (.int (nI 0))) (fun u => (∀ z, 76 < z → u z = w z) ∧ RC ad cI cJ cD u n t 1 qu en kp dl ou cp ks pt co sh vs) := by
  refine MW.of (by decide) (Nat.le_of_ble_eq_true rfl) ?_
  intro p e s m below meth c ls hC hr hlocks hl hw
  obtain ⟨hx, hb, hml, hown, hts⟩ := id hC
  have hA : ∀ q, s.heap.size ≤ q → xA ad 89 s.heap.size q := fun q h => Or.inr h
  have hl : lv_has ls 6 [(0, .ref (ad 0)), (1, .int (nI k)), (2, .int (nI f)), (3, .int b1), (4, .int b2), (5, .int b3)] := hl
  obtain ⟨⟨wh, h0, hwh⟩, ⟨df, hDa, hdf⟩, hRd, ⟨kf, pf, hKf, hPf, hky⟩, ⟨msg, bas, vf, ptf, ivf, hR, hVs, hPt, hIv, hmsg, hptv, hiv⟩, ⟨sa0, sx0, sy0, hSt⟩⟩ := id hRC
  obtain ⟨⟨hn, ht, hcl, hqu, hen, hkp⟩, hle, ⟨hqb, hkb, hcb⟩, hvals, hclv, hptl, ⟨hz1, hz2, hz3⟩⟩ := id hok
  subst hcl0
  refine lv_aload_n hx hb dX4_offer_0 rfl (lv_at hl 0 rfl) ?_
  refine x_callW0 (As := []) (rest := []) hC vf_X4_141 hw hA (by decide) h0 rfl rfl (k_needClosed l n t qu wh h0) ⟨rfl, rfl, Nat.le_of_ble_eq_true rfl, Nat.le_of_ble_eq_true rfl⟩ hl.1 (Nat.le_of_ble_eq_true rfl) dX4_offer_1 ⟨Nat.zero_le _, Nat.zero_le _⟩ rfl (fun w_1 H locs hu hw => ?_)
  rw [hu] at hw
  refine lv_aload_n hx hb dX4_offer_4 rfl (lv_at hl 0 rfl) ?_
  refine lv_iload_n hx hb dX4_offer_5 rfl (lv_at hl 1 rfl) ?_
  refine x_callW0 (As := [.int (nI k)]) (rest := []) hC vf_X4_62 hw hA (by decide) h0 rfl rfl (k_needNode l n t _ qu wh hn k hk1 hk2 h0) ⟨rfl, rfl, Nat.le_of_ble_eq_true rfl, Nat.le_of_ble_eq_true rfl⟩ hl.1 (Nat.le_of_ble_eq_true rfl) dX4_offer_6 ⟨Nat.zero_le _, Nat.zero_le _⟩ rfl (fun w_2 H locs hu hw => ?_)
  rw [hu] at hw
  refine lv_aload_n hx hb dX4_offer_9 rfl (lv_at hl 0 rfl) ?_
  refine lv_iload_n hx hb dX4_offer_10 rfl (lv_at hl 2 rfl) ?_
  refine x_callW0 (As := [.int (nI f)]) (rest := []) hC vf_X4_62 hw hA (by decide) h0 rfl rfl (k_needNode l n t _ qu wh hn f hf1 hf2 h0) ⟨rfl, rfl, Nat.le_of_ble_eq_true rfl, Nat.le_of_ble_eq_true rfl⟩ hl.1 (Nat.le_of_ble_eq_true rfl) dX4_offer_11 ⟨Nat.zero_le _, Nat.zero_le _⟩ rfl (fun w_3 H locs hu hw => ?_)
  rw [hu] at hw
  refine lv_aload_n hx hb dX4_offer_14 rfl (lv_at hl 0 rfl) ?_
  refine gf_X4_26 hx hb hts hown hw (by decide) h0 rfl dX4_offer_15 ?_
  refine lv_iload_n hx hb dX4_offer_18 rfl (lv_at hl 1 rfl) ?_
  refine x_callW1 (As := [.int (nI k)]) (rest := []) hC vf_X4_170 hw hA (by decide) hR rfl rfl (k_keepsPartOf l kp (by omega) _ _ _ k (by omega) hR) ⟨rfl, rfl, Nat.le_of_ble_eq_true rfl, Nat.le_of_ble_eq_true rfl⟩ hl.1 (Nat.le_of_ble_eq_true rfl) dX4_offer_19 ⟨Nat.zero_le _, Nat.zero_le _⟩ rfl (fun w_4 H locs hu hw => ?_)
  rw [hu] at hw
  rw [hkpt]
  refine lv_if_eq (tgt := 27) hx hb dX4_offer_22 (by decide) (fun q1 => ?_) (fun q1 => absurd (by decide) q1)
  have hky1 := hky rfl f hf1 hf2
  obtain ⟨hm1, hm2, hm3⟩ := hmsg rfl
  have hR9 := hR
  rw [hm1, hm2] at hR9
  refine lv_aload_n hx hb dX4_offer_27 rfl (lv_at hl 0 rfl) ?_
  refine lv_iload_n hx hb dX4_offer_28 rfl (lv_at hl 2 rfl) ?_
  refine x_callW0 (As := [.int (nI f)]) (rest := []) hC vf_X4_158 hw hA (by decide) h0 rfl rfl (k_stateFor l n t 1 qu wh f (by omega) kf pf (ks f) (4 ^ ks f % 2147483579) (bsF vs en) (msgF (vs en) en) _ _ sa0 sx0 sy0 hky1.1 hky1.2 ((hclv rfl).1 f (by omega)) (Nat.lt_trans (Nat.mod_lt _ (by decide)) (by decide)) (basF_lt _) h0 hKf hPf hR9 hSt) ⟨rfl, rfl, Nat.le_of_ble_eq_true rfl, Nat.le_of_ble_eq_true rfl⟩ hl.1 (Nat.le_of_ble_eq_true rfl) dX4_offer_29 ⟨Nat.zero_le _, Nat.zero_le _⟩ rfl (fun w_5 H locs huS hw => ?_)
  have hneS : ∀ z, z ≠ 76 → w_5 z = w z := fun z hz => by rw [huS]; exact va_up_ne _ _ hz
  have hStS : w_5 76 = .inr (2, [.int (nI (syP ks vs en f)), .int (nI (syC ks vs en f)), .int (nI (syZ ks vs en f))]) := by rw [huS]; exact va_up_self _ _ _
  have h0S := (hneS 0 (by decide)).trans h0
  have hRS := (hneS 72 (by decide)).trans hR9
  have hPfS := (hneS 71 (by decide)).trans hPf
  have hs1 := syP_lt ks vs en f; have hs2 := syC_lt ks vs en f; have hs3 := syZ_lt ks vs en f
  refine lv_aload_n hx hb dX4_offer_32 rfl (lv_at hl 0 rfl) ?_
  refine gf_X4_33 hx hb hts hown hw (by decide) h0S rfl dX4_offer_33 ?_
  refine lv_iload_n hx hb dX4_offer_36 rfl (lv_at hl 3 rfl) ?_
  refine lv_iload hx hb dX4_offer_37 (lv_at hl 4 rfl) ?_
  refine lv_iload hx hb dX4_offer_39 (lv_at hl 5 rfl) ?_
  refine x_callW1 (As := [.int b1, .int b2, .int b3]) (rest := []) hC vf_X4_173 hw hA (by decide) hStS rfl rfl (k_add_yes l (syP ks vs en f) (syC ks vs en f) (syZ ks vs en f) (by omega) (by omega) (by omega) b1 b2 b3 a2 x2 y2 g1 g2 g3 e1 e2 e3 hStS) ⟨rfl, rfl, Nat.le_of_ble_eq_true rfl, Nat.le_of_ble_eq_true rfl⟩ hl.1 (Nat.le_of_ble_eq_true rfl) dX4_offer_41 ⟨Nat.zero_le _, Nat.zero_le _⟩ rfl (fun w_6 H locs huA hw => ?_)
  have hneA : ∀ z, z ≠ 76 → w_6 z = w z := fun z hz => by rw [huA, va_up_ne _ _ hz]; exact hneS z hz
  have hStA : w_6 76 = .inr (2, [.int (nI a2), .int (nI x2), .int (nI y2)]) := by rw [huA]; exact va_up_self _ _ _
  have h0A := (hneA 0 (by decide)).trans h0
  have hRA := (hneA 72 (by decide)).trans hR9
  have hPfA := (hneA 71 (by decide)).trans hPf
  have hPtA := (hneA 74 (by decide)).trans hPt
  refine lv_if_eq (tgt := 70) hx hb dX4_offer_44 (by decide) (fun q2 => absurd q2 (by decide)) (fun q2 => ?_)
  refine lv_aload_n hx hb dX4_offer_47 rfl (lv_at hl 0 rfl) ?_
  refine gf_X4_33 hx hb hts hown hw (by decide) h0A rfl dX4_offer_48 ?_
  refine lv_aload_n hx hb dX4_offer_51 rfl (lv_at hl 0 rfl) ?_
  refine gf_X4_20 hx hb hts hown hw (by decide) h0A rfl dX4_offer_52 ?_
  refine lv_iload_n hx hb dX4_offer_55 rfl (lv_at hl 1 rfl) ?_
  refine x_iald hx hb hw (by decide) 0 hPfA rfl (j := k) (by omega) (by decide) (hky rfl k hk1 hk2).2 dX4_offer_56 ?_
  refine lv_aload_n hx hb dX4_offer_57 rfl (lv_at hl 0 rfl) ?_
  refine gf_X4_26 hx hb hts hown hw (by decide) h0A rfl dX4_offer_58 ?_
  refine gf_X4_150 hx hb hts hown hw (by decide) hRA rfl dX4_offer_61 ?_
  have hpl : 4 ^ ks k % 2147483579 < 2147483579 := Nat.mod_lt _ (by decide)
  by_cases c1 : 1 ≤ a2 ∧ a2 < 2147483579 ∧ a2 ^ 1073741789 % 2147483579 = 1 ∧ x2 < 1073741789 ∧ y2 < 1073741789
  · skip
    obtain ⟨f1, f2, f3, f4, f5⟩ := c1
    refine x_callW1 (As := [.int (nI (4 ^ ks k % 2147483579)), .int (nI (bsF vs en))]) (rest := []) hC vf_X4_177 hw hA (by decide) hStA rfl rfl (k_holds l a2 x2 y2 g1 g2 g3 (4 ^ ks k % 2147483579) (bsF vs en) hpl (basF_lt _) f1 f2 f3 f4 f5 hStA) ⟨rfl, rfl, Nat.le_of_ble_eq_true rfl, Nat.le_of_ble_eq_true rfl⟩ hl.1 (Nat.le_of_ble_eq_true rfl) dX4_offer_64 ⟨Nat.zero_le _, Nat.zero_le _⟩ rfl (fun w_7 H locs hu hw => ?_)
    rw [hu] at hw
    rw [if_neg (fun q => hno ⟨f1, f2, f3, f4, f5, q⟩)]
    refine lv_if_ne (tgt := 72) hx hb dX4_offer_67 (by decide) (fun q3 => absurd (by decide) q3) (fun q3 => ?_)
    refine lv_iconst (v := nI 0) hx hb dX4_offer_70 (by decide) ?_
    exact x_wretZ hx hb hr hlocks (by decide) hw ⟨fun z hz => hneA z (by omega), RCo.of ⟨wh, h0, hwh⟩ (hneA 0 (by decide)), RCa.of ⟨df, hDa, hdf⟩ (hneA 1 (by decide)), hRd.of (fun z h1 h2 => hneA z (by omega)), RCk.of ⟨kf, pf, hKf, hPf, hky⟩ (hneA 70 (by decide)) (hneA 71 (by decide)), RCr.of ⟨msg, bas, vf, ptf, ivf, hR, hVs, hPt, hIv, hmsg, hptv, hiv⟩ (fun z _ _ => hneA z (by omega)), ⟨_, _, _, hStA⟩⟩ dX4_offer_71
  · skip
    refine x_callW1 (As := [.int (nI (4 ^ ks k % 2147483579)), .int (nI (bsF vs en))]) (rest := []) hC vf_X4_177 hw hA (by decide) hStA rfl rfl (k_holds_no l a2 x2 y2 g1 g2 g3 (4 ^ ks k % 2147483579) (bsF vs en) hpl (basF_lt _) c1 hStA) ⟨rfl, rfl, Nat.le_of_ble_eq_true rfl, Nat.le_of_ble_eq_true rfl⟩ hl.1 (Nat.le_of_ble_eq_true rfl) dX4_offer_64 ⟨Nat.zero_le _, Nat.zero_le _⟩ rfl (fun w_8 H locs hu hw => ?_)
    rw [hu] at hw
    refine lv_if_ne (tgt := 72) hx hb dX4_offer_67 (by decide) (fun q3 => absurd (by decide) q3) (fun q3 => ?_)
    refine lv_iconst (v := nI 0) hx hb dX4_offer_70 (by decide) ?_
    exact x_wretZ hx hb hr hlocks (by decide) hw ⟨fun z hz => hneA z (by omega), RCo.of ⟨wh, h0, hwh⟩ (hneA 0 (by decide)), RCa.of ⟨df, hDa, hdf⟩ (hneA 1 (by decide)), hRd.of (fun z h1 h2 => hneA z (by omega)), RCk.of ⟨kf, pf, hKf, hPf, hky⟩ (hneA 70 (by decide)) (hneA 71 (by decide)), RCr.of ⟨msg, bas, vf, ptf, ivf, hR, hVs, hPt, hIv, hmsg, hptv, hiv⟩ (fun z _ _ => hneA z (by omega)), ⟨_, _, _, hStA⟩⟩ dX4_offer_71
set_option maxHeartbeats 4000000 in
set_option maxRecDepth 100000 in
theorem c_offerY (l : Launch) {D : va_G} {cI cJ cZ cD : ClassId} {ad : Nat → Nat} {w : Nat → va_E} {sz : Nat} (n t cl qu en kp : Nat) (dl ou cp ks pt : Nat → Nat) (co sh : Nat → Nat → Nat) (vs : Nat → Int64) (hok : OkS n t cl qu en kp dl ou cp ks pt co sh) (hRC : RC ad cI cJ cD w n t cl qu en kp dl ou cp ks pt co sh vs) (k f : Nat) (hk1 : 1 ≤ k) (hk2 : k ≤ n) (hf1 : 1 ≤ f) (hf2 : f ≤ n) (b1 b2 b3 : Int32) (hcl0 : cl = 1) (hkpt : tb kp k = 0) (a2 x2 y2 : Nat) (g1 : a2 < 2147483648) (g2 : x2 < 2147483648) (g3 : y2 < 2147483648) (e1 : (syP ks vs en f : Int) + b1.toInt = a2) (e2 : (syC ks vs en f : Int) + b2.toInt = x2) (e3 : (syZ ks vs en f : Int) + b3.toInt = y2) (hyes : hldF a2 x2 y2 (4 ^ ks k % 2147483579) (bsF vs en))  : MW l yX4_offer (.code yX4_offer cX4_offer 6 (some .boolean)) ({ frames := 5, cells := 0, slots := 0, locals := 161 }) [.ref (ad 0), .int (nI k), .int (nI f), .int b1, .int b2, .int b3] D (tyL cI cJ cZ cD) ad 89 w sz (some (.int (nI 1))) (fun u => (∀ z, 76 < z → u z = w z) ∧ RC ad cI cJ cD u n t 1 qu en (kp ||| 2 ^ k) dl ou cp ks (va_up pt k a2) co sh vs) := by
  refine MW.of (by decide) (Nat.le_of_ble_eq_true rfl) ?_
  intro p e s m below meth c ls hC hr hlocks hl hw
  obtain ⟨hx, hb, hml, hown, hts⟩ := id hC
  have hA : ∀ q, s.heap.size ≤ q → xA ad 89 s.heap.size q := fun q h => Or.inr h
  have hl : lv_has ls 6 [(0, .ref (ad 0)), (1, .int (nI k)), (2, .int (nI f)), (3, .int b1), (4, .int b2), (5, .int b3)] := hl
  obtain ⟨⟨wh, h0, hwh⟩, ⟨df, hDa, hdf⟩, hRd, ⟨kf, pf, hKf, hPf, hky⟩, ⟨msg, bas, vf, ptf, ivf, hR, hVs, hPt, hIv, hmsg, hptv, hiv⟩, ⟨sa0, sx0, sy0, hSt⟩⟩ := id hRC
  obtain ⟨⟨hn, ht, hcl, hqu, hen, hkp⟩, hle, ⟨hqb, hkb, hcb⟩, hvals, hclv, hptl, ⟨hz1, hz2, hz3⟩⟩ := id hok
  subst hcl0
  refine lv_aload_n hx hb dX4_offer_0 rfl (lv_at hl 0 rfl) ?_
  refine x_callW0 (As := []) (rest := []) hC vf_X4_141 hw hA (by decide) h0 rfl rfl (k_needClosed l n t qu wh h0) ⟨rfl, rfl, Nat.le_of_ble_eq_true rfl, Nat.le_of_ble_eq_true rfl⟩ hl.1 (Nat.le_of_ble_eq_true rfl) dX4_offer_1 ⟨Nat.zero_le _, Nat.zero_le _⟩ rfl (fun w_1 H locs hu hw => ?_)
  rw [hu] at hw
  refine lv_aload_n hx hb dX4_offer_4 rfl (lv_at hl 0 rfl) ?_
  refine lv_iload_n hx hb dX4_offer_5 rfl (lv_at hl 1 rfl) ?_
  refine x_callW0 (As := [.int (nI k)]) (rest := []) hC vf_X4_62 hw hA (by decide) h0 rfl rfl (k_needNode l n t _ qu wh hn k hk1 hk2 h0) ⟨rfl, rfl, Nat.le_of_ble_eq_true rfl, Nat.le_of_ble_eq_true rfl⟩ hl.1 (Nat.le_of_ble_eq_true rfl) dX4_offer_6 ⟨Nat.zero_le _, Nat.zero_le _⟩ rfl (fun w_2 H locs hu hw => ?_)
  rw [hu] at hw
  refine lv_aload_n hx hb dX4_offer_9 rfl (lv_at hl 0 rfl) ?_
  refine lv_iload_n hx hb dX4_offer_10 rfl (lv_at hl 2 rfl) ?_
  refine x_callW0 (As := [.int (nI f)]) (rest := []) hC vf_X4_62 hw hA (by decide) h0 rfl rfl (k_needNode l n t _ qu wh hn f hf1 hf2 h0) ⟨rfl, rfl, Nat.le_of_ble_eq_true rfl, Nat.le_of_ble_eq_true rfl⟩ hl.1 (Nat.le_of_ble_eq_true rfl) dX4_offer_11 ⟨Nat.zero_le _, Nat.zero_le _⟩ rfl (fun w_3 H locs hu hw => ?_)
  rw [hu] at hw
  refine lv_aload_n hx hb dX4_offer_14 rfl (lv_at hl 0 rfl) ?_
  refine gf_X4_26 hx hb hts hown hw (by decide) h0 rfl dX4_offer_15 ?_
  refine lv_iload_n hx hb dX4_offer_18 rfl (lv_at hl 1 rfl) ?_
  refine x_callW1 (As := [.int (nI k)]) (rest := []) hC vf_X4_170 hw hA (by decide) hR rfl rfl (k_keepsPartOf l kp (by omega) _ _ _ k (by omega) hR) ⟨rfl, rfl, Nat.le_of_ble_eq_true rfl, Nat.le_of_ble_eq_true rfl⟩ hl.1 (Nat.le_of_ble_eq_true rfl) dX4_offer_19 ⟨Nat.zero_le _, Nat.zero_le _⟩ rfl (fun w_4 H locs hu hw => ?_)
  rw [hu] at hw
  rw [hkpt]
  refine lv_if_eq (tgt := 27) hx hb dX4_offer_22 (by decide) (fun q1 => ?_) (fun q1 => absurd (by decide) q1)
  have hky1 := hky rfl f hf1 hf2
  obtain ⟨hm1, hm2, hm3⟩ := hmsg rfl
  have hR9 := hR
  rw [hm1, hm2] at hR9
  refine lv_aload_n hx hb dX4_offer_27 rfl (lv_at hl 0 rfl) ?_
  refine lv_iload_n hx hb dX4_offer_28 rfl (lv_at hl 2 rfl) ?_
  refine x_callW0 (As := [.int (nI f)]) (rest := []) hC vf_X4_158 hw hA (by decide) h0 rfl rfl (k_stateFor l n t 1 qu wh f (by omega) kf pf (ks f) (4 ^ ks f % 2147483579) (bsF vs en) (msgF (vs en) en) _ _ sa0 sx0 sy0 hky1.1 hky1.2 ((hclv rfl).1 f (by omega)) (Nat.lt_trans (Nat.mod_lt _ (by decide)) (by decide)) (basF_lt _) h0 hKf hPf hR9 hSt) ⟨rfl, rfl, Nat.le_of_ble_eq_true rfl, Nat.le_of_ble_eq_true rfl⟩ hl.1 (Nat.le_of_ble_eq_true rfl) dX4_offer_29 ⟨Nat.zero_le _, Nat.zero_le _⟩ rfl (fun w_5 H locs huS hw => ?_)
  have hneS : ∀ z, z ≠ 76 → w_5 z = w z := fun z hz => by rw [huS]; exact va_up_ne _ _ hz
  have hStS : w_5 76 = .inr (2, [.int (nI (syP ks vs en f)), .int (nI (syC ks vs en f)), .int (nI (syZ ks vs en f))]) := by rw [huS]; exact va_up_self _ _ _
  have h0S := (hneS 0 (by decide)).trans h0
  have hRS := (hneS 72 (by decide)).trans hR9
  have hPfS := (hneS 71 (by decide)).trans hPf
  have hs1 := syP_lt ks vs en f; have hs2 := syC_lt ks vs en f; have hs3 := syZ_lt ks vs en f
  refine lv_aload_n hx hb dX4_offer_32 rfl (lv_at hl 0 rfl) ?_
  refine gf_X4_33 hx hb hts hown hw (by decide) h0S rfl dX4_offer_33 ?_
  refine lv_iload_n hx hb dX4_offer_36 rfl (lv_at hl 3 rfl) ?_
  refine lv_iload hx hb dX4_offer_37 (lv_at hl 4 rfl) ?_
  refine lv_iload hx hb dX4_offer_39 (lv_at hl 5 rfl) ?_
  refine x_callW1 (As := [.int b1, .int b2, .int b3]) (rest := []) hC vf_X4_173 hw hA (by decide) hStS rfl rfl (k_add_yes l (syP ks vs en f) (syC ks vs en f) (syZ ks vs en f) (by omega) (by omega) (by omega) b1 b2 b3 a2 x2 y2 g1 g2 g3 e1 e2 e3 hStS) ⟨rfl, rfl, Nat.le_of_ble_eq_true rfl, Nat.le_of_ble_eq_true rfl⟩ hl.1 (Nat.le_of_ble_eq_true rfl) dX4_offer_41 ⟨Nat.zero_le _, Nat.zero_le _⟩ rfl (fun w_6 H locs huA hw => ?_)
  have hneA : ∀ z, z ≠ 76 → w_6 z = w z := fun z hz => by rw [huA, va_up_ne _ _ hz]; exact hneS z hz
  have hStA : w_6 76 = .inr (2, [.int (nI a2), .int (nI x2), .int (nI y2)]) := by rw [huA]; exact va_up_self _ _ _
  have h0A := (hneA 0 (by decide)).trans h0
  have hRA := (hneA 72 (by decide)).trans hR9
  have hPfA := (hneA 71 (by decide)).trans hPf
  have hPtA := (hneA 74 (by decide)).trans hPt
  refine lv_if_eq (tgt := 70) hx hb dX4_offer_44 (by decide) (fun q2 => absurd q2 (by decide)) (fun q2 => ?_)
  refine lv_aload_n hx hb dX4_offer_47 rfl (lv_at hl 0 rfl) ?_
  refine gf_X4_33 hx hb hts hown hw (by decide) h0A rfl dX4_offer_48 ?_
  refine lv_aload_n hx hb dX4_offer_51 rfl (lv_at hl 0 rfl) ?_
  refine gf_X4_20 hx hb hts hown hw (by decide) h0A rfl dX4_offer_52 ?_
  refine lv_iload_n hx hb dX4_offer_55 rfl (lv_at hl 1 rfl) ?_
  refine x_iald hx hb hw (by decide) 0 hPfA rfl (j := k) (by omega) (by decide) (hky rfl k hk1 hk2).2 dX4_offer_56 ?_
  refine lv_aload_n hx hb dX4_offer_57 rfl (lv_at hl 0 rfl) ?_
  refine gf_X4_26 hx hb hts hown hw (by decide) h0A rfl dX4_offer_58 ?_
  refine gf_X4_150 hx hb hts hown hw (by decide) hRA rfl dX4_offer_61 ?_
  have hpl : 4 ^ ks k % 2147483579 < 2147483579 := Nat.mod_lt _ (by decide)
  obtain ⟨f1, f2, f3, f4, f5, f6⟩ := hyes
  refine x_callW1 (As := [.int (nI (4 ^ ks k % 2147483579)), .int (nI (bsF vs en))]) (rest := []) hC vf_X4_177 hw hA (by decide) hStA rfl rfl (k_holds l a2 x2 y2 g1 g2 g3 (4 ^ ks k % 2147483579) (bsF vs en) hpl (basF_lt _) f1 f2 f3 f4 f5 hStA) ⟨rfl, rfl, Nat.le_of_ble_eq_true rfl, Nat.le_of_ble_eq_true rfl⟩ hl.1 (Nat.le_of_ble_eq_true rfl) dX4_offer_64 ⟨Nat.zero_le _, Nat.zero_le _⟩ rfl (fun w_7 H locs hu hw => ?_)
  rw [hu] at hw
  rw [if_pos f6]
  refine lv_if_ne (tgt := 72) hx hb dX4_offer_67 (by decide) (fun q3 => ?_) (fun q3 => absurd q3 (by decide))
  refine lv_aload_n hx hb dX4_offer_72 rfl (lv_at hl 0 rfl) ?_
  refine gf_X4_26 hx hb hts hown hw (by decide) h0A rfl dX4_offer_73 ?_
  refine lv_iload_n hx hb dX4_offer_76 rfl (lv_at hl 1 rfl) ?_
  refine lv_aload_n hx hb dX4_offer_77 rfl (lv_at hl 0 rfl) ?_
  refine gf_X4_33 hx hb hts hown hw (by decide) h0A rfl dX4_offer_78 ?_
  refine gf_X4_161 hx hb hts hown hw (by decide) hStA rfl dX4_offer_81 ?_
  refine x_callW0 (As := [.int (nI k), .int (nI a2)]) (rest := []) hC vf_X4_180 hw hA (by decide) hRA rfl rfl (k_keep l kp _ _ _ ptf k (by omega) (nI a2) hRA hPtA) ⟨rfl, rfl, Nat.le_of_ble_eq_true rfl, Nat.le_of_ble_eq_true rfl⟩ hl.1 (Nat.le_of_ble_eq_true rfl) dX4_offer_84 ⟨Nat.zero_le _, Nat.zero_le _⟩ rfl (fun w_8 H locs huK hw => ?_)
  have hneK : ∀ z, z ≠ 76 → z ≠ 72 → z ≠ 74 → w_8 z = w z := fun z h1 h2 h3 => by rw [huK, va_up_ne _ _ h2, va_up_ne _ _ h3]; exact hneA z h1
  refine lv_iconst (v := nI 1) hx hb dX4_offer_87 (by decide) ?_
  refine x_wretZ hx hb hr hlocks (by decide) hw ⟨fun z hz => hneK z (by omega) (by omega) (by omega), RCo.of ⟨wh, h0, hwh⟩ (hneK 0 (by decide) (by decide) (by decide)), RCa.of ⟨df, hDa, hdf⟩ (hneK 1 (by decide) (by decide) (by decide)), hRd.of (fun z h1 h2 => hneK z (by omega) (by omega) (by omega)), RCk.of ⟨kf, pf, hKf, hPf, hky⟩ (hneK 70 (by decide) (by decide) (by decide)) (hneK 71 (by decide) (by decide) (by decide)), ⟨_, _, vf, upd ptf k (nI a2), ivf, by rw [huK]; exact va_up_self _ _ _, (by rw [huK, va_up_ne _ _ (by decide), va_up_ne _ _ (by decide)]; exact (hneA 73 (by decide)).trans hVs), (by rw [huK, va_up_ne _ _ (by decide)]; exact va_up_self _ _ _), (by rw [huK, va_up_ne _ _ (by decide), va_up_ne _ _ (by decide)]; exact (hneA 75 (by decide)).trans hIv), fun _ => ⟨rfl, rfl, hm3⟩, fun k9 hk9 => ?_, hiv⟩, ⟨_, _, _, (by rw [huK, va_up_ne _ _ (by decide), va_up_ne _ _ (by decide)]; exact hStA)⟩⟩ dX4_offer_88
  by_cases hkk : k9 = k
  · subst hkk; rw [upd_s, va_up_self]
  · rw [tb_or, if_neg hkk] at hk9; rw [upd_n _ _ hkk, va_up_ne _ _ hkk]; exact hptv k9 hk9
set_option maxHeartbeats 4000000 in
set_option maxRecDepth 100000 in
theorem c_value (l : Launch) {D : va_G} {cI cJ cZ cD : ClassId} {ad : Nat → Nat} {w : Nat → va_E} {sz : Nat} (n t cl qu en kp : Nat) (dl ou cp ks pt : Nat → Nat) (co sh : Nat → Nat → Nat) (vs : Nat → Int64) (hok : OkS n t cl qu en kp dl ou cp ks pt co sh) (hRC : RC ad cI cJ cD w n t cl qu en kp dl ou cp ks pt co sh vs) (b : Nat) (hb0 : b < 2 ^ 17) (hsub : ∀ k, tb b k = 1 → tb kp k = 1) (hv : vOk t kp (nI b)) (hcl0 : cl = 1)  : MW l yX4_value (.code yX4_value cX4_value 2 (some .int)) ({ frames := 4, cells := 0, slots := 0, locals := 126 }) [.ref (ad 0), .int (nI b)] D (tyL cI cJ cZ cD) ad 89 w sz (some (.int (nI (cmb b pt 16)))) (fun u => u = w) := by
  refine MW.of (by decide) (Nat.le_of_ble_eq_true rfl) ?_
  intro p e s m below meth c ls hC hr hlocks hl hw
  obtain ⟨hx, hb, hml, hown, hts⟩ := id hC
  have hA : ∀ q, s.heap.size ≤ q → xA ad 89 s.heap.size q := fun q h => Or.inr h
  have hl : lv_has ls 2 [(0, .ref (ad 0)), (1, .int (nI b))] := hl
  obtain ⟨⟨wh, h0, hwh⟩, ⟨df, hDa, hdf⟩, hRd, ⟨kf, pf, hKf, hPf, hky⟩, ⟨msg, bas, vf, ptf, ivf, hR, hVs, hPt, hIv, hmsg, hptv, hiv⟩, ⟨sa0, sx0, sy0, hSt⟩⟩ := id hRC
  obtain ⟨⟨hn, ht, hcl, hqu, hen, hkp⟩, hle, ⟨hqb, hkb, hcb⟩, hvals, hclv, hptl, ⟨hz1, hz2, hz3⟩⟩ := id hok
  subst hcl0
  refine lv_aload_n hx hb dX4_value_0 rfl (lv_at hl 0 rfl) ?_
  refine x_callW0 (As := []) (rest := []) hC vf_X4_141 hw hA (by decide) h0 rfl rfl (k_needClosed l n t qu wh h0) ⟨rfl, rfl, Nat.le_of_ble_eq_true rfl, Nat.le_of_ble_eq_true rfl⟩ hl.1 (Nat.le_of_ble_eq_true rfl) dX4_value_1 ⟨Nat.zero_le _, Nat.zero_le _⟩ rfl (fun w_1 H locs hu hw => ?_)
  rw [hu] at hw
  refine lv_iload_n hx hb dX4_value_4 rfl (lv_at hl 1 rfl) ?_
  refine x_callS (As := [.int (nI b)]) (rest := []) hC sf_X4_131 (k_bitCount l (nI b)) ⟨rfl, rfl, Nat.le_of_ble_eq_true rfl, Nat.le_of_ble_eq_true rfl⟩ hl.1 (Nat.le_of_ble_eq_true rfl) dX4_value_5 ⟨Nat.zero_le _, Nat.zero_le _⟩ rfl ?_
  refine lv_aload_n hx hb dX4_value_8 rfl (lv_at hl 0 rfl) ?_
  refine gf_X4_48 hx hb hts hown hw (by decide) h0 rfl dX4_value_9 ?_
  refine lv_icmp_ne (tgt := 29) hx hb dX4_value_12 (by decide) (fun q1 => absurd hv.1 q1) (fun q1 => ?_)
  refine lv_iload_n hx hb dX4_value_15 rfl (lv_at hl 1 rfl) ?_
  refine lv_aload_n hx hb dX4_value_16 rfl (lv_at hl 0 rfl) ?_
  refine gf_X4_26 hx hb hts hown hw (by decide) h0 rfl dX4_value_17 ?_
  refine gf_X4_153 hx hb hts hown hw (by decide) hR rfl dX4_value_20 ?_
  refine lv_iconst (v := (-1)) hx hb dX4_value_23 (by decide) ?_
  refine lv_ixor hx hb dX4_value_24 ?_
  refine lv_iand hx hb dX4_value_25 ?_
  refine lv_if_eq (tgt := 39) hx hb dX4_value_26 (by decide) (fun q2 => ?_) (fun q2 => absurd hv.2 q2)
  refine lv_aload_n hx hb dX4_value_39 rfl (lv_at hl 0 rfl) ?_
  refine gf_X4_26 hx hb hts hown hw (by decide) h0 rfl dX4_value_40 ?_
  refine lv_iload_n hx hb dX4_value_43 rfl (lv_at hl 1 rfl) ?_
  refine x_callW1 (As := [.int (nI b)]) (rest := []) hC vf_X4_185 hw hA (by decide) hR rfl rfl (k_combine l _ _ _ _ ivf hiv ptf pt b (by omega) (fun k h1 h2 h3 => ⟨hptv k (hsub k h3), hptl k (hsub k h3)⟩) hR hPt hIv) ⟨rfl, rfl, Nat.le_of_ble_eq_true rfl, Nat.le_of_ble_eq_true rfl⟩ hl.1 (Nat.le_of_ble_eq_true rfl) dX4_value_44 ⟨Nat.zero_le _, Nat.zero_le _⟩ rfl (fun w_2 H locs hu hw => ?_)
  rw [hu] at hw
  exact x_wretI hx hb hr hlocks hw rfl dX4_value_47
set_option maxHeartbeats 4000000 in
set_option maxRecDepth 100000 in
theorem c_valueS (l : Launch) (hl0 : l.stackTraces = false) {D : va_G} {cI cJ cZ cD : ClassId} {ad : Nat → Nat} {sa : Nat → Nat} {w : Nat → va_E} {sz : Nat} (n t cl qu en kp : Nat) (dl ou cp ks pt : Nat → Nat) (co sh : Nat → Nat → Nat) (vs : Nat → Int64) (hok : OkS n t cl qu en kp dl ou cp ks pt co sh) (hRC : RC ad cI cJ cD w n t cl qu en kp dl ou cp ks pt co sh vs) (x : Int32) (hcl0 : cl = 0)  : MT l yX4_value (.code yX4_value cX4_value 2 (some .int)) ({ frames := 7, cells := 1, slots := 6, locals := 110 }) [.ref (ad 0), .int x] D (tyL cI cJ cZ cD) ad 89 w sz sa "java/lang/IllegalStateException" := by
  refine MT.of (by decide) (Nat.le_of_ble_eq_true rfl) ?_
  intro p e s m below meth c ls hC hlocks htab hl hw hT
  obtain ⟨hx, hb, hml, hown, hts⟩ := id hC
  have hA : ∀ q, s.heap.size ≤ q → xA ad 89 s.heap.size q := fun q h => Or.inr h
  have hl : lv_has ls 2 [(0, .ref (ad 0)), (1, .int x)] := hl
  obtain ⟨⟨wh, h0, hwh⟩, ⟨df, hDa, hdf⟩, hRd, ⟨kf, pf, hKf, hPf, hky⟩, ⟨msg, bas, vf, ptf, ivf, hR, hVs, hPt, hIv, hmsg, hptv, hiv⟩, ⟨sa0, sx0, sy0, hSt⟩⟩ := id hRC
  obtain ⟨⟨hn, ht, hcl, hqu, hen, hkp⟩, hle, ⟨hqb, hkb, hcb⟩, hvals, hclv, hptl, ⟨hz1, hz2, hz3⟩⟩ := id hok
  subst hcl0
  refine lv_aload_n hx hb dX4_value_0 rfl (lv_at hl 0 rfl) ?_
  exact x_prop (As := []) (rest := []) hC vf_X4_141 hlocks htab hw hT (by decide) h0 rfl rfl (k_needClosedT l hl0 n t qu wh h0) ⟨rfl, rfl, Nat.le_of_ble_eq_true rfl, Nat.le_of_ble_eq_true rfl⟩ hl.1 (Nat.le_of_ble_eq_true rfl) dX4_value_1 ⟨Nat.le_of_ble_eq_true rfl, Nat.le_of_ble_eq_true rfl⟩ rfl
set_option maxHeartbeats 4000000 in
set_option maxRecDepth 100000 in
theorem c_valueA (l : Launch) (hl0 : l.stackTraces = false) {D : va_G} {cI cJ cZ cD : ClassId} {ad : Nat → Nat} {sa : Nat → Nat} {w : Nat → va_E} {sz : Nat} (n t cl qu en kp : Nat) (dl ou cp ks pt : Nat → Nat) (co sh : Nat → Nat → Nat) (vs : Nat → Int64) (hok : OkS n t cl qu en kp dl ou cp ks pt co sh) (hRC : RC ad cI cJ cD w n t cl qu en kp dl ou cp ks pt co sh vs) (x : Int32) (hcl0 : cl = 1) (hbad : ¬ vOk t kp x)  : MT l yX4_value (.code yX4_value cX4_value 2 (some .int)) ({ frames := 6, cells := 1, slots := 6, locals := 82 }) [.ref (ad 0), .int x] D (tyL cI cJ cZ cD) ad 89 w sz sa "java/lang/IllegalArgumentException" := by
  refine MT.of (by decide) (Nat.le_of_ble_eq_true rfl) ?_
  intro p e s m below meth c ls hC hlocks htab hl hw hT
  obtain ⟨hx, hb, hml, hown, hts⟩ := id hC
  have hA : ∀ q, s.heap.size ≤ q → xA ad 89 s.heap.size q := fun q h => Or.inr h
  have hl : lv_has ls 2 [(0, .ref (ad 0)), (1, .int x)] := hl
  obtain ⟨⟨wh, h0, hwh⟩, ⟨df, hDa, hdf⟩, hRd, ⟨kf, pf, hKf, hPf, hky⟩, ⟨msg, bas, vf, ptf, ivf, hR, hVs, hPt, hIv, hmsg, hptv, hiv⟩, ⟨sa0, sx0, sy0, hSt⟩⟩ := id hRC
  obtain ⟨⟨hn, ht, hcl, hqu, hen, hkp⟩, hle, ⟨hqb, hkb, hcb⟩, hvals, hclv, hptl, ⟨hz1, hz2, hz3⟩⟩ := id hok
  subst hcl0
  refine lv_aload_n hx hb dX4_value_0 rfl (lv_at hl 0 rfl) ?_
  refine x_callW0 (As := []) (rest := []) hC vf_X4_141 hw hA (by decide) h0 rfl rfl (k_needClosed l n t qu wh h0) ⟨rfl, rfl, Nat.le_of_ble_eq_true rfl, Nat.le_of_ble_eq_true rfl⟩ hl.1 (Nat.le_of_ble_eq_true rfl) dX4_value_1 ⟨Nat.zero_le _, Nat.zero_le _⟩ rfl (fun w_1 H locs hu hw => ?_)
  rw [hu] at hw
  refine lv_iload_n hx hb dX4_value_4 rfl (lv_at hl 1 rfl) ?_
  refine x_callS (As := [.int x]) (rest := []) hC sf_X4_131 (k_bitCount l x) ⟨rfl, rfl, Nat.le_of_ble_eq_true rfl, Nat.le_of_ble_eq_true rfl⟩ hl.1 (Nat.le_of_ble_eq_true rfl) dX4_value_5 ⟨Nat.zero_le _, Nat.zero_le _⟩ rfl ?_
  refine lv_aload_n hx hb dX4_value_8 rfl (lv_at hl 0 rfl) ?_
  refine gf_X4_48 hx hb hts hown hw (by decide) h0 rfl dX4_value_9 ?_
  refine lv_icmp_ne (tgt := 29) hx hb dX4_value_12 (by decide) (fun q1 => ?_) (fun q1 => ?_)
  · skip
    exact x_throwIAE (is := 183) (text := "they are not t nodes whose parts are kept") hl0 hC hlocks htab hw hT (by decide +kernel) hl.1 dX4_value_29 dX4_value_32 dX4_value_33 dX4_value_35 dX4_value_38 (Nat.le_of_ble_eq_true rfl) (Nat.le_of_ble_eq_true rfl) ⟨Nat.le_of_ble_eq_true rfl, Nat.le_of_ble_eq_true rfl⟩
  · skip
    refine lv_iload_n hx hb dX4_value_15 rfl (lv_at hl 1 rfl) ?_
    refine lv_aload_n hx hb dX4_value_16 rfl (lv_at hl 0 rfl) ?_
    refine gf_X4_26 hx hb hts hown hw (by decide) h0 rfl dX4_value_17 ?_
    refine gf_X4_153 hx hb hts hown hw (by decide) hR rfl dX4_value_20 ?_
    refine lv_iconst (v := (-1)) hx hb dX4_value_23 (by decide) ?_
    refine lv_ixor hx hb dX4_value_24 ?_
    refine lv_iand hx hb dX4_value_25 ?_
    refine lv_if_eq (tgt := 39) hx hb dX4_value_26 (by decide) (fun q2 => absurd q2 (fun q => hbad ⟨q1, q⟩)) (fun q2 => ?_)
    exact x_throwIAE (is := 183) (text := "they are not t nodes whose parts are kept") hl0 hC hlocks htab hw hT (by decide +kernel) hl.1 dX4_value_29 dX4_value_32 dX4_value_33 dX4_value_35 dX4_value_38 (Nat.le_of_ble_eq_true rfl) (Nat.le_of_ble_eq_true rfl) ⟨Nat.le_of_ble_eq_true rfl, Nat.le_of_ble_eq_true rfl⟩
theorem lst_sub {b t : Nat} : ∀ n k, tb (lst b t n).1 k = 1 → tb b k = 1 ∧ 1 ≤ k ∧ k ≤ n := by
  intro n
  induction n with
  | zero => intro k h; rw [show (lst b t 0).1 = 0 from rfl, tb_zero] at h; exact absurd h (by decide)
  | succ n ih =>
    intro k h
    by_cases hc : (lst b t n).2 < t ∧ tb b (n + 1) = 1
    · rw [show lst b t (n + 1) = _ from if_pos hc] at h
      rw [tb_or] at h
      by_cases hk : k = n + 1
      · subst hk; exact ⟨hc.2, by omega, Nat.le_refl _⟩
      · rw [if_neg hk] at h
        obtain ⟨h1, h2, h3⟩ := ih k h
        exact ⟨h1, h2, by omega⟩
    · rw [show lst b t (n + 1) = _ from if_neg hc] at h
      obtain ⟨h1, h2, h3⟩ := ih k h
      exact ⟨h1, h2, by omega⟩

set_option maxHeartbeats 4000000 in
set_option maxRecDepth 100000 in
theorem c_publish (l : Launch) {D : va_G} {cI cJ cZ cD : ClassId} {ad : Nat → Nat} {w : Nat → va_E} {sz : Nat} (n t cl qu en kp : Nat) (dl ou cp ks pt : Nat → Nat) (co sh : Nat → Nat → Nat) (vs : Nat → Int64) (hok : OkS n t cl qu en kp dl ou cp ks pt co sh) (hRC : RC ad cI cJ cD w n t cl qu en kp dl ou cp ks pt co sh vs) (hcl0 : cl = 1) (hge : t ≤ pcN kp) (hlt : en < 300)  : MW l yX4_publish (.code yX4_publish cX4_publish 2 (some .int)) ({ frames := 4, cells := 0, slots := 0, locals := 126 }) [.ref (ad 0)] D (tyL cI cJ cZ cD) ad 89 w sz (some (.int (nI (cmb (lst kp t 16).1 pt 16)))) (fun u => (∀ z, 76 < z → u z = w z) ∧ RC ad cI cJ cD u n t 1 qu (en + 1) 0 dl ou cp ks pt co sh (vp_updL vs (en + 1) (lN (cmb (lst kp t 16).1 pt 16)))) := by
  refine MW.of (by decide) (Nat.le_of_ble_eq_true rfl) ?_
  intro p e s m below meth c ls hC hr hlocks hl hw
  obtain ⟨hx, hb, hml, hown, hts⟩ := id hC
  have hA : ∀ q, s.heap.size ≤ q → xA ad 89 s.heap.size q := fun q h => Or.inr h
  have hl : lv_has ls 2 [(0, .ref (ad 0))] := hl
  obtain ⟨⟨wh, h0, hwh⟩, ⟨df, hDa, hdf⟩, hRd, ⟨kf, pf, hKf, hPf, hky⟩, ⟨msg, bas, vf, ptf, ivf, hR, hVs, hPt, hIv, hmsg, hptv, hiv⟩, ⟨sa0, sx0, sy0, hSt⟩⟩ := id hRC
  obtain ⟨⟨hn, ht, hcl, hqu, hen, hkp⟩, hle, ⟨hqb, hkb, hcb⟩, hvals, hclv, hptl, ⟨hz1, hz2, hz3⟩⟩ := id hok
  subst hcl0
  refine lv_aload_n hx hb dX4_publish_0 rfl (lv_at hl 0 rfl) ?_
  refine x_callW0 (As := []) (rest := []) hC vf_X4_141 hw hA (by decide) h0 rfl rfl (k_needClosed l n t qu wh h0) ⟨rfl, rfl, Nat.le_of_ble_eq_true rfl, Nat.le_of_ble_eq_true rfl⟩ hl.1 (Nat.le_of_ble_eq_true rfl) dX4_publish_1 ⟨Nat.zero_le _, Nat.zero_le _⟩ rfl (fun w_1 H locs hu hw => ?_)
  rw [hu] at hw
  have hpc := pcN_le kp
  refine lv_aload_n hx hb dX4_publish_4 rfl (lv_at hl 0 rfl) ?_
  refine gf_X4_26 hx hb hts hown hw (by decide) h0 rfl dX4_publish_5 ?_
  refine gf_X4_153 hx hb hts hown hw (by decide) hR rfl dX4_publish_8 ?_
  refine x_callS (As := [.int (nI kp)]) (rest := []) hC sf_X4_131 (k_bitCount l (nI kp)) ⟨rfl, rfl, Nat.le_of_ble_eq_true rfl, Nat.le_of_ble_eq_true rfl⟩ hl.1 (Nat.le_of_ble_eq_true rfl) dX4_publish_11 ⟨Nat.zero_le _, Nat.zero_le _⟩ rfl ?_
  rw [bc_pc (by omega)]
  refine lv_aload_n hx hb dX4_publish_14 rfl (lv_at hl 0 rfl) ?_
  refine gf_X4_48 hx hb hts hown hw (by decide) h0 rfl dX4_publish_15 ?_
  refine lv_icmp_ge (tgt := 31) hx hb dX4_publish_18 (by decide) (fun q1 => ?_) (fun q1 => absurd (nI_le (by omega) (by omega)) q1)
  refine lv_aload_n hx hb dX4_publish_31 rfl (lv_at hl 0 rfl) ?_
  refine gf_X4_26 hx hb hts hown hw (by decide) h0 rfl dX4_publish_32 ?_
  refine gf_X4_147 hx hb hts hown hw (by decide) hR rfl dX4_publish_35 ?_
  refine lv_sipush (v := nI 300) hx hb dX4_publish_38 (by decide) ?_
  refine lv_icmp_lt (tgt := 54) hx hb dX4_publish_41 (by decide) (fun q2 => ?_) (fun q2 => absurd (nI_lt (by omega) (by omega)) q2)
  refine lv_aload_n hx hb dX4_publish_54 rfl (lv_at hl 0 rfl) ?_
  refine gf_X4_26 hx hb hts hown hw (by decide) h0 rfl dX4_publish_55 ?_
  refine lv_aload_n hx hb dX4_publish_58 rfl (lv_at hl 0 rfl) ?_
  refine gf_X4_26 hx hb hts hown hw (by decide) h0 rfl dX4_publish_59 ?_
  refine lv_aload_n hx hb dX4_publish_62 rfl (lv_at hl 0 rfl) ?_
  refine gf_X4_48 hx hb hts hown hw (by decide) h0 rfl dX4_publish_63 ?_
  refine x_callW1 (As := [.int (nI t)]) (rest := [.ref (ad 72)]) hC vf_X4_195 hw hA (by decide) hR rfl rfl (k_leastKept l kp t (by omega) (by omega) _ _ _ hR) ⟨rfl, rfl, Nat.le_of_ble_eq_true rfl, Nat.le_of_ble_eq_true rfl⟩ hl.1 (Nat.le_of_ble_eq_true rfl) dX4_publish_66 ⟨Nat.zero_le _, Nat.zero_le _⟩ rfl (fun w_2 H locs hu hw => ?_)
  rw [hu] at hw
  obtain ⟨hl1, hl2, hl3⟩ := lst_lt kp t 16 (Nat.le_refl _)
  refine x_callW1 (As := [.int (nI ((lst kp t 16).1))]) (rest := []) hC vf_X4_185 hw hA (by decide) hR rfl rfl (k_combine l _ _ _ _ ivf hiv ptf pt (lst kp t 16).1 (by omega) (fun k h1 h2 h3 => ⟨hptv k (lst_sub 16 k h3).1, hptl k (lst_sub 16 k h3).1⟩) hR hPt hIv) ⟨rfl, rfl, Nat.le_of_ble_eq_true rfl, Nat.le_of_ble_eq_true rfl⟩ hl.1 (Nat.le_of_ble_eq_true rfl) dX4_publish_69 ⟨Nat.zero_le _, Nat.zero_le _⟩ rfl (fun w_3 H locs hu hw => ?_)
  rw [hu] at hw
  have hcl9 := cmb_lt (lst kp t 16).1 pt 16
  refine lv_istore_n (lv' := [(1, .int (nI (cmb (lst kp t 16).1 pt 16))), (0, .ref (ad 0))]) hx hb dX4_publish_72 rfl hl (by decide) rfl (fun ls hl => ?_)
  refine lv_aload_n hx hb dX4_publish_73 rfl (lv_at hl 1 rfl) ?_
  refine gf_X4_26 hx hb hts hown hw (by decide) h0 rfl dX4_publish_74 ?_
  refine lv_iload_n hx hb dX4_publish_77 rfl (lv_at hl 0 rfl) ?_
  refine x_callW0 (As := [.int (nI (cmb (lst kp t 16).1 pt 16))]) (rest := []) hC vf_X4_198 hw hA (by decide) hR rfl rfl (k_endWith l en (cmb (lst kp t 16).1 pt 16) hlt (by omega) _ _ _ vf hR hVs) ⟨rfl, rfl, Nat.le_of_ble_eq_true rfl, Nat.le_of_ble_eq_true rfl⟩ hl.1 (Nat.le_of_ble_eq_true rfl) dX4_publish_78 ⟨Nat.zero_le _, Nat.zero_le _⟩ rfl (fun w_4 H locs huE hw => ?_)
  have hneE : ∀ z, z ≠ 72 → z ≠ 73 → w_4 z = w z := fun z h1 h2 => by rw [huE, va_up_ne _ _ h1, va_up_ne _ _ h2]
  refine lv_iload_n hx hb dX4_publish_81 rfl (lv_at hl 0 rfl) ?_
  obtain ⟨hm1, hm2, hm3⟩ := hmsg rfl
  refine x_wretI hx hb hr hlocks hw ⟨fun z hz => hneE z (by omega) (by omega), RCo.of ⟨wh, h0, hwh⟩ (hneE 0 (by decide) (by decide)), RCa.of ⟨df, hDa, hdf⟩ (hneE 1 (by decide) (by decide)), hRd.of (fun z h1 h2 => hneE z (by omega) (by omega)), RCk.of ⟨kf, pf, hKf, hPf, hky⟩ (hneE 70 (by decide) (by decide)) (hneE 71 (by decide) (by decide)), ⟨_, _, vp_updL vf (en + 1) (lN (cmb (lst kp t 16).1 pt 16)), ptf, ivf, by rw [huE]; exact va_up_self _ _ _, (by rw [huE, va_up_ne _ _ (by decide)]; exact va_up_self _ _ _), (hneE 74 (by decide) (by decide)).trans hPt, (hneE 75 (by decide) (by decide)).trans hIv, fun _ => ⟨by rw [pk_uLs], by rw [pk_uLs], fun j hj => ?_⟩, fun k q => absurd q (by rw [tb_zero]; decide), hiv⟩, RCs.of ⟨sa0, sx0, sy0, hSt⟩ (hneE 76 (by decide) (by decide))⟩ dX4_publish_82
  by_cases hje : j = en + 1
  · subst hje; rw [pk_uLs, pk_uLs]
  · rw [pk_uLn hje, pk_uLn hje]; exact hm3 j (by omega)
set_option maxHeartbeats 4000000 in
set_option maxRecDepth 100000 in
theorem c_publishS1 (l : Launch) (hl0 : l.stackTraces = false) {D : va_G} {cI cJ cZ cD : ClassId} {ad : Nat → Nat} {sa : Nat → Nat} {w : Nat → va_E} {sz : Nat} (n t cl qu en kp : Nat) (dl ou cp ks pt : Nat → Nat) (co sh : Nat → Nat → Nat) (vs : Nat → Int64) (hok : OkS n t cl qu en kp dl ou cp ks pt co sh) (hRC : RC ad cI cJ cD w n t cl qu en kp dl ou cp ks pt co sh vs) (hcl0 : cl = 0)  : MT l yX4_publish (.code yX4_publish cX4_publish 2 (some .int)) ({ frames := 7, cells := 1, slots := 6, locals := 110 }) [.ref (ad 0)] D (tyL cI cJ cZ cD) ad 89 w sz sa "java/lang/IllegalStateException" := by
  refine MT.of (by decide) (Nat.le_of_ble_eq_true rfl) ?_
  intro p e s m below meth c ls hC hlocks htab hl hw hT
  obtain ⟨hx, hb, hml, hown, hts⟩ := id hC
  have hA : ∀ q, s.heap.size ≤ q → xA ad 89 s.heap.size q := fun q h => Or.inr h
  have hl : lv_has ls 2 [(0, .ref (ad 0))] := hl
  obtain ⟨⟨wh, h0, hwh⟩, ⟨df, hDa, hdf⟩, hRd, ⟨kf, pf, hKf, hPf, hky⟩, ⟨msg, bas, vf, ptf, ivf, hR, hVs, hPt, hIv, hmsg, hptv, hiv⟩, ⟨sa0, sx0, sy0, hSt⟩⟩ := id hRC
  obtain ⟨⟨hn, ht, hcl, hqu, hen, hkp⟩, hle, ⟨hqb, hkb, hcb⟩, hvals, hclv, hptl, ⟨hz1, hz2, hz3⟩⟩ := id hok
  subst hcl0
  refine lv_aload_n hx hb dX4_publish_0 rfl (lv_at hl 0 rfl) ?_
  exact x_prop (As := []) (rest := []) hC vf_X4_141 hlocks htab hw hT (by decide) h0 rfl rfl (k_needClosedT l hl0 n t qu wh h0) ⟨rfl, rfl, Nat.le_of_ble_eq_true rfl, Nat.le_of_ble_eq_true rfl⟩ hl.1 (Nat.le_of_ble_eq_true rfl) dX4_publish_1 ⟨Nat.le_of_ble_eq_true rfl, Nat.le_of_ble_eq_true rfl⟩ rfl
set_option maxHeartbeats 4000000 in
set_option maxRecDepth 100000 in
theorem c_publishS2 (l : Launch) (hl0 : l.stackTraces = false) {D : va_G} {cI cJ cZ cD : ClassId} {ad : Nat → Nat} {sa : Nat → Nat} {w : Nat → va_E} {sz : Nat} (n t cl qu en kp : Nat) (dl ou cp ks pt : Nat → Nat) (co sh : Nat → Nat → Nat) (vs : Nat → Int64) (hok : OkS n t cl qu en kp dl ou cp ks pt co sh) (hRC : RC ad cI cJ cD w n t cl qu en kp dl ou cp ks pt co sh vs) (hcl0 : cl = 1) (hge : pcN kp < t)  : MT l yX4_publish (.code yX4_publish cX4_publish 2 (some .int)) ({ frames := 6, cells := 1, slots := 6, locals := 82 }) [.ref (ad 0)] D (tyL cI cJ cZ cD) ad 89 w sz sa "java/lang/IllegalStateException" := by
  refine MT.of (by decide) (Nat.le_of_ble_eq_true rfl) ?_
  intro p e s m below meth c ls hC hlocks htab hl hw hT
  obtain ⟨hx, hb, hml, hown, hts⟩ := id hC
  have hA : ∀ q, s.heap.size ≤ q → xA ad 89 s.heap.size q := fun q h => Or.inr h
  have hl : lv_has ls 2 [(0, .ref (ad 0))] := hl
  obtain ⟨⟨wh, h0, hwh⟩, ⟨df, hDa, hdf⟩, hRd, ⟨kf, pf, hKf, hPf, hky⟩, ⟨msg, bas, vf, ptf, ivf, hR, hVs, hPt, hIv, hmsg, hptv, hiv⟩, ⟨sa0, sx0, sy0, hSt⟩⟩ := id hRC
  obtain ⟨⟨hn, ht, hcl, hqu, hen, hkp⟩, hle, ⟨hqb, hkb, hcb⟩, hvals, hclv, hptl, ⟨hz1, hz2, hz3⟩⟩ := id hok
  subst hcl0
  refine lv_aload_n hx hb dX4_publish_0 rfl (lv_at hl 0 rfl) ?_
  refine x_callW0 (As := []) (rest := []) hC vf_X4_141 hw hA (by decide) h0 rfl rfl (k_needClosed l n t qu wh h0) ⟨rfl, rfl, Nat.le_of_ble_eq_true rfl, Nat.le_of_ble_eq_true rfl⟩ hl.1 (Nat.le_of_ble_eq_true rfl) dX4_publish_1 ⟨Nat.zero_le _, Nat.zero_le _⟩ rfl (fun w_1 H locs hu hw => ?_)
  rw [hu] at hw
  have hpc := pcN_le kp
  refine lv_aload_n hx hb dX4_publish_4 rfl (lv_at hl 0 rfl) ?_
  refine gf_X4_26 hx hb hts hown hw (by decide) h0 rfl dX4_publish_5 ?_
  refine gf_X4_153 hx hb hts hown hw (by decide) hR rfl dX4_publish_8 ?_
  refine x_callS (As := [.int (nI kp)]) (rest := []) hC sf_X4_131 (k_bitCount l (nI kp)) ⟨rfl, rfl, Nat.le_of_ble_eq_true rfl, Nat.le_of_ble_eq_true rfl⟩ hl.1 (Nat.le_of_ble_eq_true rfl) dX4_publish_11 ⟨Nat.zero_le _, Nat.zero_le _⟩ rfl ?_
  rw [bc_pc (by omega)]
  refine lv_aload_n hx hb dX4_publish_14 rfl (lv_at hl 0 rfl) ?_
  refine gf_X4_48 hx hb hts hown hw (by decide) h0 rfl dX4_publish_15 ?_
  refine lv_icmp_ge (tgt := 31) hx hb dX4_publish_18 (by decide) (fun q1 => absurd q1 (fun q => by rw [nI_leI (by omega) (by omega)] at q; omega)) (fun q1 => ?_)
  exact x_throwISE (is := 188) (text := "less than t parts are kept") hl0 hC hlocks htab hw hT (by decide +kernel) hl.1 dX4_publish_21 dX4_publish_24 dX4_publish_25 dX4_publish_27 dX4_publish_30 (Nat.le_of_ble_eq_true rfl) (Nat.le_of_ble_eq_true rfl) ⟨Nat.le_of_ble_eq_true rfl, Nat.le_of_ble_eq_true rfl⟩
set_option maxHeartbeats 4000000 in
set_option maxRecDepth 100000 in
theorem c_publishU (l : Launch) (hl0 : l.stackTraces = false) {D : va_G} {cI cJ cZ cD : ClassId} {ad : Nat → Nat} {sa : Nat → Nat} {w : Nat → va_E} {sz : Nat} (n t cl qu en kp : Nat) (dl ou cp ks pt : Nat → Nat) (co sh : Nat → Nat → Nat) (vs : Nat → Int64) (hok : OkS n t cl qu en kp dl ou cp ks pt co sh) (hRC : RC ad cI cJ cD w n t cl qu en kp dl ou cp ks pt co sh vs) (hcl0 : cl = 1) (hge : t ≤ pcN kp) (hlt : en = 300)  : MT l yX4_publish (.code yX4_publish cX4_publish 2 (some .int)) ({ frames := 6, cells := 1, slots := 6, locals := 82 }) [.ref (ad 0)] D (tyL cI cJ cZ cD) ad 89 w sz sa "java/lang/UnsupportedOperationException" := by
  refine MT.of (by decide) (Nat.le_of_ble_eq_true rfl) ?_
  intro p e s m below meth c ls hC hlocks htab hl hw hT
  obtain ⟨hx, hb, hml, hown, hts⟩ := id hC
  have hA : ∀ q, s.heap.size ≤ q → xA ad 89 s.heap.size q := fun q h => Or.inr h
  have hl : lv_has ls 2 [(0, .ref (ad 0))] := hl
  obtain ⟨⟨wh, h0, hwh⟩, ⟨df, hDa, hdf⟩, hRd, ⟨kf, pf, hKf, hPf, hky⟩, ⟨msg, bas, vf, ptf, ivf, hR, hVs, hPt, hIv, hmsg, hptv, hiv⟩, ⟨sa0, sx0, sy0, hSt⟩⟩ := id hRC
  obtain ⟨⟨hn, ht, hcl, hqu, hen, hkp⟩, hle, ⟨hqb, hkb, hcb⟩, hvals, hclv, hptl, ⟨hz1, hz2, hz3⟩⟩ := id hok
  subst hcl0
  refine lv_aload_n hx hb dX4_publish_0 rfl (lv_at hl 0 rfl) ?_
  refine x_callW0 (As := []) (rest := []) hC vf_X4_141 hw hA (by decide) h0 rfl rfl (k_needClosed l n t qu wh h0) ⟨rfl, rfl, Nat.le_of_ble_eq_true rfl, Nat.le_of_ble_eq_true rfl⟩ hl.1 (Nat.le_of_ble_eq_true rfl) dX4_publish_1 ⟨Nat.zero_le _, Nat.zero_le _⟩ rfl (fun w_1 H locs hu hw => ?_)
  rw [hu] at hw
  have hpc := pcN_le kp
  refine lv_aload_n hx hb dX4_publish_4 rfl (lv_at hl 0 rfl) ?_
  refine gf_X4_26 hx hb hts hown hw (by decide) h0 rfl dX4_publish_5 ?_
  refine gf_X4_153 hx hb hts hown hw (by decide) hR rfl dX4_publish_8 ?_
  refine x_callS (As := [.int (nI kp)]) (rest := []) hC sf_X4_131 (k_bitCount l (nI kp)) ⟨rfl, rfl, Nat.le_of_ble_eq_true rfl, Nat.le_of_ble_eq_true rfl⟩ hl.1 (Nat.le_of_ble_eq_true rfl) dX4_publish_11 ⟨Nat.zero_le _, Nat.zero_le _⟩ rfl ?_
  rw [bc_pc (by omega)]
  refine lv_aload_n hx hb dX4_publish_14 rfl (lv_at hl 0 rfl) ?_
  refine gf_X4_48 hx hb hts hown hw (by decide) h0 rfl dX4_publish_15 ?_
  refine lv_icmp_ge (tgt := 31) hx hb dX4_publish_18 (by decide) (fun q1 => ?_) (fun q1 => absurd (nI_le (by omega) (by omega)) q1)
  refine lv_aload_n hx hb dX4_publish_31 rfl (lv_at hl 0 rfl) ?_
  refine gf_X4_26 hx hb hts hown hw (by decide) h0 rfl dX4_publish_32 ?_
  refine gf_X4_147 hx hb hts hown hw (by decide) hR rfl dX4_publish_35 ?_
  refine lv_sipush (v := nI 300) hx hb dX4_publish_38 (by decide) ?_
  refine lv_icmp_lt (tgt := 54) hx hb dX4_publish_41 (by decide) (fun q2 => absurd q2 (nI_nlt (by omega) (by omega))) (fun q2 => ?_)
  exact x_throwUOE (is := 192) (text := "300 rounds ended") hl0 hC hlocks htab hw hT (by decide +kernel) hl.1 dX4_publish_44 dX4_publish_47 dX4_publish_48 dX4_publish_50 dX4_publish_53 (Nat.le_of_ble_eq_true rfl) (Nat.le_of_ble_eq_true rfl) ⟨Nat.le_of_ble_eq_true rfl, Nat.le_of_ble_eq_true rfl⟩
set_option maxHeartbeats 4000000 in
set_option maxRecDepth 100000 in
theorem c_ended (l : Launch) {D : va_G} {cI cJ cZ cD : ClassId} {ad : Nat → Nat} {w : Nat → va_E} {sz : Nat} (n t cl qu en kp : Nat) (dl ou cp ks pt : Nat → Nat) (co sh : Nat → Nat → Nat) (vs : Nat → Int64) (hok : OkS n t cl qu en kp dl ou cp ks pt co sh) (hRC : RC ad cI cJ cD w n t cl qu en kp dl ou cp ks pt co sh vs) (r : Nat) (hr0 : r ≤ en) (hcl0 : cl = 1)  : MW l yX4_ended (.code yX4_ended cX4_ended 2 (some .long)) ({ frames := 2, cells := 0, slots := 0, locals := 64 }) [.ref (ad 0), .int (nI r)] D (tyL cI cJ cZ cD) ad 89 w sz (some (.long (vs r))) (fun u => u = w) := by
  refine MW.of (by decide) (Nat.le_of_ble_eq_true rfl) ?_
  intro p e s m below meth c ls hC hr hlocks hl hw
  obtain ⟨hx, hb, hml, hown, hts⟩ := id hC
  have hA : ∀ q, s.heap.size ≤ q → xA ad 89 s.heap.size q := fun q h => Or.inr h
  have hl : lv_has ls 2 [(0, .ref (ad 0)), (1, .int (nI r))] := hl
  obtain ⟨⟨wh, h0, hwh⟩, ⟨df, hDa, hdf⟩, hRd, ⟨kf, pf, hKf, hPf, hky⟩, ⟨msg, bas, vf, ptf, ivf, hR, hVs, hPt, hIv, hmsg, hptv, hiv⟩, ⟨sa0, sx0, sy0, hSt⟩⟩ := id hRC
  obtain ⟨⟨hn, ht, hcl, hqu, hen, hkp⟩, hle, ⟨hqb, hkb, hcb⟩, hvals, hclv, hptl, ⟨hz1, hz2, hz3⟩⟩ := id hok
  subst hcl0
  refine lv_aload_n hx hb dX4_ended_0 rfl (lv_at hl 0 rfl) ?_
  refine lv_iload_n hx hb dX4_ended_1 rfl (lv_at hl 1 rfl) ?_
  refine x_callW0 (As := [.int (nI r)]) (rest := []) hC vf_X4_201 hw hA (by decide) h0 rfl rfl (k_needEnded l n t qu wh en hen _ _ _ r hr0 h0 hR) ⟨rfl, rfl, Nat.le_of_ble_eq_true rfl, Nat.le_of_ble_eq_true rfl⟩ hl.1 (Nat.le_of_ble_eq_true rfl) dX4_ended_2 ⟨Nat.zero_le _, Nat.zero_le _⟩ rfl (fun w_1 H locs hu hw => ?_)
  rw [hu] at hw
  refine lv_aload_n hx hb dX4_ended_5 rfl (lv_at hl 0 rfl) ?_
  refine gf_X4_26 hx hb hts hown hw (by decide) h0 rfl dX4_ended_6 ?_
  refine gf_X4_204 hx hb hts hown hw (by decide) hR rfl dX4_ended_9 ?_
  refine lv_iload_n hx hb dX4_ended_12 rfl (lv_at hl 1 rfl) ?_
  refine x_lald hx hb hw (by decide) 1 hVs rfl (j := r) (by omega) (by decide) ((hmsg rfl).2.2 r hr0) dX4_ended_13 ?_
  exact x_wretL hx hb hr hlocks hw rfl dX4_ended_14
set_option maxHeartbeats 4000000 in
set_option maxRecDepth 100000 in
theorem c_endedN (l : Launch) (hl0 : l.stackTraces = false) {D : va_G} {cI cJ cZ cD : ClassId} {ad : Nat → Nat} {sa : Nat → Nat} {w : Nat → va_E} {sz : Nat} (n t cl qu en kp : Nat) (dl ou cp ks pt : Nat → Nat) (co sh : Nat → Nat → Nat) (vs : Nat → Int64) (hok : OkS n t cl qu en kp dl ou cp ks pt co sh) (hRC : RC ad cI cJ cD w n t cl qu en kp dl ou cp ks pt co sh vs) (r : Int32) (hr0 : r < 0)  : MT l yX4_ended (.code yX4_ended cX4_ended 2 (some .long)) ({ frames := 7, cells := 1, slots := 6, locals := 111 }) [.ref (ad 0), .int r] D (tyL cI cJ cZ cD) ad 89 w sz sa "java/lang/IllegalArgumentException" := by
  refine MT.of (by decide) (Nat.le_of_ble_eq_true rfl) ?_
  intro p e s m below meth c ls hC hlocks htab hl hw hT
  obtain ⟨hx, hb, hml, hown, hts⟩ := id hC
  have hA : ∀ q, s.heap.size ≤ q → xA ad 89 s.heap.size q := fun q h => Or.inr h
  have hl : lv_has ls 2 [(0, .ref (ad 0)), (1, .int r)] := hl
  obtain ⟨⟨wh, h0, hwh⟩, ⟨df, hDa, hdf⟩, hRd, ⟨kf, pf, hKf, hPf, hky⟩, ⟨msg, bas, vf, ptf, ivf, hR, hVs, hPt, hIv, hmsg, hptv, hiv⟩, ⟨sa0, sx0, sy0, hSt⟩⟩ := id hRC
  obtain ⟨⟨hn, ht, hcl, hqu, hen, hkp⟩, hle, ⟨hqb, hkb, hcb⟩, hvals, hclv, hptl, ⟨hz1, hz2, hz3⟩⟩ := id hok
  refine lv_aload_n hx hb dX4_ended_0 rfl (lv_at hl 0 rfl) ?_
  refine lv_iload_n hx hb dX4_ended_1 rfl (lv_at hl 1 rfl) ?_
  exact x_prop (As := [.int r]) (rest := []) hC vf_X4_201 hlocks htab hw hT (by decide) h0 rfl rfl (k_needEndedN l hl0 n t cl qu wh r hr0 h0) ⟨rfl, rfl, Nat.le_of_ble_eq_true rfl, Nat.le_of_ble_eq_true rfl⟩ hl.1 (Nat.le_of_ble_eq_true rfl) dX4_ended_2 ⟨Nat.le_of_ble_eq_true rfl, Nat.le_of_ble_eq_true rfl⟩ rfl
set_option maxHeartbeats 4000000 in
set_option maxRecDepth 100000 in
theorem c_endedC (l : Launch) (hl0 : l.stackTraces = false) {D : va_G} {cI cJ cZ cD : ClassId} {ad : Nat → Nat} {sa : Nat → Nat} {w : Nat → va_E} {sz : Nat} (n t cl qu en kp : Nat) (dl ou cp ks pt : Nat → Nat) (co sh : Nat → Nat → Nat) (vs : Nat → Int64) (hok : OkS n t cl qu en kp dl ou cp ks pt co sh) (hRC : RC ad cI cJ cD w n t cl qu en kp dl ou cp ks pt co sh vs) (r : Int32) (hr0 : ¬ r < 0) (hcl0 : cl = 0)  : MT l yX4_ended (.code yX4_ended cX4_ended 2 (some .long)) ({ frames := 8, cells := 1, slots := 6, locals := 139 }) [.ref (ad 0), .int r] D (tyL cI cJ cZ cD) ad 89 w sz sa "java/lang/IllegalStateException" := by
  refine MT.of (by decide) (Nat.le_of_ble_eq_true rfl) ?_
  intro p e s m below meth c ls hC hlocks htab hl hw hT
  obtain ⟨hx, hb, hml, hown, hts⟩ := id hC
  have hA : ∀ q, s.heap.size ≤ q → xA ad 89 s.heap.size q := fun q h => Or.inr h
  have hl : lv_has ls 2 [(0, .ref (ad 0)), (1, .int r)] := hl
  obtain ⟨⟨wh, h0, hwh⟩, ⟨df, hDa, hdf⟩, hRd, ⟨kf, pf, hKf, hPf, hky⟩, ⟨msg, bas, vf, ptf, ivf, hR, hVs, hPt, hIv, hmsg, hptv, hiv⟩, ⟨sa0, sx0, sy0, hSt⟩⟩ := id hRC
  obtain ⟨⟨hn, ht, hcl, hqu, hen, hkp⟩, hle, ⟨hqb, hkb, hcb⟩, hvals, hclv, hptl, ⟨hz1, hz2, hz3⟩⟩ := id hok
  subst hcl0
  refine lv_aload_n hx hb dX4_ended_0 rfl (lv_at hl 0 rfl) ?_
  refine lv_iload_n hx hb dX4_ended_1 rfl (lv_at hl 1 rfl) ?_
  exact x_prop (As := [.int r]) (rest := []) hC vf_X4_201 hlocks htab hw hT (by decide) h0 rfl rfl (k_needEndedC l hl0 n t qu wh r hr0 h0) ⟨rfl, rfl, Nat.le_of_ble_eq_true rfl, Nat.le_of_ble_eq_true rfl⟩ hl.1 (Nat.le_of_ble_eq_true rfl) dX4_ended_2 ⟨Nat.le_of_ble_eq_true rfl, Nat.le_of_ble_eq_true rfl⟩ rfl
set_option maxHeartbeats 4000000 in
set_option maxRecDepth 100000 in
theorem c_endedA (l : Launch) (hl0 : l.stackTraces = false) {D : va_G} {cI cJ cZ cD : ClassId} {ad : Nat → Nat} {sa : Nat → Nat} {w : Nat → va_E} {sz : Nat} (n t cl qu en kp : Nat) (dl ou cp ks pt : Nat → Nat) (co sh : Nat → Nat → Nat) (vs : Nat → Int64) (hok : OkS n t cl qu en kp dl ou cp ks pt co sh) (hRC : RC ad cI cJ cD w n t cl qu en kp dl ou cp ks pt co sh vs) (r : Int32) (hr0 : ¬ r < 0) (hr1 : ¬ r ≤ nI en) (hcl0 : cl = 1)  : MT l yX4_ended (.code yX4_ended cX4_ended 2 (some .long)) ({ frames := 7, cells := 1, slots := 6, locals := 111 }) [.ref (ad 0), .int r] D (tyL cI cJ cZ cD) ad 89 w sz sa "java/lang/IllegalArgumentException" := by
  refine MT.of (by decide) (Nat.le_of_ble_eq_true rfl) ?_
  intro p e s m below meth c ls hC hlocks htab hl hw hT
  obtain ⟨hx, hb, hml, hown, hts⟩ := id hC
  have hA : ∀ q, s.heap.size ≤ q → xA ad 89 s.heap.size q := fun q h => Or.inr h
  have hl : lv_has ls 2 [(0, .ref (ad 0)), (1, .int r)] := hl
  obtain ⟨⟨wh, h0, hwh⟩, ⟨df, hDa, hdf⟩, hRd, ⟨kf, pf, hKf, hPf, hky⟩, ⟨msg, bas, vf, ptf, ivf, hR, hVs, hPt, hIv, hmsg, hptv, hiv⟩, ⟨sa0, sx0, sy0, hSt⟩⟩ := id hRC
  obtain ⟨⟨hn, ht, hcl, hqu, hen, hkp⟩, hle, ⟨hqb, hkb, hcb⟩, hvals, hclv, hptl, ⟨hz1, hz2, hz3⟩⟩ := id hok
  subst hcl0
  refine lv_aload_n hx hb dX4_ended_0 rfl (lv_at hl 0 rfl) ?_
  refine lv_iload_n hx hb dX4_ended_1 rfl (lv_at hl 1 rfl) ?_
  exact x_prop (As := [.int r]) (rest := []) hC vf_X4_201 hlocks htab hw hT (by decide) h0 rfl rfl (k_needEndedA l hl0 n t qu wh en hen _ _ _ r hr0 hr1 h0 hR) ⟨rfl, rfl, Nat.le_of_ble_eq_true rfl, Nat.le_of_ble_eq_true rfl⟩ hl.1 (Nat.le_of_ble_eq_true rfl) dX4_ended_2 ⟨Nat.le_of_ble_eq_true rfl, Nat.le_of_ble_eq_true rfl⟩ rfl
set_option maxHeartbeats 4000000 in
set_option maxRecDepth 100000 in
theorem c_random (l : Launch) {D : va_G} {cI cJ cZ cD : ClassId} {ad : Nat → Nat} {w : Nat → va_E} {sz : Nat} (n t cl qu en kp : Nat) (dl ou cp ks pt : Nat → Nat) (co sh : Nat → Nat → Nat) (vs : Nat → Int64) (hok : OkS n t cl qu en kp dl ou cp ks pt co sh) (hRC : RC ad cI cJ cD w n t cl qu en kp dl ou cp ks pt co sh vs) (r : Nat) (hr0 : r ≤ en) (hcl0 : cl = 1)  : MW l yX4_random (.code yX4_random cX4_random 2 (some .long)) ({ frames := 2, cells := 0, slots := 0, locals := 64 }) [.ref (ad 0), .int (nI r)] D (tyL cI cJ cZ cD) ad 89 w sz (some (.long (stirF (stirF (lN 0) (vs r)) (lN r)))) (fun u => u = w) := by
  refine MW.of (by decide) (Nat.le_of_ble_eq_true rfl) ?_
  intro p e s m below meth c ls hC hr hlocks hl hw
  obtain ⟨hx, hb, hml, hown, hts⟩ := id hC
  have hA : ∀ q, s.heap.size ≤ q → xA ad 89 s.heap.size q := fun q h => Or.inr h
  have hl : lv_has ls 2 [(0, .ref (ad 0)), (1, .int (nI r))] := hl
  obtain ⟨⟨wh, h0, hwh⟩, ⟨df, hDa, hdf⟩, hRd, ⟨kf, pf, hKf, hPf, hky⟩, ⟨msg, bas, vf, ptf, ivf, hR, hVs, hPt, hIv, hmsg, hptv, hiv⟩, ⟨sa0, sx0, sy0, hSt⟩⟩ := id hRC
  obtain ⟨⟨hn, ht, hcl, hqu, hen, hkp⟩, hle, ⟨hqb, hkb, hcb⟩, hvals, hclv, hptl, ⟨hz1, hz2, hz3⟩⟩ := id hok
  subst hcl0
  refine lv_aload_n hx hb dX4_random_0 rfl (lv_at hl 0 rfl) ?_
  refine lv_iload_n hx hb dX4_random_1 rfl (lv_at hl 1 rfl) ?_
  refine x_callW0 (As := [.int (nI r)]) (rest := []) hC vf_X4_201 hw hA (by decide) h0 rfl rfl (k_needEnded l n t qu wh en hen _ _ _ r hr0 h0 hR) ⟨rfl, rfl, Nat.le_of_ble_eq_true rfl, Nat.le_of_ble_eq_true rfl⟩ hl.1 (Nat.le_of_ble_eq_true rfl) dX4_random_2 ⟨Nat.zero_le _, Nat.zero_le _⟩ rfl (fun w_1 H locs hu hw => ?_)
  rw [hu] at hw
  refine lv_aload_n hx hb dX4_random_5 rfl (lv_at hl 0 rfl) ?_
  refine gf_X4_26 hx hb hts hown hw (by decide) h0 rfl dX4_random_6 ?_
  refine gf_X4_204 hx hb hts hown hw (by decide) hR rfl dX4_random_9 ?_
  refine lv_iload_n hx hb dX4_random_12 rfl (lv_at hl 1 rfl) ?_
  refine x_lald hx hb hw (by decide) 1 hVs rfl (j := r) (by omega) (by decide) ((hmsg rfl).2.2 r hr0) dX4_random_13 ?_
  refine lv_iload_n hx hb dX4_random_14 rfl (lv_at hl 1 rfl) ?_
  refine lv_i2l hx hb dX4_random_15 (nI_l (by omega)) ?_
  refine x_callS (As := [.long (vs r), .long (lN r)]) (rest := []) hC sf_X4_208 (k_hash l (vs r) (lN r)) ⟨rfl, rfl, Nat.le_of_ble_eq_true rfl, Nat.le_of_ble_eq_true rfl⟩ hl.1 (Nat.le_of_ble_eq_true rfl) dX4_random_16 ⟨Nat.zero_le _, Nat.zero_le _⟩ rfl ?_
  exact x_wretL hx hb hr hlocks hw rfl dX4_random_19
set_option maxHeartbeats 4000000 in
set_option maxRecDepth 100000 in
theorem c_randomN (l : Launch) (hl0 : l.stackTraces = false) {D : va_G} {cI cJ cZ cD : ClassId} {ad : Nat → Nat} {sa : Nat → Nat} {w : Nat → va_E} {sz : Nat} (n t cl qu en kp : Nat) (dl ou cp ks pt : Nat → Nat) (co sh : Nat → Nat → Nat) (vs : Nat → Int64) (hok : OkS n t cl qu en kp dl ou cp ks pt co sh) (hRC : RC ad cI cJ cD w n t cl qu en kp dl ou cp ks pt co sh vs) (r : Int32) (hr0 : r < 0)  : MT l yX4_random (.code yX4_random cX4_random 2 (some .long)) ({ frames := 7, cells := 1, slots := 6, locals := 111 }) [.ref (ad 0), .int r] D (tyL cI cJ cZ cD) ad 89 w sz sa "java/lang/IllegalArgumentException" := by
  refine MT.of (by decide) (Nat.le_of_ble_eq_true rfl) ?_
  intro p e s m below meth c ls hC hlocks htab hl hw hT
  obtain ⟨hx, hb, hml, hown, hts⟩ := id hC
  have hA : ∀ q, s.heap.size ≤ q → xA ad 89 s.heap.size q := fun q h => Or.inr h
  have hl : lv_has ls 2 [(0, .ref (ad 0)), (1, .int r)] := hl
  obtain ⟨⟨wh, h0, hwh⟩, ⟨df, hDa, hdf⟩, hRd, ⟨kf, pf, hKf, hPf, hky⟩, ⟨msg, bas, vf, ptf, ivf, hR, hVs, hPt, hIv, hmsg, hptv, hiv⟩, ⟨sa0, sx0, sy0, hSt⟩⟩ := id hRC
  obtain ⟨⟨hn, ht, hcl, hqu, hen, hkp⟩, hle, ⟨hqb, hkb, hcb⟩, hvals, hclv, hptl, ⟨hz1, hz2, hz3⟩⟩ := id hok
  refine lv_aload_n hx hb dX4_random_0 rfl (lv_at hl 0 rfl) ?_
  refine lv_iload_n hx hb dX4_random_1 rfl (lv_at hl 1 rfl) ?_
  exact x_prop (As := [.int r]) (rest := []) hC vf_X4_201 hlocks htab hw hT (by decide) h0 rfl rfl (k_needEndedN l hl0 n t cl qu wh r hr0 h0) ⟨rfl, rfl, Nat.le_of_ble_eq_true rfl, Nat.le_of_ble_eq_true rfl⟩ hl.1 (Nat.le_of_ble_eq_true rfl) dX4_random_2 ⟨Nat.le_of_ble_eq_true rfl, Nat.le_of_ble_eq_true rfl⟩ rfl
set_option maxHeartbeats 4000000 in
set_option maxRecDepth 100000 in
theorem c_randomC (l : Launch) (hl0 : l.stackTraces = false) {D : va_G} {cI cJ cZ cD : ClassId} {ad : Nat → Nat} {sa : Nat → Nat} {w : Nat → va_E} {sz : Nat} (n t cl qu en kp : Nat) (dl ou cp ks pt : Nat → Nat) (co sh : Nat → Nat → Nat) (vs : Nat → Int64) (hok : OkS n t cl qu en kp dl ou cp ks pt co sh) (hRC : RC ad cI cJ cD w n t cl qu en kp dl ou cp ks pt co sh vs) (r : Int32) (hr0 : ¬ r < 0) (hcl0 : cl = 0)  : MT l yX4_random (.code yX4_random cX4_random 2 (some .long)) ({ frames := 8, cells := 1, slots := 6, locals := 139 }) [.ref (ad 0), .int r] D (tyL cI cJ cZ cD) ad 89 w sz sa "java/lang/IllegalStateException" := by
  refine MT.of (by decide) (Nat.le_of_ble_eq_true rfl) ?_
  intro p e s m below meth c ls hC hlocks htab hl hw hT
  obtain ⟨hx, hb, hml, hown, hts⟩ := id hC
  have hA : ∀ q, s.heap.size ≤ q → xA ad 89 s.heap.size q := fun q h => Or.inr h
  have hl : lv_has ls 2 [(0, .ref (ad 0)), (1, .int r)] := hl
  obtain ⟨⟨wh, h0, hwh⟩, ⟨df, hDa, hdf⟩, hRd, ⟨kf, pf, hKf, hPf, hky⟩, ⟨msg, bas, vf, ptf, ivf, hR, hVs, hPt, hIv, hmsg, hptv, hiv⟩, ⟨sa0, sx0, sy0, hSt⟩⟩ := id hRC
  obtain ⟨⟨hn, ht, hcl, hqu, hen, hkp⟩, hle, ⟨hqb, hkb, hcb⟩, hvals, hclv, hptl, ⟨hz1, hz2, hz3⟩⟩ := id hok
  subst hcl0
  refine lv_aload_n hx hb dX4_random_0 rfl (lv_at hl 0 rfl) ?_
  refine lv_iload_n hx hb dX4_random_1 rfl (lv_at hl 1 rfl) ?_
  exact x_prop (As := [.int r]) (rest := []) hC vf_X4_201 hlocks htab hw hT (by decide) h0 rfl rfl (k_needEndedC l hl0 n t qu wh r hr0 h0) ⟨rfl, rfl, Nat.le_of_ble_eq_true rfl, Nat.le_of_ble_eq_true rfl⟩ hl.1 (Nat.le_of_ble_eq_true rfl) dX4_random_2 ⟨Nat.le_of_ble_eq_true rfl, Nat.le_of_ble_eq_true rfl⟩ rfl
set_option maxHeartbeats 4000000 in
set_option maxRecDepth 100000 in
theorem c_randomA (l : Launch) (hl0 : l.stackTraces = false) {D : va_G} {cI cJ cZ cD : ClassId} {ad : Nat → Nat} {sa : Nat → Nat} {w : Nat → va_E} {sz : Nat} (n t cl qu en kp : Nat) (dl ou cp ks pt : Nat → Nat) (co sh : Nat → Nat → Nat) (vs : Nat → Int64) (hok : OkS n t cl qu en kp dl ou cp ks pt co sh) (hRC : RC ad cI cJ cD w n t cl qu en kp dl ou cp ks pt co sh vs) (r : Int32) (hr0 : ¬ r < 0) (hr1 : ¬ r ≤ nI en) (hcl0 : cl = 1)  : MT l yX4_random (.code yX4_random cX4_random 2 (some .long)) ({ frames := 7, cells := 1, slots := 6, locals := 111 }) [.ref (ad 0), .int r] D (tyL cI cJ cZ cD) ad 89 w sz sa "java/lang/IllegalArgumentException" := by
  refine MT.of (by decide) (Nat.le_of_ble_eq_true rfl) ?_
  intro p e s m below meth c ls hC hlocks htab hl hw hT
  obtain ⟨hx, hb, hml, hown, hts⟩ := id hC
  have hA : ∀ q, s.heap.size ≤ q → xA ad 89 s.heap.size q := fun q h => Or.inr h
  have hl : lv_has ls 2 [(0, .ref (ad 0)), (1, .int r)] := hl
  obtain ⟨⟨wh, h0, hwh⟩, ⟨df, hDa, hdf⟩, hRd, ⟨kf, pf, hKf, hPf, hky⟩, ⟨msg, bas, vf, ptf, ivf, hR, hVs, hPt, hIv, hmsg, hptv, hiv⟩, ⟨sa0, sx0, sy0, hSt⟩⟩ := id hRC
  obtain ⟨⟨hn, ht, hcl, hqu, hen, hkp⟩, hle, ⟨hqb, hkb, hcb⟩, hvals, hclv, hptl, ⟨hz1, hz2, hz3⟩⟩ := id hok
  subst hcl0
  refine lv_aload_n hx hb dX4_random_0 rfl (lv_at hl 0 rfl) ?_
  refine lv_iload_n hx hb dX4_random_1 rfl (lv_at hl 1 rfl) ?_
  exact x_prop (As := [.int r]) (rest := []) hC vf_X4_201 hlocks htab hw hT (by decide) h0 rfl rfl (k_needEndedA l hl0 n t qu wh en hen _ _ _ r hr0 hr1 h0 hR) ⟨rfl, rfl, Nat.le_of_ble_eq_true rfl, Nat.le_of_ble_eq_true rfl⟩ hl.1 (Nat.le_of_ble_eq_true rfl) dX4_random_2 ⟨Nat.le_of_ble_eq_true rfl, Nat.le_of_ble_eq_true rfl⟩ rfl
set_option maxHeartbeats 4000000 in
set_option maxRecDepth 100000 in
theorem c_about0 (l : Launch) {D : va_G} {cI cJ cZ cD : ClassId} {ad : Nat → Nat} {w : Nat → va_E} {sz : Nat} (n t cl qu en kp : Nat) (dl ou cp ks pt : Nat → Nat) (co sh : Nat → Nat → Nat) (vs : Nat → Int64) (hok : OkS n t cl qu en kp dl ou cp ks pt co sh) (hRC : RC ad cI cJ cD w n t cl qu en kp dl ou cp ks pt co sh vs)  : MW l yX4_about (.code yX4_about cX4_about 2 (some .int)) ({ frames := 2, cells := 0, slots := 0, locals := 58 }) [.ref (ad 0), .int (nI 0)] D (tyL cI cJ cZ cD) ad 89 w sz (some (.int (nI n))) (fun u => u = w) := by
  refine MW.of (by decide) (Nat.le_of_ble_eq_true rfl) ?_
  intro p e s m below meth c ls hC hr hlocks hl hw
  obtain ⟨hx, hb, hml, hown, hts⟩ := id hC
  have hA : ∀ q, s.heap.size ≤ q → xA ad 89 s.heap.size q := fun q h => Or.inr h
  have hl : lv_has ls 2 [(0, .ref (ad 0)), (1, .int (nI 0))] := hl
  obtain ⟨⟨wh, h0, hwh⟩, ⟨df, hDa, hdf⟩, hRd, ⟨kf, pf, hKf, hPf, hky⟩, ⟨msg, bas, vf, ptf, ivf, hR, hVs, hPt, hIv, hmsg, hptv, hiv⟩, ⟨sa0, sx0, sy0, hSt⟩⟩ := id hRC
  obtain ⟨⟨hn, ht, hcl, hqu, hen, hkp⟩, hle, ⟨hqb, hkb, hcb⟩, hvals, hclv, hptl, ⟨hz1, hz2, hz3⟩⟩ := id hok
  refine lv_iload_n hx hb dX4_about_0 rfl (lv_at hl 1 rfl) ?_
  refine lv_tableIn (x := nI 0) (off := 47) (tgt := 48) hx hb dX4_about_1 (by decide) (by decide) (by decide) (by decide) ?_
  refine lv_aload_n hx hb dX4_about_48 rfl (lv_at hl 0 rfl) ?_
  refine gf_X4_44 hx hb hts hown hw (by decide) h0 rfl dX4_about_49 ?_
  exact x_wretI hx hb hr hlocks hw rfl dX4_about_52
set_option maxHeartbeats 4000000 in
set_option maxRecDepth 100000 in
theorem c_about1 (l : Launch) {D : va_G} {cI cJ cZ cD : ClassId} {ad : Nat → Nat} {w : Nat → va_E} {sz : Nat} (n t cl qu en kp : Nat) (dl ou cp ks pt : Nat → Nat) (co sh : Nat → Nat → Nat) (vs : Nat → Int64) (hok : OkS n t cl qu en kp dl ou cp ks pt co sh) (hRC : RC ad cI cJ cD w n t cl qu en kp dl ou cp ks pt co sh vs)  : MW l yX4_about (.code yX4_about cX4_about 2 (some .int)) ({ frames := 2, cells := 0, slots := 0, locals := 58 }) [.ref (ad 0), .int (nI 1)] D (tyL cI cJ cZ cD) ad 89 w sz (some (.int (nI t))) (fun u => u = w) := by
  refine MW.of (by decide) (Nat.le_of_ble_eq_true rfl) ?_
  intro p e s m below meth c ls hC hr hlocks hl hw
  obtain ⟨hx, hb, hml, hown, hts⟩ := id hC
  have hA : ∀ q, s.heap.size ≤ q → xA ad 89 s.heap.size q := fun q h => Or.inr h
  have hl : lv_has ls 2 [(0, .ref (ad 0)), (1, .int (nI 1))] := hl
  obtain ⟨⟨wh, h0, hwh⟩, ⟨df, hDa, hdf⟩, hRd, ⟨kf, pf, hKf, hPf, hky⟩, ⟨msg, bas, vf, ptf, ivf, hR, hVs, hPt, hIv, hmsg, hptv, hiv⟩, ⟨sa0, sx0, sy0, hSt⟩⟩ := id hRC
  obtain ⟨⟨hn, ht, hcl, hqu, hen, hkp⟩, hle, ⟨hqb, hkb, hcb⟩, hvals, hclv, hptl, ⟨hz1, hz2, hz3⟩⟩ := id hok
  refine lv_iload_n hx hb dX4_about_0 rfl (lv_at hl 1 rfl) ?_
  refine lv_tableIn (x := nI 1) (off := 52) (tgt := 53) hx hb dX4_about_1 (by decide) (by decide) (by decide) (by decide) ?_
  refine lv_aload_n hx hb dX4_about_53 rfl (lv_at hl 0 rfl) ?_
  refine gf_X4_48 hx hb hts hown hw (by decide) h0 rfl dX4_about_54 ?_
  exact x_wretI hx hb hr hlocks hw rfl dX4_about_57
set_option maxHeartbeats 4000000 in
set_option maxRecDepth 100000 in
theorem c_about2 (l : Launch) {D : va_G} {cI cJ cZ cD : ClassId} {ad : Nat → Nat} {w : Nat → va_E} {sz : Nat} (n t cl qu en kp : Nat) (dl ou cp ks pt : Nat → Nat) (co sh : Nat → Nat → Nat) (vs : Nat → Int64) (hok : OkS n t cl qu en kp dl ou cp ks pt co sh) (hRC : RC ad cI cJ cD w n t cl qu en kp dl ou cp ks pt co sh vs)  : MW l yX4_about (.code yX4_about cX4_about 2 (some .int)) ({ frames := 2, cells := 0, slots := 0, locals := 58 }) [.ref (ad 0), .int (nI 2)] D (tyL cI cJ cZ cD) ad 89 w sz (some (.int (nI (cnt dl n)))) (fun u => u = w) := by
  refine MW.of (by decide) (Nat.le_of_ble_eq_true rfl) ?_
  intro p e s m below meth c ls hC hr hlocks hl hw
  obtain ⟨hx, hb, hml, hown, hts⟩ := id hC
  have hA : ∀ q, s.heap.size ≤ q → xA ad 89 s.heap.size q := fun q h => Or.inr h
  have hl : lv_has ls 2 [(0, .ref (ad 0)), (1, .int (nI 2))] := hl
  obtain ⟨⟨wh, h0, hwh⟩, ⟨df, hDa, hdf⟩, hRd, ⟨kf, pf, hKf, hPf, hky⟩, ⟨msg, bas, vf, ptf, ivf, hR, hVs, hPt, hIv, hmsg, hptv, hiv⟩, ⟨sa0, sx0, sy0, hSt⟩⟩ := id hRC
  obtain ⟨⟨hn, ht, hcl, hqu, hen, hkp⟩, hle, ⟨hqb, hkb, hcb⟩, hvals, hclv, hptl, ⟨hz1, hz2, hz3⟩⟩ := id hok
  refine lv_iload_n hx hb dX4_about_0 rfl (lv_at hl 1 rfl) ?_
  refine lv_tableIn (x := nI 2) (off := 57) (tgt := 58) hx hb dX4_about_1 (by decide) (by decide) (by decide) (by decide) ?_
  refine lv_aload_n hx hb dX4_about_58 rfl (lv_at hl 0 rfl) ?_
  refine x_callW1 (As := []) (rest := []) hC vf_X4_214 hw hA (by decide) h0 rfl rfl (k_countDealt l n t cl qu wh hn df hdf dl ou cp co sh hRd (fun i => (hle i).1) h0 hDa) ⟨rfl, rfl, Nat.le_of_ble_eq_true rfl, Nat.le_of_ble_eq_true rfl⟩ hl.1 (Nat.le_of_ble_eq_true rfl) dX4_about_59 ⟨Nat.zero_le _, Nat.zero_le _⟩ rfl (fun w_1 H locs hu hw => ?_)
  rw [hu] at hw
  exact x_wretI hx hb hr hlocks hw rfl dX4_about_62
set_option maxHeartbeats 4000000 in
set_option maxRecDepth 100000 in
theorem c_about3 (l : Launch) {D : va_G} {cI cJ cZ cD : ClassId} {ad : Nat → Nat} {w : Nat → va_E} {sz : Nat} (n t cl qu en kp : Nat) (dl ou cp ks pt : Nat → Nat) (co sh : Nat → Nat → Nat) (vs : Nat → Int64) (hok : OkS n t cl qu en kp dl ou cp ks pt co sh) (hRC : RC ad cI cJ cD w n t cl qu en kp dl ou cp ks pt co sh vs)  : MW l yX4_about (.code yX4_about cX4_about 2 (some .int)) ({ frames := 2, cells := 0, slots := 0, locals := 58 }) [.ref (ad 0), .int (nI 3)] D (tyL cI cJ cZ cD) ad 89 w sz (some (.int (nI (cnt (fun i => pcN (cp i)) n)))) (fun u => u = w) := by
  refine MW.of (by decide) (Nat.le_of_ble_eq_true rfl) ?_
  intro p e s m below meth c ls hC hr hlocks hl hw
  obtain ⟨hx, hb, hml, hown, hts⟩ := id hC
  have hA : ∀ q, s.heap.size ≤ q → xA ad 89 s.heap.size q := fun q h => Or.inr h
  have hl : lv_has ls 2 [(0, .ref (ad 0)), (1, .int (nI 3))] := hl
  obtain ⟨⟨wh, h0, hwh⟩, ⟨df, hDa, hdf⟩, hRd, ⟨kf, pf, hKf, hPf, hky⟩, ⟨msg, bas, vf, ptf, ivf, hR, hVs, hPt, hIv, hmsg, hptv, hiv⟩, ⟨sa0, sx0, sy0, hSt⟩⟩ := id hRC
  obtain ⟨⟨hn, ht, hcl, hqu, hen, hkp⟩, hle, ⟨hqb, hkb, hcb⟩, hvals, hclv, hptl, ⟨hz1, hz2, hz3⟩⟩ := id hok
  refine lv_iload_n hx hb dX4_about_0 rfl (lv_at hl 1 rfl) ?_
  refine lv_tableIn (x := nI 3) (off := 62) (tgt := 63) hx hb dX4_about_1 (by decide) (by decide) (by decide) (by decide) ?_
  refine lv_aload_n hx hb dX4_about_63 rfl (lv_at hl 0 rfl) ?_
  refine x_callW1 (As := []) (rest := []) hC vf_X4_106 hw hA (by decide) h0 rfl rfl (k_countC l n t cl qu wh hn df hdf dl ou cp co sh hRd (fun i => (hle i).2.2) h0 hDa) ⟨rfl, rfl, Nat.le_of_ble_eq_true rfl, Nat.le_of_ble_eq_true rfl⟩ hl.1 (Nat.le_of_ble_eq_true rfl) dX4_about_64 ⟨Nat.zero_le _, Nat.zero_le _⟩ rfl (fun w_1 H locs hu hw => ?_)
  rw [hu] at hw
  exact x_wretI hx hb hr hlocks hw rfl dX4_about_67
set_option maxHeartbeats 4000000 in
set_option maxRecDepth 100000 in
theorem c_about4 (l : Launch) {D : va_G} {cI cJ cZ cD : ClassId} {ad : Nat → Nat} {w : Nat → va_E} {sz : Nat} (n t cl qu en kp : Nat) (dl ou cp ks pt : Nat → Nat) (co sh : Nat → Nat → Nat) (vs : Nat → Int64) (hok : OkS n t cl qu en kp dl ou cp ks pt co sh) (hRC : RC ad cI cJ cD w n t cl qu en kp dl ou cp ks pt co sh vs)  : MW l yX4_about (.code yX4_about cX4_about 2 (some .int)) ({ frames := 2, cells := 0, slots := 0, locals := 58 }) [.ref (ad 0), .int (nI 4)] D (tyL cI cJ cZ cD) ad 89 w sz (some (.int (nI (cnt ou n)))) (fun u => u = w) := by
  refine MW.of (by decide) (Nat.le_of_ble_eq_true rfl) ?_
  intro p e s m below meth c ls hC hr hlocks hl hw
  obtain ⟨hx, hb, hml, hown, hts⟩ := id hC
  have hA : ∀ q, s.heap.size ≤ q → xA ad 89 s.heap.size q := fun q h => Or.inr h
  have hl : lv_has ls 2 [(0, .ref (ad 0)), (1, .int (nI 4))] := hl
  obtain ⟨⟨wh, h0, hwh⟩, ⟨df, hDa, hdf⟩, hRd, ⟨kf, pf, hKf, hPf, hky⟩, ⟨msg, bas, vf, ptf, ivf, hR, hVs, hPt, hIv, hmsg, hptv, hiv⟩, ⟨sa0, sx0, sy0, hSt⟩⟩ := id hRC
  obtain ⟨⟨hn, ht, hcl, hqu, hen, hkp⟩, hle, ⟨hqb, hkb, hcb⟩, hvals, hclv, hptl, ⟨hz1, hz2, hz3⟩⟩ := id hok
  refine lv_iload_n hx hb dX4_about_0 rfl (lv_at hl 1 rfl) ?_
  refine lv_tableIn (x := nI 4) (off := 67) (tgt := 68) hx hb dX4_about_1 (by decide) (by decide) (by decide) (by decide) ?_
  refine lv_aload_n hx hb dX4_about_68 rfl (lv_at hl 0 rfl) ?_
  refine x_callW1 (As := []) (rest := []) hC vf_X4_217 hw hA (by decide) h0 rfl rfl (k_countOut l n t cl qu wh hn df hdf dl ou cp co sh hRd (fun i => (hle i).2.1) h0 hDa) ⟨rfl, rfl, Nat.le_of_ble_eq_true rfl, Nat.le_of_ble_eq_true rfl⟩ hl.1 (Nat.le_of_ble_eq_true rfl) dX4_about_69 ⟨Nat.zero_le _, Nat.zero_le _⟩ rfl (fun w_1 H locs hu hw => ?_)
  rw [hu] at hw
  exact x_wretI hx hb hr hlocks hw rfl dX4_about_72
set_option maxHeartbeats 4000000 in
set_option maxRecDepth 100000 in
theorem c_about5 (l : Launch) {D : va_G} {cI cJ cZ cD : ClassId} {ad : Nat → Nat} {w : Nat → va_E} {sz : Nat} (n t cl qu en kp : Nat) (dl ou cp ks pt : Nat → Nat) (co sh : Nat → Nat → Nat) (vs : Nat → Int64) (hok : OkS n t cl qu en kp dl ou cp ks pt co sh) (hRC : RC ad cI cJ cD w n t cl qu en kp dl ou cp ks pt co sh vs)  : MW l yX4_about (.code yX4_about cX4_about 2 (some .int)) ({ frames := 2, cells := 0, slots := 0, locals := 58 }) [.ref (ad 0), .int (nI 5)] D (tyL cI cJ cZ cD) ad 89 w sz (some (.int (nI (pcN qu)))) (fun u => u = w) := by
  refine MW.of (by decide) (Nat.le_of_ble_eq_true rfl) ?_
  intro p e s m below meth c ls hC hr hlocks hl hw
  obtain ⟨hx, hb, hml, hown, hts⟩ := id hC
  have hA : ∀ q, s.heap.size ≤ q → xA ad 89 s.heap.size q := fun q h => Or.inr h
  have hl : lv_has ls 2 [(0, .ref (ad 0)), (1, .int (nI 5))] := hl
  obtain ⟨⟨wh, h0, hwh⟩, ⟨df, hDa, hdf⟩, hRd, ⟨kf, pf, hKf, hPf, hky⟩, ⟨msg, bas, vf, ptf, ivf, hR, hVs, hPt, hIv, hmsg, hptv, hiv⟩, ⟨sa0, sx0, sy0, hSt⟩⟩ := id hRC
  obtain ⟨⟨hn, ht, hcl, hqu, hen, hkp⟩, hle, ⟨hqb, hkb, hcb⟩, hvals, hclv, hptl, ⟨hz1, hz2, hz3⟩⟩ := id hok
  refine lv_iload_n hx hb dX4_about_0 rfl (lv_at hl 1 rfl) ?_
  refine lv_tableIn (x := nI 5) (off := 72) (tgt := 73) hx hb dX4_about_1 (by decide) (by decide) (by decide) (by decide) ?_
  refine lv_aload_n hx hb dX4_about_73 rfl (lv_at hl 0 rfl) ?_
  refine gf_X4_55 hx hb hts hown hw (by decide) h0 rfl dX4_about_74 ?_
  refine x_callS (As := [.int (nI qu)]) (rest := []) hC sf_X4_131 (k_bitCount l (nI qu)) ⟨rfl, rfl, Nat.le_of_ble_eq_true rfl, Nat.le_of_ble_eq_true rfl⟩ hl.1 (Nat.le_of_ble_eq_true rfl) dX4_about_77 ⟨Nat.zero_le _, Nat.zero_le _⟩ rfl ?_
  rw [bc_pc (by omega)]
  exact x_wretI hx hb hr hlocks hw rfl dX4_about_80
set_option maxHeartbeats 4000000 in
set_option maxRecDepth 100000 in
theorem c_about6 (l : Launch) {D : va_G} {cI cJ cZ cD : ClassId} {ad : Nat → Nat} {w : Nat → va_E} {sz : Nat} (n t cl qu en kp : Nat) (dl ou cp ks pt : Nat → Nat) (co sh : Nat → Nat → Nat) (vs : Nat → Int64) (hok : OkS n t cl qu en kp dl ou cp ks pt co sh) (hRC : RC ad cI cJ cD w n t cl qu en kp dl ou cp ks pt co sh vs)  : MW l yX4_about (.code yX4_about cX4_about 2 (some .int)) ({ frames := 2, cells := 0, slots := 0, locals := 58 }) [.ref (ad 0), .int (nI 6)] D (tyL cI cJ cZ cD) ad 89 w sz (some (.int (nI qu))) (fun u => u = w) := by
  refine MW.of (by decide) (Nat.le_of_ble_eq_true rfl) ?_
  intro p e s m below meth c ls hC hr hlocks hl hw
  obtain ⟨hx, hb, hml, hown, hts⟩ := id hC
  have hA : ∀ q, s.heap.size ≤ q → xA ad 89 s.heap.size q := fun q h => Or.inr h
  have hl : lv_has ls 2 [(0, .ref (ad 0)), (1, .int (nI 6))] := hl
  obtain ⟨⟨wh, h0, hwh⟩, ⟨df, hDa, hdf⟩, hRd, ⟨kf, pf, hKf, hPf, hky⟩, ⟨msg, bas, vf, ptf, ivf, hR, hVs, hPt, hIv, hmsg, hptv, hiv⟩, ⟨sa0, sx0, sy0, hSt⟩⟩ := id hRC
  obtain ⟨⟨hn, ht, hcl, hqu, hen, hkp⟩, hle, ⟨hqb, hkb, hcb⟩, hvals, hclv, hptl, ⟨hz1, hz2, hz3⟩⟩ := id hok
  refine lv_iload_n hx hb dX4_about_0 rfl (lv_at hl 1 rfl) ?_
  refine lv_tableIn (x := nI 6) (off := 80) (tgt := 81) hx hb dX4_about_1 (by decide) (by decide) (by decide) (by decide) ?_
  refine lv_aload_n hx hb dX4_about_81 rfl (lv_at hl 0 rfl) ?_
  refine gf_X4_55 hx hb hts hown hw (by decide) h0 rfl dX4_about_82 ?_
  exact x_wretI hx hb hr hlocks hw rfl dX4_about_85
set_option maxHeartbeats 4000000 in
set_option maxRecDepth 100000 in
theorem c_about7 (l : Launch) {D : va_G} {cI cJ cZ cD : ClassId} {ad : Nat → Nat} {w : Nat → va_E} {sz : Nat} (n t cl qu en kp : Nat) (dl ou cp ks pt : Nat → Nat) (co sh : Nat → Nat → Nat) (vs : Nat → Int64) (hok : OkS n t cl qu en kp dl ou cp ks pt co sh) (hRC : RC ad cI cJ cD w n t cl qu en kp dl ou cp ks pt co sh vs)  : MW l yX4_about (.code yX4_about cX4_about 2 (some .int)) ({ frames := 2, cells := 0, slots := 0, locals := 58 }) [.ref (ad 0), .int (nI 7)] D (tyL cI cJ cZ cD) ad 89 w sz (some (.int (nI en))) (fun u => u = w) := by
  refine MW.of (by decide) (Nat.le_of_ble_eq_true rfl) ?_
  intro p e s m below meth c ls hC hr hlocks hl hw
  obtain ⟨hx, hb, hml, hown, hts⟩ := id hC
  have hA : ∀ q, s.heap.size ≤ q → xA ad 89 s.heap.size q := fun q h => Or.inr h
  have hl : lv_has ls 2 [(0, .ref (ad 0)), (1, .int (nI 7))] := hl
  obtain ⟨⟨wh, h0, hwh⟩, ⟨df, hDa, hdf⟩, hRd, ⟨kf, pf, hKf, hPf, hky⟩, ⟨msg, bas, vf, ptf, ivf, hR, hVs, hPt, hIv, hmsg, hptv, hiv⟩, ⟨sa0, sx0, sy0, hSt⟩⟩ := id hRC
  obtain ⟨⟨hn, ht, hcl, hqu, hen, hkp⟩, hle, ⟨hqb, hkb, hcb⟩, hvals, hclv, hptl, ⟨hz1, hz2, hz3⟩⟩ := id hok
  refine lv_iload_n hx hb dX4_about_0 rfl (lv_at hl 1 rfl) ?_
  refine lv_tableIn (x := nI 7) (off := 85) (tgt := 86) hx hb dX4_about_1 (by decide) (by decide) (by decide) (by decide) ?_
  refine lv_aload_n hx hb dX4_about_86 rfl (lv_at hl 0 rfl) ?_
  refine gf_X4_26 hx hb hts hown hw (by decide) h0 rfl dX4_about_87 ?_
  refine gf_X4_147 hx hb hts hown hw (by decide) hR rfl dX4_about_90 ?_
  exact x_wretI hx hb hr hlocks hw rfl dX4_about_93
set_option maxHeartbeats 4000000 in
set_option maxRecDepth 100000 in
theorem c_aboutA (l : Launch) (hl0 : l.stackTraces = false) {D : va_G} {cI cJ cZ cD : ClassId} {ad : Nat → Nat} {sa : Nat → Nat} {w : Nat → va_E} {sz : Nat} (n t cl qu en kp : Nat) (dl ou cp ks pt : Nat → Nat) (co sh : Nat → Nat → Nat) (vs : Nat → Int64) (hok : OkS n t cl qu en kp dl ou cp ks pt co sh) (hRC : RC ad cI cJ cD w n t cl qu en kp dl ou cp ks pt co sh vs) (x : Int32) (hbad : x < 0 ∨ ¬ x ≤ nI 7)  : MT l yX4_about (.code yX4_about cX4_about 2 (some .int)) ({ frames := 6, cells := 1, slots := 6, locals := 82 }) [.ref (ad 0), .int x] D (tyL cI cJ cZ cD) ad 89 w sz sa "java/lang/IllegalArgumentException" := by
  refine MT.of (by decide) (Nat.le_of_ble_eq_true rfl) ?_
  intro p e s m below meth c ls hC hlocks htab hl hw hT
  obtain ⟨hx, hb, hml, hown, hts⟩ := id hC
  have hA : ∀ q, s.heap.size ≤ q → xA ad 89 s.heap.size q := fun q h => Or.inr h
  have hl : lv_has ls 2 [(0, .ref (ad 0)), (1, .int x)] := hl
  obtain ⟨⟨wh, h0, hwh⟩, ⟨df, hDa, hdf⟩, hRd, ⟨kf, pf, hKf, hPf, hky⟩, ⟨msg, bas, vf, ptf, ivf, hR, hVs, hPt, hIv, hmsg, hptv, hiv⟩, ⟨sa0, sx0, sy0, hSt⟩⟩ := id hRC
  obtain ⟨⟨hn, ht, hcl, hqu, hen, hkp⟩, hle, ⟨hqb, hkb, hcb⟩, hvals, hclv, hptl, ⟨hz1, hz2, hz3⟩⟩ := id hok
  refine lv_iload_n hx hb dX4_about_0 rfl (lv_at hl 1 rfl) ?_
  refine lv_tableOut (x := x) (tgt := 94) hx hb dX4_about_1 (sw_out (b := 7) (by decide) hbad) (by decide) ?_
  exact x_throwIAE (is := 220) (text := "what is not 0 .. 7") hl0 hC hlocks htab hw hT (by decide +kernel) hl.1 dX4_about_94 dX4_about_97 dX4_about_98 dX4_about_100 dX4_about_103 (Nat.le_of_ble_eq_true rfl) (Nat.le_of_ble_eq_true rfl) ⟨Nat.le_of_ble_eq_true rfl, Nat.le_of_ble_eq_true rfl⟩
